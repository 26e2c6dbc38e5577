/-! Parting: contracts, 2 -/
section PT2
/-- two searches that differ in what they had kept -/
def kRl (l0 : Nat) (s s' : Nat × (Nat → Nat)) : Prop := s.1 = s'.1 ∧ s.1 ≤ l0 ∧ (s.1 = l0 ∨ s.2 = s'.2)
theorem foldN_rl {l0 : Nat} {g : Nat → Nat × (Nat → Nat) → Nat × (Nat → Nat)} (h : ∀ x s s', kRl l0 s s' → kRl l0 (g x s) (g x s')) : ∀ m s s', kRl l0 s s' → kRl l0 (foldN g m s) (foldN g m s')
  | 0, s, s', q => q
  | m + 1, s, s', q => h m _ _ (foldN_rl h m s s' q)
theorem kT_rl {l0 : Nat} (n k : Nat) (M : Nat → Nat → Nat) : ∀ (d v used cost : Nat) (f : Nat → Nat) (s s' : Nat × (Nat → Nat)), kRl l0 s s' → kRl l0 (kT n k M d v used cost f s) (kT n k M d v used cost f s')
  | 0, v, used, cost, f, s, s', q => by
    simp only [kT]
    rw [← q.1]
    split
    · rename_i h; exact ⟨rfl, by have := q.2.1; omega, Or.inr rfl⟩
    · exact q
  | d + 1, v, used, cost, f, s, s', q => by
    simp only [kT]
    rw [← q.1]
    split
    · exact foldN_rl (g := fun x st => kT n k M d (v + 1) (max used (x + 1)) (cost + pC M (va_up f v x) v) (va_up f v x) st) (fun x s s' q => kT_rl n k M d _ _ _ _ s s' q) _ _ _ q
    · exact q
/-- THE PARTS as the class seeks them -/
def kPR (n k : Nat) (M : Nat → Nat → Nat) : Nat × (Nat → Nat) := kT n k M n 0 0 0 (fun _ => 0) (2147483647, fun _ => 0)
theorem kPR_g {n k : Nat} {M : Nat → Nat → Nat} (g : Nat → Nat) (h : (kPR n k M).1 < 2147483647) : kT n k M n 0 0 0 (fun _ => 0) (2147483647, g) = kPR n k M := by
  have r := kT_rl (l0 := 2147483647) n k M n 0 0 0 (fun _ => 0) (2147483647, g) (2147483647, fun _ => 0) ⟨rfl, Nat.le_refl _, Or.inl rfl⟩
  obtain ⟨h1, h2, h3⟩ := r
  unfold kPR at h ⊢
  rcases h3 with q | q
  · omega
  · exact Prod.ext h1 q
variable {l : Launch} {D : va_G} {ad : Nat → Nat} {cI cII cP cZ : ClassId} {n am al ch : Nat} {fr to wt nb : Nat → Nat} {M : Nat → Nat → Nat} {tch : Int32} {cu : Nat → Nat} {rch : Int32} {pa br gp : Nat → Nat} {P : Nat → Int32 × Nat × (Nat → Nat) × (Nat → Nat)} {X : va_W} {j : Nat} {cs : Int32} {lc : Nat} {tr be : Nat → Nat}
set_option maxHeartbeats 4000000 in
set_option maxRecDepth 100000 in
theorem c_refreshP (hj : j < 4) (hn : n ≤ 10) (hM : ∀ a b, a < 12 → b < 12 → M a b ≤ 50000) (hf : (kPR n (j + 1) M).1 < 2147483647) (hR : cs = nI ch → lc = (kPR n (j + 1) M).1 ∧ ∀ u, u < n → be u = (kPR n (j + 1) M).2 u) : xMetS l yX4_refresh wX4_refresh (rD 13) D vwCl (tyC cI cII cP cZ) nwC [.ref (ad (27 + 3 * j))] (cwp ad cI cII cP n am al ch fr to wt nb M tch cu rch pa br gp P j cs lc tr be ++ X) (fun s : (Nat → Nat) × (Nat → Nat) => ∀ u, u < n → s.2 u = (kPR n (j + 1) M).2 u) (fun s => (cwp ad cI cII cP n am al ch fr to wt nb M tch cu rch pa br gp P j (nI ch) ((kPR n (j + 1) M).1) s.1 s.2 ++ X)) (fun _ => none) := by
  refine xMetS_of (cc := cX4_refresh) (maxL := 1) (ret := none) (by decide +kernel) rfl (Nat.le_of_ble_eq_true rfl) (fun _ _ => xfv) ?_
  intro E S hnm hret
  show xW E D vwCl 1 0 0 _ [(0, .ref (ad (27 + 3 * j)))] 0 []
  refine x_aload_n S dX4_refresh_0 0 rfl rfl ?_
  refine x_get S (27 + 3 * j) 5 (cwp_0 hj) rfl inC4 (by decide) (gC _ tw137) rfl rfl dX4_refresh_1 ?_
  refine x_aload_n S dX4_refresh_4 0 rfl rfl ?_
  refine x_get S (27 + 3 * j) 0 (cwp_0 hj) rfl inC4 (by decide) (gC _ tw130) rfl rfl dX4_refresh_5 ?_
  refine x_get S 0 8 rfl rfl inC2 (by decide) (gC _ tw49) rfl rfl dX4_refresh_8 ?_
  refine x_icmp_eq (tgt := 26) S dX4_refresh_11 (by decide) (fun h3 => ?_) (fun h3 => ?_)
  · obtain ⟨h4, h5⟩ := hR h3
    rw [h3, h4]
    exact hret ((tr, be)) _ _ h5 dX4_refresh_26
  refine x_aload_n S dX4_refresh_14 0 rfl rfl ?_
  refine x_get S (27 + 3 * j) 0 (cwp_0 hj) rfl inC4 (by decide) (gC _ tw130) rfl rfl dX4_refresh_15 ?_
  refine x_get S 0 5 rfl rfl inC2 (by decide) (gC _ tw39) rfl rfl dX4_refresh_18 ?_
  refine x_bipush (v := 10) S dX4_refresh_21 (by decide) ?_
  refine x_icmp_le (tgt := 27) S dX4_refresh_23 (by decide) (fun h4 => ?_) (fun h4 => ?_)
  rotate_left
  · exact absurd (nI_le hn (by omega)) h4
  refine x_aload_n S dX4_refresh_27 0 rfl rfl ?_
  refine x_aload_n S dX4_refresh_28 0 rfl rfl ?_
  refine x_get S (27 + 3 * j) 0 (cwp_0 hj) rfl inC4 (by decide) (gC _ tw130) rfl rfl dX4_refresh_29 ?_
  refine x_get S 0 8 rfl rfl inC2 (by decide) (gC _ tw49) rfl rfl dX4_refresh_32 ?_
  refine x_put (ws' := (cwp ad cI cII cP n am al ch fr to wt nb M tch cu rch pa br gp P j (nI ch) lc tr be ++ X)) S (27 + 3 * j) 5 (cwp_0 hj) rfl inC4 tyX4 tyX4_ok nmX4 (by decide) (gC _ tw137) rfl rfl (tyX4_ok 5 (by decide)) rfl rfl (Nat.le_of_ble_eq_true rfl) dX4_refresh_35 (cwp_s0 hj _ _) ?_
  refine x_aload_n S dX4_refresh_38 0 rfl rfl ?_
  refine x_ldc S (gC _ tw386) dX4_refresh_39 ?_
  refine x_put (ws' := (cwp ad cI cII cP n am al ch fr to wt nb M tch cu rch pa br gp P j (nI ch) 2147483647 tr be ++ X)) S (27 + 3 * j) 4 (cwp_0 hj) rfl inC4 tyX4 tyX4_ok nmX4 (by decide) (gC _ tw135) rfl rfl (tyX4_ok 4 (by decide)) rfl rfl (Nat.le_of_ble_eq_true rfl) dX4_refresh_41 (cwp_s0 hj _ 2147483647) ?_
  refine x_aload_n S dX4_refresh_44 0 rfl rfl ?_
  refine x_iconst (v := 0) S dX4_refresh_45 rfl ?_
  refine x_iconst (v := 0) S dX4_refresh_46 rfl ?_
  refine x_iconst (v := 0) S dX4_refresh_47 rfl ?_
  refine x_cSvS (n := 4) S (c_tryFrom hj hn hM n 0 0 0 2147483647 tr be (fun _ => 0) be (by omega) (by omega) (by omega) (by omega) (fun u hu => absurd hu (by omega)) (fun _ _ => rfl)) (gGS gC tw389 tw387 tw388 tw6) rfl (by decide +kernel) rfl rfl (Nat.le_of_ble_eq_true rfl) dX4_refresh_48 ⟨by show n + 2 + 1 ≤ 13; omega, by show 8 + (8 + 11) + 40 * (n + 2) ≤ 40 * 13; omega⟩ ⟨Nat.le_of_ble_eq_true rfl, Nat.le_of_ble_eq_true rfl⟩ (fun s hs => ?_)
  obtain ⟨lc2, tr2, be2⟩ := s
  obtain ⟨e1, e2, e3⟩ := hs
  rw [kPR_g be hf] at e1 e3
  simp only at e1 e3
  subst e1
  exact hret ((tr2, be2)) _ _ e3 dX4_refresh_51
end PT2
