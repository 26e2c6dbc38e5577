/-! the law: its loop -/
section LAW1
variable {E : xE} {l : Launch} {D : va_G} {cI cII cP cZ : ClassId} {ad bd : Nat → Nat} {b L : Nat} {xs : Nat → Int32} {cells slots : Nat}
set_option maxHeartbeats 4000000 in
set_option maxRecDepth 100000 in
theorem l_0 (S : xOK E l room_1 D vwCl (tyC cI cII cP cZ) cL_law R_law 4 (Cond.initialized RL :: gT) nwC) (hL : L ≤ 2048) (hX : va_X b L xs E.s E.s.heap) (hbl : b < E.s.heap.size) (hbA : ¬ E.A b) (hce : cells ≤ 600000 ∧ slots ≤ 7302250) {k : Nat} (hk : k ≤ 512) (hkL : 4 * k + 4 ≤ L) (NX : ∀ (n am al : Nat) (fr to wt : Nat → Nat) (h : HS) (g : MS), cInv (k + 1) n am al fr to wt h → mInv n am al fr to wt g → xW E D vwCl 4 cells slots ((cwH ad cI cII cP n am al fr to wt h) ++ (mwH bd cI cZ n am al g)) [(0, .ref b), (1, .ref (ad 25)), (2, .ref (bd 0)), (3, .int (nI (4 * k)))] 645 []) {n am al : Nat} {fr to wt : Nat → Nat} {h : HS} {g : MS} (hI : cInv k n am al fr to wt h) (hJ : mInv n am al fr to wt g) : xW E D vwCl 4 cells slots ((cwH ad cI cII cP n am al fr to wt h) ++ (mwH bd cI cZ n am al g)) [(0, .ref b), (1, .ref (ad 25)), (2, .ref (bd 0)), (3, .int (nI (4 * k)))] 132 [] := by
  by_cases h12 : n < 12
  · refine x_aload_n S dL_law_132 1 rfl rfl ?_
    refine x_cViS (n := 0) S (p_node_ok (by omega) h12 h hI) (gGV gC tw170 tw167 tw168 tw169 tw1) rfl (by decide +kernel) 25 rfl rfl rfl rfl (Nat.le_of_ble_eq_true rfl) dL_law_133 ⟨by decide, by decide⟩ hce (fun h1 hI1 => ?_)
    refine x_swap (w1 := cwH ad cI cII cP (n + 1) am al fr to wt h1) (w2 := (mwH bd cI cZ n am al g)) ?_
    refine x_aload_n S dL_law_136 2 rfl rfl ?_
    refine x_cViS (n := 0) S (q_node_ok h12 g hJ) (gGV gC tw530 tw527 tw528 tw529 tw7) rfl (by decide +kernel) 0 rfl rfl rfl rfl (Nat.le_of_ble_eq_true rfl) dL_law_137 ⟨by decide, by decide⟩ hce (fun g1 hJ1 => ?_)
    refine x_icmp_eq (tgt := 645) S dL_law_140 (by decide) (fun _ => ?_) (fun q => absurd rfl q)
    refine x_swap (w1 := mwH bd cI cZ (n + 1) am al g1) (w2 := cwH ad cI cII cP (n + 1) am al fr to wt h1) ?_
    exact NX (n + 1) am al fr to wt h1 g1 hI1 hJ1
  · refine x_aload_n S dL_law_132 1 rfl rfl ?_
    refine x_cViS (n := 0) S (p_node_no h12 h hI) (gGV gC tw170 tw167 tw168 tw169 tw1) rfl (by decide +kernel) 25 rfl rfl rfl rfl (Nat.le_of_ble_eq_true rfl) dL_law_133 ⟨by decide, by decide⟩ hce (fun h1 hI1 => ?_)
    refine x_swap (w1 := cwH ad cI cII cP n am al fr to wt h1) (w2 := (mwH bd cI cZ n am al g)) ?_
    refine x_aload_n S dL_law_136 2 rfl rfl ?_
    refine x_cViS (n := 0) S (q_node_no h12 g hJ) (gGV gC tw530 tw527 tw528 tw529 tw7) rfl (by decide +kernel) 0 rfl rfl rfl rfl (Nat.le_of_ble_eq_true rfl) dL_law_137 ⟨by decide, by decide⟩ hce (fun g1 hJ1 => ?_)
    refine x_icmp_eq (tgt := 645) S dL_law_140 (by decide) (fun _ => ?_) (fun q => absurd rfl q)
    refine x_swap (w1 := mwH bd cI cZ n am al g1) (w2 := cwH ad cI cII cP n am al fr to wt h1) ?_
    exact NX n am al fr to wt h1 g1 (cInv_up hI1) hJ1
set_option maxHeartbeats 4000000 in
set_option maxRecDepth 100000 in
theorem l_1 (S : xOK E l room_1 D vwCl (tyC cI cII cP cZ) cL_law R_law 4 (Cond.initialized RL :: gT) nwC) (hL : L ≤ 2048) (hX : va_X b L xs E.s E.s.heap) (hbl : b < E.s.heap.size) (hbA : ¬ E.A b) (hce : cells ≤ 600000 ∧ slots ≤ 7302250) {k : Nat} (hk : k ≤ 512) (hkL : 4 * k + 4 ≤ L) (NX : ∀ (n am al : Nat) (fr to wt : Nat → Nat) (h : HS) (g : MS), cInv (k + 1) n am al fr to wt h → mInv n am al fr to wt g → xW E D vwCl 4 cells slots ((cwH ad cI cII cP n am al fr to wt h) ++ (mwH bd cI cZ n am al g)) [(0, .ref b), (1, .ref (ad 25)), (2, .ref (bd 0)), (3, .int (nI (4 * k)))] 645 []) {n am al : Nat} {fr to wt : Nat → Nat} {h : HS} {g : MS} (hI : cInv k n am al fr to wt h) (hJ : mInv n am al fr to wt g) : xW E D vwCl 4 cells slots ((cwH ad cI cII cP n am al fr to wt h) ++ (mwH bd cI cZ n am al g)) [(0, .ref b), (1, .ref (ad 25)), (2, .ref (bd 0)), (3, .int (nI (4 * k)))] 145 [] := by
  by_cases hok : isP2 n (xs (4 * k + 1)) (xs (4 * k + 2)) ∧ 1 ≤ (xs (4 * k + 3)) ∧ (xs (4 * k + 3)) ≤ 1000 ∧ am < 50
  · obtain ⟨hp, hw1, hw2, h50⟩ := hok
    obtain ⟨i, j, hi, hj, hij, ea, eb, -, -⟩ := isP2_of hI.1.1 hp
    obtain ⟨ω, hω, ew⟩ := pl_of (x := (xs (4 * k + 3))) (Int32.le_trans (by decide) hw1)
    rw [ew] at hw1 hw2
    have hw1 : 1 ≤ ω := (nI_leI (a := 1) (by omega) (by omega)).mp hw1
    have hw2 : ω ≤ 1000 := (nI_leI (b := 1000) (by omega) (by omega)).mp hw2
    have hP := fun X => p_arc_ok (l := l) (D := D) (ad := ad) (cI := cI) (cII := cII) (cP := cP) (cZ := cZ) (X := X) (t := k) (by omega) hi hj hij hw1 hw2 h50 h hI
    have hQ := fun X => q_arc_ok (l := l) (D := D) (bd := bd) (cI := cI) (cII := cII) (cP := cP) (cZ := cZ) (X := X) hi hj hij hw1 hw2 h50 g hJ
    rw [← ea, ← eb, ← ew] at hP hQ
    refine x_aload_n S dL_law_145 1 rfl rfl ?_
    refine x_aload_n S dL_law_146 0 rfl rfl ?_
    refine x_iload_n S dL_law_147 3 rfl rfl ?_
    refine x_iconst (v := 1) S dL_law_148 rfl ?_
    refine x_iadd S dL_law_149 ?_
    refine x_top (nI (4 * k + 1)) (nI_add (4 * k) 1) ?_
    refine x_sld S hX hbl hbA (by omega) (4 * k + 1) rfl (by omega) dL_law_150 ?_
    refine x_aload_n S dL_law_151 0 rfl rfl ?_
    refine x_iload_n S dL_law_152 3 rfl rfl ?_
    refine x_iconst (v := 2) S dL_law_153 rfl ?_
    refine x_iadd S dL_law_154 ?_
    refine x_top (nI (4 * k + 2)) (nI_add (4 * k) 2) ?_
    refine x_sld S hX hbl hbA (by omega) (4 * k + 2) rfl (by omega) dL_law_155 ?_
    refine x_aload_n S dL_law_156 0 rfl rfl ?_
    refine x_iload_n S dL_law_157 3 rfl rfl ?_
    refine x_iconst (v := 3) S dL_law_158 rfl ?_
    refine x_iadd S dL_law_159 ?_
    refine x_top (nI (4 * k + 3)) (nI_add (4 * k) 3) ?_
    refine x_sld S hX hbl hbA (by omega) (4 * k + 3) rfl (by omega) dL_law_160 ?_
    refine x_cViS (n := 3) S (hP _) (gGV gC tw178 tw175 tw176 tw177 tw1) rfl (by decide +kernel) 25 rfl rfl rfl rfl (Nat.le_of_ble_eq_true rfl) dL_law_161 ⟨by decide, by decide⟩ hce (fun h1 hI1 => ?_)
    refine x_swap (w1 := cwH ad cI cII cP n (am + 1) (al + 1) (va_up fr am i) (va_up to am j) (va_up wt am ω) h1) (w2 := (mwH bd cI cZ n am al g)) ?_
    refine x_aload_n S dL_law_164 2 rfl rfl ?_
    refine x_aload_n S dL_law_165 0 rfl rfl ?_
    refine x_iload_n S dL_law_166 3 rfl rfl ?_
    refine x_iconst (v := 1) S dL_law_167 rfl ?_
    refine x_iadd S dL_law_168 ?_
    refine x_top (nI (4 * k + 1)) (nI_add (4 * k) 1) ?_
    refine x_sld S hX hbl hbA (by omega) (4 * k + 1) rfl (by omega) dL_law_169 ?_
    refine x_aload_n S dL_law_170 0 rfl rfl ?_
    refine x_iload_n S dL_law_171 3 rfl rfl ?_
    refine x_iconst (v := 2) S dL_law_172 rfl ?_
    refine x_iadd S dL_law_173 ?_
    refine x_top (nI (4 * k + 2)) (nI_add (4 * k) 2) ?_
    refine x_sld S hX hbl hbA (by omega) (4 * k + 2) rfl (by omega) dL_law_174 ?_
    refine x_aload_n S dL_law_175 0 rfl rfl ?_
    refine x_iload_n S dL_law_176 3 rfl rfl ?_
    refine x_iconst (v := 3) S dL_law_177 rfl ?_
    refine x_iadd S dL_law_178 ?_
    refine x_top (nI (4 * k + 3)) (nI_add (4 * k) 3) ?_
    refine x_sld S hX hbl hbA (by omega) (4 * k + 3) rfl (by omega) dL_law_179 ?_
    refine x_cViS (n := 3) S (hQ _) (gGV gC tw538 tw535 tw536 tw537 tw7) rfl (by decide +kernel) 0 rfl rfl rfl rfl (Nat.le_of_ble_eq_true rfl) dL_law_180 ⟨by decide, by decide⟩ hce (fun g1 hJ1 => ?_)
    refine x_icmp_eq (tgt := 645) S dL_law_183 (by decide) (fun _ => ?_) (fun q => absurd rfl q)
    refine x_swap (w1 := mwH bd cI cZ n (am + 1) (al + 1) g1) (w2 := cwH ad cI cII cP n (am + 1) (al + 1) (va_up fr am i) (va_up to am j) (va_up wt am ω) h1) ?_
    exact NX n (am + 1) (al + 1) (va_up fr am i) (va_up to am j) (va_up wt am ω) h1 g1 hI1 hJ1
  · refine x_aload_n S dL_law_145 1 rfl rfl ?_
    refine x_aload_n S dL_law_146 0 rfl rfl ?_
    refine x_iload_n S dL_law_147 3 rfl rfl ?_
    refine x_iconst (v := 1) S dL_law_148 rfl ?_
    refine x_iadd S dL_law_149 ?_
    refine x_top (nI (4 * k + 1)) (nI_add (4 * k) 1) ?_
    refine x_sld S hX hbl hbA (by omega) (4 * k + 1) rfl (by omega) dL_law_150 ?_
    refine x_aload_n S dL_law_151 0 rfl rfl ?_
    refine x_iload_n S dL_law_152 3 rfl rfl ?_
    refine x_iconst (v := 2) S dL_law_153 rfl ?_
    refine x_iadd S dL_law_154 ?_
    refine x_top (nI (4 * k + 2)) (nI_add (4 * k) 2) ?_
    refine x_sld S hX hbl hbA (by omega) (4 * k + 2) rfl (by omega) dL_law_155 ?_
    refine x_aload_n S dL_law_156 0 rfl rfl ?_
    refine x_iload_n S dL_law_157 3 rfl rfl ?_
    refine x_iconst (v := 3) S dL_law_158 rfl ?_
    refine x_iadd S dL_law_159 ?_
    refine x_top (nI (4 * k + 3)) (nI_add (4 * k) 3) ?_
    refine x_sld S hX hbl hbA (by omega) (4 * k + 3) rfl (by omega) dL_law_160 ?_
    refine x_cViS (n := 3) S (p_arc_no (xs (4 * k + 1)) (xs (4 * k + 2)) (xs (4 * k + 3)) hok h hI) (gGV gC tw178 tw175 tw176 tw177 tw1) rfl (by decide +kernel) 25 rfl rfl rfl rfl (Nat.le_of_ble_eq_true rfl) dL_law_161 ⟨by decide, by decide⟩ hce (fun h1 hI1 => ?_)
    refine x_swap (w1 := cwH ad cI cII cP n am al fr to wt h1) (w2 := (mwH bd cI cZ n am al g)) ?_
    refine x_aload_n S dL_law_164 2 rfl rfl ?_
    refine x_aload_n S dL_law_165 0 rfl rfl ?_
    refine x_iload_n S dL_law_166 3 rfl rfl ?_
    refine x_iconst (v := 1) S dL_law_167 rfl ?_
    refine x_iadd S dL_law_168 ?_
    refine x_top (nI (4 * k + 1)) (nI_add (4 * k) 1) ?_
    refine x_sld S hX hbl hbA (by omega) (4 * k + 1) rfl (by omega) dL_law_169 ?_
    refine x_aload_n S dL_law_170 0 rfl rfl ?_
    refine x_iload_n S dL_law_171 3 rfl rfl ?_
    refine x_iconst (v := 2) S dL_law_172 rfl ?_
    refine x_iadd S dL_law_173 ?_
    refine x_top (nI (4 * k + 2)) (nI_add (4 * k) 2) ?_
    refine x_sld S hX hbl hbA (by omega) (4 * k + 2) rfl (by omega) dL_law_174 ?_
    refine x_aload_n S dL_law_175 0 rfl rfl ?_
    refine x_iload_n S dL_law_176 3 rfl rfl ?_
    refine x_iconst (v := 3) S dL_law_177 rfl ?_
    refine x_iadd S dL_law_178 ?_
    refine x_top (nI (4 * k + 3)) (nI_add (4 * k) 3) ?_
    refine x_sld S hX hbl hbA (by omega) (4 * k + 3) rfl (by omega) dL_law_179 ?_
    refine x_cViS (n := 3) S (q_arc_no (xs (4 * k + 1)) (xs (4 * k + 2)) (xs (4 * k + 3)) hok g hJ) (gGV gC tw538 tw535 tw536 tw537 tw7) rfl (by decide +kernel) 0 rfl rfl rfl rfl (Nat.le_of_ble_eq_true rfl) dL_law_180 ⟨by decide, by decide⟩ hce (fun g1 hJ1 => ?_)
    refine x_icmp_eq (tgt := 645) S dL_law_183 (by decide) (fun _ => ?_) (fun q => absurd rfl q)
    refine x_swap (w1 := mwH bd cI cZ n am al g1) (w2 := cwH ad cI cII cP n am al fr to wt h1) ?_
    exact NX n am al fr to wt h1 g1 (cInv_up hI1) hJ1
set_option maxHeartbeats 4000000 in
set_option maxRecDepth 100000 in
theorem l_2 (S : xOK E l room_1 D vwCl (tyC cI cII cP cZ) cL_law R_law 4 (Cond.initialized RL :: gT) nwC) (hL : L ≤ 2048) (hX : va_X b L xs E.s E.s.heap) (hbl : b < E.s.heap.size) (hbA : ¬ E.A b) (hce : cells ≤ 600000 ∧ slots ≤ 7302250) {k : Nat} (hk : k ≤ 512) (hkL : 4 * k + 4 ≤ L) (NX : ∀ (n am al : Nat) (fr to wt : Nat → Nat) (h : HS) (g : MS), cInv (k + 1) n am al fr to wt h → mInv n am al fr to wt g → xW E D vwCl 4 cells slots ((cwH ad cI cII cP n am al fr to wt h) ++ (mwH bd cI cZ n am al g)) [(0, .ref b), (1, .ref (ad 25)), (2, .ref (bd 0)), (3, .int (nI (4 * k)))] 645 []) {n am al : Nat} {fr to wt : Nat → Nat} {h : HS} {g : MS} (hI : cInv k n am al fr to wt h) (hJ : mInv n am al fr to wt g) : xW E D vwCl 4 cells slots ((cwH ad cI cII cP n am al fr to wt h) ++ (mwH bd cI cZ n am al g)) [(0, .ref b), (1, .ref (ad 25)), (2, .ref (bd 0)), (3, .int (nI (4 * k)))] 188 [] := by
  by_cases hok : 0 ≤ (xs (4 * k + 1)) ∧ (xs (4 * k + 1)) < nI am ∧ 0 < wt ((xs (4 * k + 1))).toNatClampNeg
  · obtain ⟨hp, hq, hw⟩ := hok
    have ham := hI.1.2.1
    obtain ⟨j, hj, e⟩ := pl_of_lt (n := am) (by omega) hp hq
    rw [e, nI_clamp (by omega)] at hw
    have hP := fun X => p_drop_ok (l := l) (D := D) (ad := ad) (cI := cI) (cII := cII) (cP := cP) (cZ := cZ) (X := X) (t := k) (by omega) hj hw h hI
    have hQ := fun X => q_drop_ok (l := l) (D := D) (bd := bd) (cI := cI) (cII := cII) (cP := cP) (cZ := cZ) (X := X) hj hw g hJ
    rw [← e] at hP hQ
    refine x_aload_n S dL_law_188 1 rfl rfl ?_
    refine x_aload_n S dL_law_189 0 rfl rfl ?_
    refine x_iload_n S dL_law_190 3 rfl rfl ?_
    refine x_iconst (v := 1) S dL_law_191 rfl ?_
    refine x_iadd S dL_law_192 ?_
    refine x_top (nI (4 * k + 1)) (nI_add (4 * k) 1) ?_
    refine x_sld S hX hbl hbA (by omega) (4 * k + 1) rfl (by omega) dL_law_193 ?_
    refine x_cViS (n := 1) S (hP _) (gGV gC tw202 tw199 tw200 tw201 tw1) rfl (by decide +kernel) 25 rfl rfl rfl rfl (Nat.le_of_ble_eq_true rfl) dL_law_194 ⟨by decide, by decide⟩ hce (fun h1 hI1 => ?_)
    refine x_swap (w1 := cwH ad cI cII cP n am (al - 1) fr to (va_up wt j 0) h1) (w2 := (mwH bd cI cZ n am al g)) ?_
    refine x_aload_n S dL_law_197 2 rfl rfl ?_
    refine x_aload_n S dL_law_198 0 rfl rfl ?_
    refine x_iload_n S dL_law_199 3 rfl rfl ?_
    refine x_iconst (v := 1) S dL_law_200 rfl ?_
    refine x_iadd S dL_law_201 ?_
    refine x_top (nI (4 * k + 1)) (nI_add (4 * k) 1) ?_
    refine x_sld S hX hbl hbA (by omega) (4 * k + 1) rfl (by omega) dL_law_202 ?_
    refine x_cViS (n := 1) S (hQ _) (gGV gC tw546 tw543 tw544 tw545 tw7) rfl (by decide +kernel) 0 rfl rfl rfl rfl (Nat.le_of_ble_eq_true rfl) dL_law_203 ⟨by decide, by decide⟩ hce (fun g1 hJ1 => ?_)
    refine x_icmp_eq (tgt := 645) S dL_law_206 (by decide) (fun _ => ?_) (fun q => absurd rfl q)
    refine x_swap (w1 := mwH bd cI cZ n am (al - 1) g1) (w2 := cwH ad cI cII cP n am (al - 1) fr to (va_up wt j 0) h1) ?_
    exact NX n am (al - 1) fr to (va_up wt j 0) h1 g1 hI1 hJ1
  · refine x_aload_n S dL_law_188 1 rfl rfl ?_
    refine x_aload_n S dL_law_189 0 rfl rfl ?_
    refine x_iload_n S dL_law_190 3 rfl rfl ?_
    refine x_iconst (v := 1) S dL_law_191 rfl ?_
    refine x_iadd S dL_law_192 ?_
    refine x_top (nI (4 * k + 1)) (nI_add (4 * k) 1) ?_
    refine x_sld S hX hbl hbA (by omega) (4 * k + 1) rfl (by omega) dL_law_193 ?_
    refine x_cViS (n := 1) S (p_drop_no (xs (4 * k + 1)) hok h hI) (gGV gC tw202 tw199 tw200 tw201 tw1) rfl (by decide +kernel) 25 rfl rfl rfl rfl (Nat.le_of_ble_eq_true rfl) dL_law_194 ⟨by decide, by decide⟩ hce (fun h1 hI1 => ?_)
    refine x_swap (w1 := cwH ad cI cII cP n am al fr to wt h1) (w2 := (mwH bd cI cZ n am al g)) ?_
    refine x_aload_n S dL_law_197 2 rfl rfl ?_
    refine x_aload_n S dL_law_198 0 rfl rfl ?_
    refine x_iload_n S dL_law_199 3 rfl rfl ?_
    refine x_iconst (v := 1) S dL_law_200 rfl ?_
    refine x_iadd S dL_law_201 ?_
    refine x_top (nI (4 * k + 1)) (nI_add (4 * k) 1) ?_
    refine x_sld S hX hbl hbA (by omega) (4 * k + 1) rfl (by omega) dL_law_202 ?_
    refine x_cViS (n := 1) S (q_drop_no (xs (4 * k + 1)) hok g hJ) (gGV gC tw546 tw543 tw544 tw545 tw7) rfl (by decide +kernel) 0 rfl rfl rfl rfl (Nat.le_of_ble_eq_true rfl) dL_law_203 ⟨by decide, by decide⟩ hce (fun g1 hJ1 => ?_)
    refine x_icmp_eq (tgt := 645) S dL_law_206 (by decide) (fun _ => ?_) (fun q => absurd rfl q)
    refine x_swap (w1 := mwH bd cI cZ n am al g1) (w2 := cwH ad cI cII cP n am al fr to wt h1) ?_
    exact NX n am al fr to wt h1 g1 (cInv_up hI1) hJ1
set_option maxHeartbeats 4000000 in
set_option maxRecDepth 100000 in
theorem l_3 (S : xOK E l room_1 D vwCl (tyC cI cII cP cZ) cL_law R_law 4 (Cond.initialized RL :: gT) nwC) (hL : L ≤ 2048) (hX : va_X b L xs E.s E.s.heap) (hbl : b < E.s.heap.size) (hbA : ¬ E.A b) (hce : cells ≤ 600000 ∧ slots ≤ 7302250) {k : Nat} (hk : k ≤ 512) (hkL : 4 * k + 4 ≤ L) (NX : ∀ (n am al : Nat) (fr to wt : Nat → Nat) (h : HS) (g : MS), cInv (k + 1) n am al fr to wt h → mInv n am al fr to wt g → xW E D vwCl 4 cells slots ((cwH ad cI cII cP n am al fr to wt h) ++ (mwH bd cI cZ n am al g)) [(0, .ref b), (1, .ref (ad 25)), (2, .ref (bd 0)), (3, .int (nI (4 * k)))] 645 []) {n am al : Nat} {fr to wt : Nat → Nat} {h : HS} {g : MS} (hI : cInv k n am al fr to wt h) (hJ : mInv n am al fr to wt g) : xW E D vwCl 4 cells slots ((cwH ad cI cII cP n am al fr to wt h) ++ (mwH bd cI cZ n am al g)) [(0, .ref b), (1, .ref (ad 25)), (2, .ref (bd 0)), (3, .int (nI (4 * k)))] 211 [] := by
  refine x_aload_n S dL_law_211 1 rfl rfl ?_
  refine x_cViS (n := 0) S (p_clear (by omega) h hI) (gGV gC tw214 tw211 tw212 tw213 tw1) rfl (by decide +kernel) 25 rfl rfl rfl rfl (Nat.le_of_ble_eq_true rfl) dL_law_212 ⟨by decide, by decide⟩ hce (fun h1 hI1 => ?_)
  refine x_swap (w1 := cwH ad cI cII cP 0 0 0 fr to wt h1) (w2 := (mwH bd cI cZ n am al g)) ?_
  refine x_aload_n S dL_law_215 2 rfl rfl ?_
  refine x_cViS (n := 0) S (q_clear g hJ) (gGV gC tw550 tw547 tw548 tw549 tw7) rfl (by decide +kernel) 0 rfl rfl rfl rfl (Nat.le_of_ble_eq_true rfl) dL_law_216 ⟨by decide, by decide⟩ hce (fun g1 hJ1 => ?_)
  refine x_icmp_eq (tgt := 645) S dL_law_219 (by decide) (fun _ => ?_) (fun q => absurd rfl q)
  refine x_swap (w1 := mwH bd cI cZ 0 0 0 g1) (w2 := cwH ad cI cII cP 0 0 0 fr to wt h1) ?_
  exact NX 0 0 0 fr to wt h1 g1 hI1 hJ1
set_option maxHeartbeats 4000000 in
set_option maxRecDepth 100000 in
theorem l_4 (S : xOK E l room_1 D vwCl (tyC cI cII cP cZ) cL_law R_law 4 (Cond.initialized RL :: gT) nwC) (hL : L ≤ 2048) (hX : va_X b L xs E.s E.s.heap) (hbl : b < E.s.heap.size) (hbA : ¬ E.A b) (hce : cells ≤ 600000 ∧ slots ≤ 7302250) {k : Nat} (hk : k ≤ 512) (hkL : 4 * k + 4 ≤ L) (NX : ∀ (n am al : Nat) (fr to wt : Nat → Nat) (h : HS) (g : MS), cInv (k + 1) n am al fr to wt h → mInv n am al fr to wt g → xW E D vwCl 4 cells slots ((cwH ad cI cII cP n am al fr to wt h) ++ (mwH bd cI cZ n am al g)) [(0, .ref b), (1, .ref (ad 25)), (2, .ref (bd 0)), (3, .int (nI (4 * k)))] 645 []) {n am al : Nat} {fr to wt : Nat → Nat} {h : HS} {g : MS} (hI : cInv k n am al fr to wt h) (hJ : mInv n am al fr to wt g) : xW E D vwCl 4 cells slots ((cwH ad cI cII cP n am al fr to wt h) ++ (mwH bd cI cZ n am al g)) [(0, .ref b), (1, .ref (ad 25)), (2, .ref (bd 0)), (3, .int (nI (4 * k)))] 224 [] := by
  refine x_aload_n S dL_law_224 1 rfl rfl ?_
  refine x_aload_n S dL_law_225 0 rfl rfl ?_
  refine x_iload_n S dL_law_226 3 rfl rfl ?_
  refine x_iconst (v := 1) S dL_law_227 rfl ?_
  refine x_iadd S dL_law_228 ?_
  refine x_top (nI (4 * k + 1)) (nI_add (4 * k) 1) ?_
  refine x_sld S hX hbl hbA (by omega) (4 * k + 1) rfl (by omega) dL_law_229 ?_
  refine x_cViS (n := 1) S (p_cut (xs (4 * k + 1)) h hI) (gGV gC tw222 tw219 tw220 tw221 tw1) rfl (by decide +kernel) 25 rfl rfl rfl rfl (Nat.le_of_ble_eq_true rfl) dL_law_230 ⟨by decide, by decide⟩ hce (fun h1 hI1 => ?_)
  refine x_swap (w1 := cwH ad cI cII cP n am al fr to wt h1) (w2 := (mwH bd cI cZ n am al g)) ?_
  refine x_aload_n S dL_law_233 2 rfl rfl ?_
  refine x_aload_n S dL_law_234 0 rfl rfl ?_
  refine x_iload_n S dL_law_235 3 rfl rfl ?_
  refine x_iconst (v := 1) S dL_law_236 rfl ?_
  refine x_iadd S dL_law_237 ?_
  refine x_top (nI (4 * k + 1)) (nI_add (4 * k) 1) ?_
  refine x_sld S hX hbl hbA (by omega) (4 * k + 1) rfl (by omega) dL_law_238 ?_
  refine x_cViS (n := 1) S (q_cut (xs (4 * k + 1)) g hJ) (gGV gC tw554 tw551 tw552 tw553 tw7) rfl (by decide +kernel) 0 rfl rfl rfl rfl (Nat.le_of_ble_eq_true rfl) dL_law_239 ⟨by decide, by decide⟩ hce (fun g1 hJ1 => ?_)
  refine x_icmp_eq (tgt := 645) S dL_law_242 (by decide) (fun _ => ?_) (fun q => absurd rfl q)
  refine x_swap (w1 := mwH bd cI cZ n am al g1) (w2 := cwH ad cI cII cP n am al fr to wt h1) ?_
  exact NX n am al fr to wt h1 g1 (cInv_up hI1) hJ1
set_option maxHeartbeats 4000000 in
set_option maxRecDepth 100000 in
theorem l_5 (S : xOK E l room_1 D vwCl (tyC cI cII cP cZ) cL_law R_law 4 (Cond.initialized RL :: gT) nwC) (hL : L ≤ 2048) (hX : va_X b L xs E.s E.s.heap) (hbl : b < E.s.heap.size) (hbA : ¬ E.A b) (hce : cells ≤ 600000 ∧ slots ≤ 7302250) {k : Nat} (hk : k ≤ 512) (hkL : 4 * k + 4 ≤ L) (NX : ∀ (n am al : Nat) (fr to wt : Nat → Nat) (h : HS) (g : MS), cInv (k + 1) n am al fr to wt h → mInv n am al fr to wt g → xW E D vwCl 4 cells slots ((cwH ad cI cII cP n am al fr to wt h) ++ (mwH bd cI cZ n am al g)) [(0, .ref b), (1, .ref (ad 25)), (2, .ref (bd 0)), (3, .int (nI (4 * k)))] 645 []) {n am al : Nat} {fr to wt : Nat → Nat} {h : HS} {g : MS} (hI : cInv k n am al fr to wt h) (hJ : mInv n am al fr to wt g) : xW E D vwCl 4 cells slots ((cwH ad cI cII cP n am al fr to wt h) ++ (mwH bd cI cZ n am al g)) [(0, .ref b), (1, .ref (ad 25)), (2, .ref (bd 0)), (3, .int (nI (4 * k)))] 247 [] := by
  refine x_aload_n S dL_law_247 1 rfl rfl ?_
  refine x_aload_n S dL_law_248 0 rfl rfl ?_
  refine x_iload_n S dL_law_249 3 rfl rfl ?_
  refine x_iconst (v := 1) S dL_law_250 rfl ?_
  refine x_iadd S dL_law_251 ?_
  refine x_top (nI (4 * k + 1)) (nI_add (4 * k) 1) ?_
  refine x_sld S hX hbl hbA (by omega) (4 * k + 1) rfl (by omega) dL_law_252 ?_
  refine x_aload_n S dL_law_253 0 rfl rfl ?_
  refine x_iload_n S dL_law_254 3 rfl rfl ?_
  refine x_iconst (v := 2) S dL_law_255 rfl ?_
  refine x_iadd S dL_law_256 ?_
  refine x_top (nI (4 * k + 2)) (nI_add (4 * k) 2) ?_
  refine x_sld S hX hbl hbA (by omega) (4 * k + 2) rfl (by omega) dL_law_257 ?_
  refine x_cViS (n := 2) S (p_pair (xs (4 * k + 1)) (xs (4 * k + 2)) h hI) (gGV gC tw238 tw235 tw236 tw237 tw1) rfl (by decide +kernel) 25 rfl rfl rfl rfl (Nat.le_of_ble_eq_true rfl) dL_law_258 ⟨by decide, by decide⟩ hce (fun h1 hI1 => ?_)
  refine x_swap (w1 := cwH ad cI cII cP n am al fr to wt h1) (w2 := (mwH bd cI cZ n am al g)) ?_
  refine x_aload_n S dL_law_261 2 rfl rfl ?_
  refine x_aload_n S dL_law_262 0 rfl rfl ?_
  refine x_iload_n S dL_law_263 3 rfl rfl ?_
  refine x_iconst (v := 1) S dL_law_264 rfl ?_
  refine x_iadd S dL_law_265 ?_
  refine x_top (nI (4 * k + 1)) (nI_add (4 * k) 1) ?_
  refine x_sld S hX hbl hbA (by omega) (4 * k + 1) rfl (by omega) dL_law_266 ?_
  refine x_aload_n S dL_law_267 0 rfl rfl ?_
  refine x_iload_n S dL_law_268 3 rfl rfl ?_
  refine x_iconst (v := 2) S dL_law_269 rfl ?_
  refine x_iadd S dL_law_270 ?_
  refine x_top (nI (4 * k + 2)) (nI_add (4 * k) 2) ?_
  refine x_sld S hX hbl hbA (by omega) (4 * k + 2) rfl (by omega) dL_law_271 ?_
  refine x_cViS (n := 2) S (q_pair (xs (4 * k + 1)) (xs (4 * k + 2)) g hJ) (gGV gC tw574 tw571 tw572 tw573 tw7) rfl (by decide +kernel) 0 rfl rfl rfl rfl (Nat.le_of_ble_eq_true rfl) dL_law_272 ⟨by decide, by decide⟩ hce (fun g1 hJ1 => ?_)
  refine x_icmp_eq (tgt := 645) S dL_law_275 (by decide) (fun _ => ?_) (fun q => absurd rfl q)
  refine x_swap (w1 := mwH bd cI cZ n am al g1) (w2 := cwH ad cI cII cP n am al fr to wt h1) ?_
  exact NX n am al fr to wt h1 g1 (cInv_up hI1) hJ1
set_option maxHeartbeats 4000000 in
set_option maxRecDepth 100000 in
theorem l_6 (S : xOK E l room_1 D vwCl (tyC cI cII cP cZ) cL_law R_law 4 (Cond.initialized RL :: gT) nwC) (hL : L ≤ 2048) (hX : va_X b L xs E.s E.s.heap) (hbl : b < E.s.heap.size) (hbA : ¬ E.A b) (hce : cells ≤ 600000 ∧ slots ≤ 7302250) {k : Nat} (hk : k ≤ 512) (hkL : 4 * k + 4 ≤ L) (NX : ∀ (n am al : Nat) (fr to wt : Nat → Nat) (h : HS) (g : MS), cInv (k + 1) n am al fr to wt h → mInv n am al fr to wt g → xW E D vwCl 4 cells slots ((cwH ad cI cII cP n am al fr to wt h) ++ (mwH bd cI cZ n am al g)) [(0, .ref b), (1, .ref (ad 25)), (2, .ref (bd 0)), (3, .int (nI (4 * k)))] 645 []) {n am al : Nat} {fr to wt : Nat → Nat} {h : HS} {g : MS} (hI : cInv k n am al fr to wt h) (hJ : mInv n am al fr to wt g) : xW E D vwCl 4 cells slots ((cwH ad cI cII cP n am al fr to wt h) ++ (mwH bd cI cZ n am al g)) [(0, .ref b), (1, .ref (ad 25)), (2, .ref (bd 0)), (3, .int (nI (4 * k)))] 280 [] := by
  refine x_aload_n S dL_law_280 1 rfl rfl ?_
  refine x_aload_n S dL_law_281 0 rfl rfl ?_
  refine x_iload_n S dL_law_282 3 rfl rfl ?_
  refine x_iconst (v := 1) S dL_law_283 rfl ?_
  refine x_iadd S dL_law_284 ?_
  refine x_top (nI (4 * k + 1)) (nI_add (4 * k) 1) ?_
  refine x_sld S hX hbl hbA (by omega) (4 * k + 1) rfl (by omega) dL_law_285 ?_
  refine x_aload_n S dL_law_286 0 rfl rfl ?_
  refine x_iload_n S dL_law_287 3 rfl rfl ?_
  refine x_iconst (v := 2) S dL_law_288 rfl ?_
  refine x_iadd S dL_law_289 ?_
  refine x_top (nI (4 * k + 2)) (nI_add (4 * k) 2) ?_
  refine x_sld S hX hbl hbA (by omega) (4 * k + 2) rfl (by omega) dL_law_290 ?_
  refine x_cViS (n := 2) S (p_side (xs (4 * k + 1)) (xs (4 * k + 2)) h hI) (gGV gC tw274 tw271 tw272 tw273 tw1) rfl (by decide +kernel) 25 rfl rfl rfl rfl (Nat.le_of_ble_eq_true rfl) dL_law_291 ⟨by decide, by decide⟩ hce (fun h1 hI1 => ?_)
  refine x_swap (w1 := cwH ad cI cII cP n am al fr to wt h1) (w2 := (mwH bd cI cZ n am al g)) ?_
  refine x_aload_n S dL_law_294 2 rfl rfl ?_
  refine x_aload_n S dL_law_295 0 rfl rfl ?_
  refine x_iload_n S dL_law_296 3 rfl rfl ?_
  refine x_iconst (v := 1) S dL_law_297 rfl ?_
  refine x_iadd S dL_law_298 ?_
  refine x_top (nI (4 * k + 1)) (nI_add (4 * k) 1) ?_
  refine x_sld S hX hbl hbA (by omega) (4 * k + 1) rfl (by omega) dL_law_299 ?_
  refine x_aload_n S dL_law_300 0 rfl rfl ?_
  refine x_iload_n S dL_law_301 3 rfl rfl ?_
  refine x_iconst (v := 2) S dL_law_302 rfl ?_
  refine x_iadd S dL_law_303 ?_
  refine x_top (nI (4 * k + 2)) (nI_add (4 * k) 2) ?_
  refine x_sld S hX hbl hbA (by omega) (4 * k + 2) rfl (by omega) dL_law_304 ?_
  refine x_cViS (n := 2) S (q_side (xs (4 * k + 1)) (xs (4 * k + 2)) g hJ) (gGV gC tw578 tw575 tw576 tw577 tw7) rfl (by decide +kernel) 0 rfl rfl rfl rfl (Nat.le_of_ble_eq_true rfl) dL_law_305 ⟨by decide, by decide⟩ hce (fun g1 hJ1 => ?_)
  refine x_icmp_eq (tgt := 645) S dL_law_308 (by decide) (fun _ => ?_) (fun q => absurd rfl q)
  refine x_swap (w1 := mwH bd cI cZ n am al g1) (w2 := cwH ad cI cII cP n am al fr to wt h1) ?_
  exact NX n am al fr to wt h1 g1 (cInv_up hI1) hJ1
set_option maxHeartbeats 4000000 in
set_option maxRecDepth 100000 in
theorem l_7 (S : xOK E l room_1 D vwCl (tyC cI cII cP cZ) cL_law R_law 4 (Cond.initialized RL :: gT) nwC) (hL : L ≤ 2048) (hX : va_X b L xs E.s E.s.heap) (hbl : b < E.s.heap.size) (hbA : ¬ E.A b) (hce : cells ≤ 600000 ∧ slots ≤ 7302250) {k : Nat} (hk : k ≤ 512) (hkL : 4 * k + 4 ≤ L) (NX : ∀ (n am al : Nat) (fr to wt : Nat → Nat) (h : HS) (g : MS), cInv (k + 1) n am al fr to wt h → mInv n am al fr to wt g → xW E D vwCl 4 cells slots ((cwH ad cI cII cP n am al fr to wt h) ++ (mwH bd cI cZ n am al g)) [(0, .ref b), (1, .ref (ad 25)), (2, .ref (bd 0)), (3, .int (nI (4 * k)))] 645 []) {n am al : Nat} {fr to wt : Nat → Nat} {h : HS} {g : MS} (hI : cInv k n am al fr to wt h) (hJ : mInv n am al fr to wt g) : xW E D vwCl 4 cells slots ((cwH ad cI cII cP n am al fr to wt h) ++ (mwH bd cI cZ n am al g)) [(0, .ref b), (1, .ref (ad 25)), (2, .ref (bd 0)), (3, .int (nI (4 * k)))] 313 [] := by
  refine x_aload_n S dL_law_313 1 rfl rfl ?_
  refine x_aload_n S dL_law_314 0 rfl rfl ?_
  refine x_iload_n S dL_law_315 3 rfl rfl ?_
  refine x_iconst (v := 1) S dL_law_316 rfl ?_
  refine x_iadd S dL_law_317 ?_
  refine x_top (nI (4 * k + 1)) (nI_add (4 * k) 1) ?_
  refine x_sld S hX hbl hbA (by omega) (4 * k + 1) rfl (by omega) dL_law_318 ?_
  refine x_cViS (n := 1) S (p_parent (xs (4 * k + 1)) h hI) (gGV gC tw279 tw276 tw277 tw278 tw1) rfl (by decide +kernel) 25 rfl rfl rfl rfl (Nat.le_of_ble_eq_true rfl) dL_law_319 ⟨by decide, by decide⟩ hce (fun h1 hI1 => ?_)
  refine x_swap (w1 := cwH ad cI cII cP n am al fr to wt h1) (w2 := (mwH bd cI cZ n am al g)) ?_
  refine x_aload_n S dL_law_322 2 rfl rfl ?_
  refine x_aload_n S dL_law_323 0 rfl rfl ?_
  refine x_iload_n S dL_law_324 3 rfl rfl ?_
  refine x_iconst (v := 1) S dL_law_325 rfl ?_
  refine x_iadd S dL_law_326 ?_
  refine x_top (nI (4 * k + 1)) (nI_add (4 * k) 1) ?_
  refine x_sld S hX hbl hbA (by omega) (4 * k + 1) rfl (by omega) dL_law_327 ?_
  refine x_cViS (n := 1) S (q_parent (xs (4 * k + 1)) g hJ) (gGV gC tw582 tw579 tw580 tw581 tw7) rfl (by decide +kernel) 0 rfl rfl rfl rfl (Nat.le_of_ble_eq_true rfl) dL_law_328 ⟨by decide, by decide⟩ hce (fun g1 hJ1 => ?_)
  refine x_icmp_eq (tgt := 645) S dL_law_331 (by decide) (fun _ => ?_) (fun q => absurd rfl q)
  refine x_swap (w1 := mwH bd cI cZ n am al g1) (w2 := cwH ad cI cII cP n am al fr to wt h1) ?_
  exact NX n am al fr to wt h1 g1 (cInv_up hI1) hJ1
set_option maxHeartbeats 4000000 in
set_option maxRecDepth 100000 in
theorem l_8 (S : xOK E l room_1 D vwCl (tyC cI cII cP cZ) cL_law R_law 4 (Cond.initialized RL :: gT) nwC) (hL : L ≤ 2048) (hX : va_X b L xs E.s E.s.heap) (hbl : b < E.s.heap.size) (hbA : ¬ E.A b) (hce : cells ≤ 600000 ∧ slots ≤ 7302250) {k : Nat} (hk : k ≤ 512) (hkL : 4 * k + 4 ≤ L) (NX : ∀ (n am al : Nat) (fr to wt : Nat → Nat) (h : HS) (g : MS), cInv (k + 1) n am al fr to wt h → mInv n am al fr to wt g → xW E D vwCl 4 cells slots ((cwH ad cI cII cP n am al fr to wt h) ++ (mwH bd cI cZ n am al g)) [(0, .ref b), (1, .ref (ad 25)), (2, .ref (bd 0)), (3, .int (nI (4 * k)))] 645 []) {n am al : Nat} {fr to wt : Nat → Nat} {h : HS} {g : MS} (hI : cInv k n am al fr to wt h) (hJ : mInv n am al fr to wt g) : xW E D vwCl 4 cells slots ((cwH ad cI cII cP n am al fr to wt h) ++ (mwH bd cI cZ n am al g)) [(0, .ref b), (1, .ref (ad 25)), (2, .ref (bd 0)), (3, .int (nI (4 * k)))] 336 [] := by
  refine x_aload_n S dL_law_336 1 rfl rfl ?_
  refine x_aload_n S dL_law_337 0 rfl rfl ?_
  refine x_iload_n S dL_law_338 3 rfl rfl ?_
  refine x_iconst (v := 1) S dL_law_339 rfl ?_
  refine x_iadd S dL_law_340 ?_
  refine x_top (nI (4 * k + 1)) (nI_add (4 * k) 1) ?_
  refine x_sld S hX hbl hbA (by omega) (4 * k + 1) rfl (by omega) dL_law_341 ?_
  refine x_cViS (n := 1) S (p_branch (xs (4 * k + 1)) h hI) (gGV gC tw298 tw295 tw296 tw297 tw1) rfl (by decide +kernel) 25 rfl rfl rfl rfl (Nat.le_of_ble_eq_true rfl) dL_law_342 ⟨by decide, by decide⟩ hce (fun h1 hI1 => ?_)
  refine x_swap (w1 := cwH ad cI cII cP n am al fr to wt h1) (w2 := (mwH bd cI cZ n am al g)) ?_
  refine x_aload_n S dL_law_345 2 rfl rfl ?_
  refine x_aload_n S dL_law_346 0 rfl rfl ?_
  refine x_iload_n S dL_law_347 3 rfl rfl ?_
  refine x_iconst (v := 1) S dL_law_348 rfl ?_
  refine x_iadd S dL_law_349 ?_
  refine x_top (nI (4 * k + 1)) (nI_add (4 * k) 1) ?_
  refine x_sld S hX hbl hbA (by omega) (4 * k + 1) rfl (by omega) dL_law_350 ?_
  refine x_cViS (n := 1) S (q_branch (xs (4 * k + 1)) g hJ) (gGV gC tw590 tw587 tw588 tw589 tw7) rfl (by decide +kernel) 0 rfl rfl rfl rfl (Nat.le_of_ble_eq_true rfl) dL_law_351 ⟨by decide, by decide⟩ hce (fun g1 hJ1 => ?_)
  refine x_icmp_eq (tgt := 645) S dL_law_354 (by decide) (fun _ => ?_) (fun q => absurd rfl q)
  refine x_swap (w1 := mwH bd cI cZ n am al g1) (w2 := cwH ad cI cII cP n am al fr to wt h1) ?_
  exact NX n am al fr to wt h1 g1 (cInv_up hI1) hJ1
set_option maxHeartbeats 4000000 in
set_option maxRecDepth 100000 in
theorem l_9 (S : xOK E l room_1 D vwCl (tyC cI cII cP cZ) cL_law R_law 4 (Cond.initialized RL :: gT) nwC) (hL : L ≤ 2048) (hX : va_X b L xs E.s E.s.heap) (hbl : b < E.s.heap.size) (hbA : ¬ E.A b) (hce : cells ≤ 600000 ∧ slots ≤ 7302250) {k : Nat} (hk : k ≤ 512) (hkL : 4 * k + 4 ≤ L) (NX : ∀ (n am al : Nat) (fr to wt : Nat → Nat) (h : HS) (g : MS), cInv (k + 1) n am al fr to wt h → mInv n am al fr to wt g → xW E D vwCl 4 cells slots ((cwH ad cI cII cP n am al fr to wt h) ++ (mwH bd cI cZ n am al g)) [(0, .ref b), (1, .ref (ad 25)), (2, .ref (bd 0)), (3, .int (nI (4 * k)))] 645 []) {n am al : Nat} {fr to wt : Nat → Nat} {h : HS} {g : MS} (hI : cInv k n am al fr to wt h) (hJ : mInv n am al fr to wt g) : xW E D vwCl 4 cells slots ((cwH ad cI cII cP n am al fr to wt h) ++ (mwH bd cI cZ n am al g)) [(0, .ref b), (1, .ref (ad 25)), (2, .ref (bd 0)), (3, .int (nI (4 * k)))] 359 [] := by
  refine x_aload_n S dL_law_359 1 rfl rfl ?_
  refine x_aload_n S dL_law_360 0 rfl rfl ?_
  refine x_iload_n S dL_law_361 3 rfl rfl ?_
  refine x_iconst (v := 1) S dL_law_362 rfl ?_
  refine x_iadd S dL_law_363 ?_
  refine x_top (nI (4 * k + 1)) (nI_add (4 * k) 1) ?_
  refine x_sld S hX hbl hbA (by omega) (4 * k + 1) rfl (by omega) dL_law_364 ?_
  refine x_aload_n S dL_law_365 0 rfl rfl ?_
  refine x_iload_n S dL_law_366 3 rfl rfl ?_
  refine x_iconst (v := 2) S dL_law_367 rfl ?_
  refine x_iadd S dL_law_368 ?_
  refine x_top (nI (4 * k + 2)) (nI_add (4 * k) 2) ?_
  refine x_sld S hX hbl hbA (by omega) (4 * k + 2) rfl (by omega) dL_law_369 ?_
  refine x_cViS (n := 2) S (p_way (xs (4 * k + 1)) (xs (4 * k + 2)) h hI) (gGV gC tw302 tw299 tw300 tw301 tw1) rfl (by decide +kernel) 25 rfl rfl rfl rfl (Nat.le_of_ble_eq_true rfl) dL_law_370 ⟨by decide, by decide⟩ hce (fun h1 hI1 => ?_)
  refine x_swap (w1 := cwH ad cI cII cP n am al fr to wt h1) (w2 := (mwH bd cI cZ n am al g)) ?_
  refine x_aload_n S dL_law_373 2 rfl rfl ?_
  refine x_aload_n S dL_law_374 0 rfl rfl ?_
  refine x_iload_n S dL_law_375 3 rfl rfl ?_
  refine x_iconst (v := 1) S dL_law_376 rfl ?_
  refine x_iadd S dL_law_377 ?_
  refine x_top (nI (4 * k + 1)) (nI_add (4 * k) 1) ?_
  refine x_sld S hX hbl hbA (by omega) (4 * k + 1) rfl (by omega) dL_law_378 ?_
  refine x_aload_n S dL_law_379 0 rfl rfl ?_
  refine x_iload_n S dL_law_380 3 rfl rfl ?_
  refine x_iconst (v := 2) S dL_law_381 rfl ?_
  refine x_iadd S dL_law_382 ?_
  refine x_top (nI (4 * k + 2)) (nI_add (4 * k) 2) ?_
  refine x_sld S hX hbl hbA (by omega) (4 * k + 2) rfl (by omega) dL_law_383 ?_
  refine x_cViS (n := 2) S (q_way (xs (4 * k + 1)) (xs (4 * k + 2)) g hJ) (gGV gC tw594 tw591 tw592 tw593 tw7) rfl (by decide +kernel) 0 rfl rfl rfl rfl (Nat.le_of_ble_eq_true rfl) dL_law_384 ⟨by decide, by decide⟩ hce (fun g1 hJ1 => ?_)
  refine x_icmp_eq (tgt := 645) S dL_law_387 (by decide) (fun _ => ?_) (fun q => absurd rfl q)
  refine x_swap (w1 := mwH bd cI cZ n am al g1) (w2 := cwH ad cI cII cP n am al fr to wt h1) ?_
  exact NX n am al fr to wt h1 g1 (cInv_up hI1) hJ1
set_option maxHeartbeats 4000000 in
set_option maxRecDepth 100000 in
theorem l_10 (S : xOK E l room_1 D vwCl (tyC cI cII cP cZ) cL_law R_law 4 (Cond.initialized RL :: gT) nwC) (hL : L ≤ 2048) (hX : va_X b L xs E.s E.s.heap) (hbl : b < E.s.heap.size) (hbA : ¬ E.A b) (hce : cells ≤ 600000 ∧ slots ≤ 7302250) {k : Nat} (hk : k ≤ 512) (hkL : 4 * k + 4 ≤ L) (NX : ∀ (n am al : Nat) (fr to wt : Nat → Nat) (h : HS) (g : MS), cInv (k + 1) n am al fr to wt h → mInv n am al fr to wt g → xW E D vwCl 4 cells slots ((cwH ad cI cII cP n am al fr to wt h) ++ (mwH bd cI cZ n am al g)) [(0, .ref b), (1, .ref (ad 25)), (2, .ref (bd 0)), (3, .int (nI (4 * k)))] 645 []) {n am al : Nat} {fr to wt : Nat → Nat} {h : HS} {g : MS} (hI : cInv k n am al fr to wt h) (hJ : mInv n am al fr to wt g) : xW E D vwCl 4 cells slots ((cwH ad cI cII cP n am al fr to wt h) ++ (mwH bd cI cZ n am al g)) [(0, .ref b), (1, .ref (ad 25)), (2, .ref (bd 0)), (3, .int (nI (4 * k)))] 392 [] := by
  refine x_aload_n S dL_law_392 1 rfl rfl ?_
  refine x_cViS (n := 0) S (p_least  h hI) (gGV gC tw317 tw314 tw315 tw316 tw1) rfl (by decide +kernel) 25 rfl rfl rfl rfl (Nat.le_of_ble_eq_true rfl) dL_law_393 ⟨by decide, by decide⟩ hce (fun h1 hI1 => ?_)
  refine x_swap (w1 := cwH ad cI cII cP n am al fr to wt h1) (w2 := (mwH bd cI cZ n am al g)) ?_
  refine x_aload_n S dL_law_396 2 rfl rfl ?_
  refine x_cViS (n := 0) S (q_least  g hJ) (gGV gC tw603 tw600 tw601 tw602 tw7) rfl (by decide +kernel) 0 rfl rfl rfl rfl (Nat.le_of_ble_eq_true rfl) dL_law_397 ⟨by decide, by decide⟩ hce (fun g1 hJ1 => ?_)
  refine x_icmp_eq (tgt := 645) S dL_law_400 (by decide) (fun _ => ?_) (fun q => absurd rfl q)
  refine x_swap (w1 := mwH bd cI cZ n am al g1) (w2 := cwH ad cI cII cP n am al fr to wt h1) ?_
  exact NX n am al fr to wt h1 g1 (cInv_up hI1) hJ1
set_option maxHeartbeats 4000000 in
set_option maxRecDepth 100000 in
theorem l_11 (S : xOK E l room_1 D vwCl (tyC cI cII cP cZ) cL_law R_law 4 (Cond.initialized RL :: gT) nwC) (hL : L ≤ 2048) (hX : va_X b L xs E.s E.s.heap) (hbl : b < E.s.heap.size) (hbA : ¬ E.A b) (hce : cells ≤ 600000 ∧ slots ≤ 7302250) {k : Nat} (hk : k ≤ 512) (hkL : 4 * k + 4 ≤ L) (NX : ∀ (n am al : Nat) (fr to wt : Nat → Nat) (h : HS) (g : MS), cInv (k + 1) n am al fr to wt h → mInv n am al fr to wt g → xW E D vwCl 4 cells slots ((cwH ad cI cII cP n am al fr to wt h) ++ (mwH bd cI cZ n am al g)) [(0, .ref b), (1, .ref (ad 25)), (2, .ref (bd 0)), (3, .int (nI (4 * k)))] 645 []) {n am al : Nat} {fr to wt : Nat → Nat} {h : HS} {g : MS} (hI : cInv k n am al fr to wt h) (hJ : mInv n am al fr to wt g) : xW E D vwCl 4 cells slots ((cwH ad cI cII cP n am al fr to wt h) ++ (mwH bd cI cZ n am al g)) [(0, .ref b), (1, .ref (ad 25)), (2, .ref (bd 0)), (3, .int (nI (4 * k)))] 405 [] := by
  refine x_aload_n S dL_law_405 1 rfl rfl ?_
  refine x_cViS (n := 0) S (p_counted  h hI) (gGV gC tw330 tw327 tw328 tw329 tw1) rfl (by decide +kernel) 25 rfl rfl rfl rfl (Nat.le_of_ble_eq_true rfl) dL_law_406 ⟨by decide, by decide⟩ hce (fun h1 hI1 => ?_)
  refine x_swap (w1 := cwH ad cI cII cP n am al fr to wt h1) (w2 := (mwH bd cI cZ n am al g)) ?_
  refine x_aload_n S dL_law_409 2 rfl rfl ?_
  refine x_cViS (n := 0) S (q_counted  g hJ) (gGV gC tw611 tw608 tw609 tw610 tw7) rfl (by decide +kernel) 0 rfl rfl rfl rfl (Nat.le_of_ble_eq_true rfl) dL_law_410 ⟨by decide, by decide⟩ hce (fun g1 hJ1 => ?_)
  refine x_icmp_eq (tgt := 645) S dL_law_413 (by decide) (fun _ => ?_) (fun q => absurd rfl q)
  refine x_swap (w1 := mwH bd cI cZ n am al g1) (w2 := cwH ad cI cII cP n am al fr to wt h1) ?_
  exact NX n am al fr to wt h1 g1 (cInv_up hI1) hJ1
set_option maxHeartbeats 4000000 in
set_option maxRecDepth 100000 in
theorem l_12 (S : xOK E l room_1 D vwCl (tyC cI cII cP cZ) cL_law R_law 4 (Cond.initialized RL :: gT) nwC) (hL : L ≤ 2048) (hX : va_X b L xs E.s E.s.heap) (hbl : b < E.s.heap.size) (hbA : ¬ E.A b) (hce : cells ≤ 600000 ∧ slots ≤ 7302250) {k : Nat} (hk : k ≤ 512) (hkL : 4 * k + 4 ≤ L) (NX : ∀ (n am al : Nat) (fr to wt : Nat → Nat) (h : HS) (g : MS), cInv (k + 1) n am al fr to wt h → mInv n am al fr to wt g → xW E D vwCl 4 cells slots ((cwH ad cI cII cP n am al fr to wt h) ++ (mwH bd cI cZ n am al g)) [(0, .ref b), (1, .ref (ad 25)), (2, .ref (bd 0)), (3, .int (nI (4 * k)))] 645 []) {n am al : Nat} {fr to wt : Nat → Nat} {h : HS} {g : MS} (hI : cInv k n am al fr to wt h) (hJ : mInv n am al fr to wt g) : xW E D vwCl 4 cells slots ((cwH ad cI cII cP n am al fr to wt h) ++ (mwH bd cI cZ n am al g)) [(0, .ref b), (1, .ref (ad 25)), (2, .ref (bd 0)), (3, .int (nI (4 * k)))] 418 [] := by
  refine x_aload_n S dL_law_418 1 rfl rfl ?_
  refine x_aload_n S dL_law_419 0 rfl rfl ?_
  refine x_iload_n S dL_law_420 3 rfl rfl ?_
  refine x_iconst (v := 1) S dL_law_421 rfl ?_
  refine x_iadd S dL_law_422 ?_
  refine x_top (nI (4 * k + 1)) (nI_add (4 * k) 1) ?_
  refine x_sld S hX hbl hbA (by omega) (4 * k + 1) rfl (by omega) dL_law_423 ?_
  refine x_cViS (n := 1) S (p_every (xs (4 * k + 1)) h hI) (gGV gC tw339 tw336 tw337 tw338 tw1) rfl (by decide +kernel) 25 rfl rfl rfl rfl (Nat.le_of_ble_eq_true rfl) dL_law_424 ⟨by decide, by decide⟩ hce (fun h1 hI1 => ?_)
  refine x_swap (w1 := cwH ad cI cII cP n am al fr to wt h1) (w2 := (mwH bd cI cZ n am al g)) ?_
  refine x_aload_n S dL_law_427 2 rfl rfl ?_
  refine x_aload_n S dL_law_428 0 rfl rfl ?_
  refine x_iload_n S dL_law_429 3 rfl rfl ?_
  refine x_iconst (v := 1) S dL_law_430 rfl ?_
  refine x_iadd S dL_law_431 ?_
  refine x_top (nI (4 * k + 1)) (nI_add (4 * k) 1) ?_
  refine x_sld S hX hbl hbA (by omega) (4 * k + 1) rfl (by omega) dL_law_432 ?_
  refine x_cViS (n := 1) S (q_every (xs (4 * k + 1)) g hJ) (gGV gC tw619 tw616 tw617 tw618 tw7) rfl (by decide +kernel) 0 rfl rfl rfl rfl (Nat.le_of_ble_eq_true rfl) dL_law_433 ⟨by decide, by decide⟩ hce (fun g1 hJ1 => ?_)
  refine x_icmp_eq (tgt := 645) S dL_law_436 (by decide) (fun _ => ?_) (fun q => absurd rfl q)
  refine x_swap (w1 := mwH bd cI cZ n am al g1) (w2 := cwH ad cI cII cP n am al fr to wt h1) ?_
  exact NX n am al fr to wt h1 g1 (cInv_up hI1) hJ1
set_option maxHeartbeats 4000000 in
set_option maxRecDepth 100000 in
theorem l_13 (S : xOK E l room_1 D vwCl (tyC cI cII cP cZ) cL_law R_law 4 (Cond.initialized RL :: gT) nwC) (hL : L ≤ 2048) (hX : va_X b L xs E.s E.s.heap) (hbl : b < E.s.heap.size) (hbA : ¬ E.A b) (hce : cells ≤ 600000 ∧ slots ≤ 7302250) {k : Nat} (hk : k ≤ 512) (hkL : 4 * k + 4 ≤ L) (NX : ∀ (n am al : Nat) (fr to wt : Nat → Nat) (h : HS) (g : MS), cInv (k + 1) n am al fr to wt h → mInv n am al fr to wt g → xW E D vwCl 4 cells slots ((cwH ad cI cII cP n am al fr to wt h) ++ (mwH bd cI cZ n am al g)) [(0, .ref b), (1, .ref (ad 25)), (2, .ref (bd 0)), (3, .int (nI (4 * k)))] 645 []) {n am al : Nat} {fr to wt : Nat → Nat} {h : HS} {g : MS} (hI : cInv k n am al fr to wt h) (hJ : mInv n am al fr to wt g) : xW E D vwCl 4 cells slots ((cwH ad cI cII cP n am al fr to wt h) ++ (mwH bd cI cZ n am al g)) [(0, .ref b), (1, .ref (ad 25)), (2, .ref (bd 0)), (3, .int (nI (4 * k)))] 441 [] := by
  refine x_aload_n S dL_law_441 1 rfl rfl ?_
  refine x_aload_n S dL_law_442 0 rfl rfl ?_
  refine x_iload_n S dL_law_443 3 rfl rfl ?_
  refine x_iconst (v := 1) S dL_law_444 rfl ?_
  refine x_iadd S dL_law_445 ?_
  refine x_top (nI (4 * k + 1)) (nI_add (4 * k) 1) ?_
  refine x_sld S hX hbl hbA (by omega) (4 * k + 1) rfl (by omega) dL_law_446 ?_
  refine x_cViS (n := 1) S (p_drawn (xs (4 * k + 1)) h hI) (gGV gC tw347 tw344 tw345 tw346 tw1) rfl (by decide +kernel) 25 rfl rfl rfl rfl (Nat.le_of_ble_eq_true rfl) dL_law_447 ⟨by decide, by decide⟩ hce (fun h1 hI1 => ?_)
  refine x_swap (w1 := cwH ad cI cII cP n am al fr to wt h1) (w2 := (mwH bd cI cZ n am al g)) ?_
  refine x_aload_n S dL_law_450 2 rfl rfl ?_
  refine x_aload_n S dL_law_451 0 rfl rfl ?_
  refine x_iload_n S dL_law_452 3 rfl rfl ?_
  refine x_iconst (v := 1) S dL_law_453 rfl ?_
  refine x_iadd S dL_law_454 ?_
  refine x_top (nI (4 * k + 1)) (nI_add (4 * k) 1) ?_
  refine x_sld S hX hbl hbA (by omega) (4 * k + 1) rfl (by omega) dL_law_455 ?_
  refine x_cViS (n := 1) S (q_drawn (xs (4 * k + 1)) g hJ) (gGV gC tw623 tw620 tw621 tw622 tw7) rfl (by decide +kernel) 0 rfl rfl rfl rfl (Nat.le_of_ble_eq_true rfl) dL_law_456 ⟨by decide, by decide⟩ hce (fun g1 hJ1 => ?_)
  refine x_icmp_eq (tgt := 645) S dL_law_459 (by decide) (fun _ => ?_) (fun q => absurd rfl q)
  refine x_swap (w1 := mwH bd cI cZ n am al g1) (w2 := cwH ad cI cII cP n am al fr to wt h1) ?_
  exact NX n am al fr to wt h1 g1 (cInv_up hI1) hJ1
set_option maxHeartbeats 4000000 in
set_option maxRecDepth 100000 in
theorem l_14 (S : xOK E l room_1 D vwCl (tyC cI cII cP cZ) cL_law R_law 4 (Cond.initialized RL :: gT) nwC) (hL : L ≤ 2048) (hX : va_X b L xs E.s E.s.heap) (hbl : b < E.s.heap.size) (hbA : ¬ E.A b) (hce : cells ≤ 600000 ∧ slots ≤ 7302250) {k : Nat} (hk : k ≤ 512) (hkL : 4 * k + 4 ≤ L) (NX : ∀ (n am al : Nat) (fr to wt : Nat → Nat) (h : HS) (g : MS), cInv (k + 1) n am al fr to wt h → mInv n am al fr to wt g → xW E D vwCl 4 cells slots ((cwH ad cI cII cP n am al fr to wt h) ++ (mwH bd cI cZ n am al g)) [(0, .ref b), (1, .ref (ad 25)), (2, .ref (bd 0)), (3, .int (nI (4 * k)))] 645 []) {n am al : Nat} {fr to wt : Nat → Nat} {h : HS} {g : MS} (hI : cInv k n am al fr to wt h) (hJ : mInv n am al fr to wt g) : xW E D vwCl 4 cells slots ((cwH ad cI cII cP n am al fr to wt h) ++ (mwH bd cI cZ n am al g)) [(0, .ref b), (1, .ref (ad 25)), (2, .ref (bd 0)), (3, .int (nI (4 * k)))] 464 [] := by
  refine x_aload_n S dL_law_464 1 rfl rfl ?_
  refine x_aload_n S dL_law_465 0 rfl rfl ?_
  refine x_iload_n S dL_law_466 3 rfl rfl ?_
  refine x_iconst (v := 1) S dL_law_467 rfl ?_
  refine x_iadd S dL_law_468 ?_
  refine x_top (nI (4 * k + 1)) (nI_add (4 * k) 1) ?_
  refine x_sld S hX hbl hbA (by omega) (4 * k + 1) rfl (by omega) dL_law_469 ?_
  refine x_cViS (n := 1) S (p_parts (xs (4 * k + 1)) h hI) (gGV gC tw373 tw370 tw371 tw372 tw1) rfl (by decide +kernel) 25 rfl rfl rfl rfl (Nat.le_of_ble_eq_true rfl) dL_law_470 ⟨by decide, by decide⟩ hce (fun h1 hI1 => ?_)
  refine x_swap (w1 := cwH ad cI cII cP n am al fr to wt h1) (w2 := (mwH bd cI cZ n am al g)) ?_
  refine x_aload_n S dL_law_473 2 rfl rfl ?_
  refine x_aload_n S dL_law_474 0 rfl rfl ?_
  refine x_iload_n S dL_law_475 3 rfl rfl ?_
  refine x_iconst (v := 1) S dL_law_476 rfl ?_
  refine x_iadd S dL_law_477 ?_
  refine x_top (nI (4 * k + 1)) (nI_add (4 * k) 1) ?_
  refine x_sld S hX hbl hbA (by omega) (4 * k + 1) rfl (by omega) dL_law_478 ?_
  refine x_cViS (n := 1) S (q_parts (xs (4 * k + 1)) g hJ) (gGV gC tw637 tw634 tw635 tw636 tw7) rfl (by decide +kernel) 0 rfl rfl rfl rfl (Nat.le_of_ble_eq_true rfl) dL_law_479 ⟨by decide, by decide⟩ hce (fun g1 hJ1 => ?_)
  refine x_icmp_eq (tgt := 645) S dL_law_482 (by decide) (fun _ => ?_) (fun q => absurd rfl q)
  refine x_swap (w1 := mwH bd cI cZ n am al g1) (w2 := cwH ad cI cII cP n am al fr to wt h1) ?_
  exact NX n am al fr to wt h1 g1 (cInv_up hI1) hJ1
set_option maxHeartbeats 4000000 in
set_option maxRecDepth 100000 in
theorem l_15 (S : xOK E l room_1 D vwCl (tyC cI cII cP cZ) cL_law R_law 4 (Cond.initialized RL :: gT) nwC) (hL : L ≤ 2048) (hX : va_X b L xs E.s E.s.heap) (hbl : b < E.s.heap.size) (hbA : ¬ E.A b) (hce : cells ≤ 600000 ∧ slots ≤ 7302250) {k : Nat} (hk : k ≤ 512) (hkL : 4 * k + 4 ≤ L) (NX : ∀ (n am al : Nat) (fr to wt : Nat → Nat) (h : HS) (g : MS), cInv (k + 1) n am al fr to wt h → mInv n am al fr to wt g → xW E D vwCl 4 cells slots ((cwH ad cI cII cP n am al fr to wt h) ++ (mwH bd cI cZ n am al g)) [(0, .ref b), (1, .ref (ad 25)), (2, .ref (bd 0)), (3, .int (nI (4 * k)))] 645 []) {n am al : Nat} {fr to wt : Nat → Nat} {h : HS} {g : MS} (hI : cInv k n am al fr to wt h) (hJ : mInv n am al fr to wt g) : xW E D vwCl 4 cells slots ((cwH ad cI cII cP n am al fr to wt h) ++ (mwH bd cI cZ n am al g)) [(0, .ref b), (1, .ref (ad 25)), (2, .ref (bd 0)), (3, .int (nI (4 * k)))] 487 [] := by
  refine x_aload_n S dL_law_487 1 rfl rfl ?_
  refine x_aload_n S dL_law_488 0 rfl rfl ?_
  refine x_iload_n S dL_law_489 3 rfl rfl ?_
  refine x_iconst (v := 1) S dL_law_490 rfl ?_
  refine x_iadd S dL_law_491 ?_
  refine x_top (nI (4 * k + 1)) (nI_add (4 * k) 1) ?_
  refine x_sld S hX hbl hbA (by omega) (4 * k + 1) rfl (by omega) dL_law_492 ?_
  refine x_aload_n S dL_law_493 0 rfl rfl ?_
  refine x_iload_n S dL_law_494 3 rfl rfl ?_
  refine x_iconst (v := 2) S dL_law_495 rfl ?_
  refine x_iadd S dL_law_496 ?_
  refine x_top (nI (4 * k + 2)) (nI_add (4 * k) 2) ?_
  refine x_sld S hX hbl hbA (by omega) (4 * k + 2) rfl (by omega) dL_law_497 ?_
  refine x_cViS (n := 2) S (p_partOf (xs (4 * k + 1)) (xs (4 * k + 2)) h hI) (gGV gC tw402 tw399 tw400 tw401 tw1) rfl (by decide +kernel) 25 rfl rfl rfl rfl (Nat.le_of_ble_eq_true rfl) dL_law_498 ⟨by decide, by decide⟩ hce (fun h1 hI1 => ?_)
  refine x_swap (w1 := cwH ad cI cII cP n am al fr to wt h1) (w2 := (mwH bd cI cZ n am al g)) ?_
  refine x_aload_n S dL_law_501 2 rfl rfl ?_
  refine x_aload_n S dL_law_502 0 rfl rfl ?_
  refine x_iload_n S dL_law_503 3 rfl rfl ?_
  refine x_iconst (v := 1) S dL_law_504 rfl ?_
  refine x_iadd S dL_law_505 ?_
  refine x_top (nI (4 * k + 1)) (nI_add (4 * k) 1) ?_
  refine x_sld S hX hbl hbA (by omega) (4 * k + 1) rfl (by omega) dL_law_506 ?_
  refine x_aload_n S dL_law_507 0 rfl rfl ?_
  refine x_iload_n S dL_law_508 3 rfl rfl ?_
  refine x_iconst (v := 2) S dL_law_509 rfl ?_
  refine x_iadd S dL_law_510 ?_
  refine x_top (nI (4 * k + 2)) (nI_add (4 * k) 2) ?_
  refine x_sld S hX hbl hbA (by omega) (4 * k + 2) rfl (by omega) dL_law_511 ?_
  refine x_cViS (n := 2) S (q_partOf (xs (4 * k + 1)) (xs (4 * k + 2)) g hJ) (gGV gC tw653 tw650 tw651 tw652 tw7) rfl (by decide +kernel) 0 rfl rfl rfl rfl (Nat.le_of_ble_eq_true rfl) dL_law_512 ⟨by decide, by decide⟩ hce (fun g1 hJ1 => ?_)
  refine x_icmp_eq (tgt := 645) S dL_law_515 (by decide) (fun _ => ?_) (fun q => absurd rfl q)
  refine x_swap (w1 := mwH bd cI cZ n am al g1) (w2 := cwH ad cI cII cP n am al fr to wt h1) ?_
  exact NX n am al fr to wt h1 g1 (cInv_up hI1) hJ1
set_option maxHeartbeats 4000000 in
set_option maxRecDepth 100000 in
theorem l_16 (S : xOK E l room_1 D vwCl (tyC cI cII cP cZ) cL_law R_law 4 (Cond.initialized RL :: gT) nwC) (hL : L ≤ 2048) (hX : va_X b L xs E.s E.s.heap) (hbl : b < E.s.heap.size) (hbA : ¬ E.A b) (hce : cells ≤ 600000 ∧ slots ≤ 7302250) {k : Nat} (hk : k ≤ 512) (hkL : 4 * k + 4 ≤ L) (NX : ∀ (n am al : Nat) (fr to wt : Nat → Nat) (h : HS) (g : MS), cInv (k + 1) n am al fr to wt h → mInv n am al fr to wt g → xW E D vwCl 4 cells slots ((cwH ad cI cII cP n am al fr to wt h) ++ (mwH bd cI cZ n am al g)) [(0, .ref b), (1, .ref (ad 25)), (2, .ref (bd 0)), (3, .int (nI (4 * k)))] 645 []) {n am al : Nat} {fr to wt : Nat → Nat} {h : HS} {g : MS} (hI : cInv k n am al fr to wt h) (hJ : mInv n am al fr to wt g) : xW E D vwCl 4 cells slots ((cwH ad cI cII cP n am al fr to wt h) ++ (mwH bd cI cZ n am al g)) [(0, .ref b), (1, .ref (ad 25)), (2, .ref (bd 0)), (3, .int (nI (4 * k)))] 520 [] := by
  refine x_aload_n S dL_law_520 1 rfl rfl ?_
  refine x_cViS (n := 0) S (p_sparsest  h hI) (gGV gC tw406 tw403 tw404 tw405 tw1) rfl (by decide +kernel) 25 rfl rfl rfl rfl (Nat.le_of_ble_eq_true rfl) dL_law_521 ⟨by decide, by decide⟩ hce (fun h1 hI1 => ?_)
  refine x_swap (w1 := cwH ad cI cII cP n am al fr to wt h1) (w2 := (mwH bd cI cZ n am al g)) ?_
  refine x_aload_n S dL_law_524 2 rfl rfl ?_
  refine x_cViS (n := 0) S (q_sparsest  g hJ) (gGV gC tw657 tw654 tw655 tw656 tw7) rfl (by decide +kernel) 0 rfl rfl rfl rfl (Nat.le_of_ble_eq_true rfl) dL_law_525 ⟨by decide, by decide⟩ hce (fun g1 hJ1 => ?_)
  refine x_icmp_eq (tgt := 645) S dL_law_528 (by decide) (fun _ => ?_) (fun q => absurd rfl q)
  refine x_swap (w1 := mwH bd cI cZ n am al g1) (w2 := cwH ad cI cII cP n am al fr to wt h1) ?_
  exact NX n am al fr to wt h1 g1 (cInv_up hI1) hJ1
set_option maxHeartbeats 4000000 in
set_option maxRecDepth 100000 in
theorem l_17 (S : xOK E l room_1 D vwCl (tyC cI cII cP cZ) cL_law R_law 4 (Cond.initialized RL :: gT) nwC) (hL : L ≤ 2048) (hX : va_X b L xs E.s E.s.heap) (hbl : b < E.s.heap.size) (hbA : ¬ E.A b) (hce : cells ≤ 600000 ∧ slots ≤ 7302250) {k : Nat} (hk : k ≤ 512) (hkL : 4 * k + 4 ≤ L) (NX : ∀ (n am al : Nat) (fr to wt : Nat → Nat) (h : HS) (g : MS), cInv (k + 1) n am al fr to wt h → mInv n am al fr to wt g → xW E D vwCl 4 cells slots ((cwH ad cI cII cP n am al fr to wt h) ++ (mwH bd cI cZ n am al g)) [(0, .ref b), (1, .ref (ad 25)), (2, .ref (bd 0)), (3, .int (nI (4 * k)))] 645 []) {n am al : Nat} {fr to wt : Nat → Nat} {h : HS} {g : MS} (hI : cInv k n am al fr to wt h) (hJ : mInv n am al fr to wt g) : xW E D vwCl 4 cells slots ((cwH ad cI cII cP n am al fr to wt h) ++ (mwH bd cI cZ n am al g)) [(0, .ref b), (1, .ref (ad 25)), (2, .ref (bd 0)), (3, .int (nI (4 * k)))] 533 [] := by
  refine x_aload_n S dL_law_533 1 rfl rfl ?_
  refine x_aload_n S dL_law_534 0 rfl rfl ?_
  refine x_iload_n S dL_law_535 3 rfl rfl ?_
  refine x_iconst (v := 1) S dL_law_536 rfl ?_
  refine x_iadd S dL_law_537 ?_
  refine x_top (nI (4 * k + 1)) (nI_add (4 * k) 1) ?_
  refine x_sld S hX hbl hbA (by omega) (4 * k + 1) rfl (by omega) dL_law_538 ?_
  refine x_cViS (n := 1) S (p_share (xs (4 * k + 1)) h hI) (gGV gC tw424 tw421 tw422 tw423 tw1) rfl (by decide +kernel) 25 rfl rfl rfl rfl (Nat.le_of_ble_eq_true rfl) dL_law_539 ⟨by decide, by decide⟩ hce (fun h1 hI1 => ?_)
  refine x_swap (w1 := cwH ad cI cII cP n am al fr to wt h1) (w2 := (mwH bd cI cZ n am al g)) ?_
  refine x_aload_n S dL_law_542 2 rfl rfl ?_
  refine x_aload_n S dL_law_543 0 rfl rfl ?_
  refine x_iload_n S dL_law_544 3 rfl rfl ?_
  refine x_iconst (v := 1) S dL_law_545 rfl ?_
  refine x_iadd S dL_law_546 ?_
  refine x_top (nI (4 * k + 1)) (nI_add (4 * k) 1) ?_
  refine x_sld S hX hbl hbA (by omega) (4 * k + 1) rfl (by omega) dL_law_547 ?_
  refine x_cViS (n := 1) S (q_share (xs (4 * k + 1)) g hJ) (gGV gC tw672 tw669 tw670 tw671 tw7) rfl (by decide +kernel) 0 rfl rfl rfl rfl (Nat.le_of_ble_eq_true rfl) dL_law_548 ⟨by decide, by decide⟩ hce (fun g1 hJ1 => ?_)
  refine x_icmp_eq (tgt := 645) S dL_law_551 (by decide) (fun _ => ?_) (fun q => absurd rfl q)
  refine x_swap (w1 := mwH bd cI cZ n am al g1) (w2 := cwH ad cI cII cP n am al fr to wt h1) ?_
  exact NX n am al fr to wt h1 g1 (cInv_up hI1) hJ1
set_option maxHeartbeats 4000000 in
set_option maxRecDepth 100000 in
theorem l_18 (S : xOK E l room_1 D vwCl (tyC cI cII cP cZ) cL_law R_law 4 (Cond.initialized RL :: gT) nwC) (hL : L ≤ 2048) (hX : va_X b L xs E.s E.s.heap) (hbl : b < E.s.heap.size) (hbA : ¬ E.A b) (hce : cells ≤ 600000 ∧ slots ≤ 7302250) {k : Nat} (hk : k ≤ 512) (hkL : 4 * k + 4 ≤ L) (NX : ∀ (n am al : Nat) (fr to wt : Nat → Nat) (h : HS) (g : MS), cInv (k + 1) n am al fr to wt h → mInv n am al fr to wt g → xW E D vwCl 4 cells slots ((cwH ad cI cII cP n am al fr to wt h) ++ (mwH bd cI cZ n am al g)) [(0, .ref b), (1, .ref (ad 25)), (2, .ref (bd 0)), (3, .int (nI (4 * k)))] 645 []) {n am al : Nat} {fr to wt : Nat → Nat} {h : HS} {g : MS} (hI : cInv k n am al fr to wt h) (hJ : mInv n am al fr to wt g) : xW E D vwCl 4 cells slots ((cwH ad cI cII cP n am al fr to wt h) ++ (mwH bd cI cZ n am al g)) [(0, .ref b), (1, .ref (ad 25)), (2, .ref (bd 0)), (3, .int (nI (4 * k)))] 556 [] := by
  refine x_aload_n S dL_law_556 1 rfl rfl ?_
  refine x_aload_n S dL_law_557 0 rfl rfl ?_
  refine x_iload_n S dL_law_558 3 rfl rfl ?_
  refine x_iconst (v := 1) S dL_law_559 rfl ?_
  refine x_iadd S dL_law_560 ?_
  refine x_top (nI (4 * k + 1)) (nI_add (4 * k) 1) ?_
  refine x_sld S hX hbl hbA (by omega) (4 * k + 1) rfl (by omega) dL_law_561 ?_
  refine x_aload_n S dL_law_562 0 rfl rfl ?_
  refine x_iload_n S dL_law_563 3 rfl rfl ?_
  refine x_iconst (v := 2) S dL_law_564 rfl ?_
  refine x_iadd S dL_law_565 ?_
  refine x_top (nI (4 * k + 2)) (nI_add (4 * k) 2) ?_
  refine x_sld S hX hbl hbA (by omega) (4 * k + 2) rfl (by omega) dL_law_566 ?_
  refine x_cViS (n := 2) S (p_bars (xs (4 * k + 1)) (xs (4 * k + 2)) h hI) (gGV gC tw433 tw430 tw431 tw432 tw1) rfl (by decide +kernel) 25 rfl rfl rfl rfl (Nat.le_of_ble_eq_true rfl) dL_law_567 ⟨by decide, by decide⟩ hce (fun h1 hI1 => ?_)
  refine x_swap (w1 := cwH ad cI cII cP n am al fr to wt h1) (w2 := (mwH bd cI cZ n am al g)) ?_
  refine x_aload_n S dL_law_570 2 rfl rfl ?_
  refine x_aload_n S dL_law_571 0 rfl rfl ?_
  refine x_iload_n S dL_law_572 3 rfl rfl ?_
  refine x_iconst (v := 1) S dL_law_573 rfl ?_
  refine x_iadd S dL_law_574 ?_
  refine x_top (nI (4 * k + 1)) (nI_add (4 * k) 1) ?_
  refine x_sld S hX hbl hbA (by omega) (4 * k + 1) rfl (by omega) dL_law_575 ?_
  refine x_aload_n S dL_law_576 0 rfl rfl ?_
  refine x_iload_n S dL_law_577 3 rfl rfl ?_
  refine x_iconst (v := 2) S dL_law_578 rfl ?_
  refine x_iadd S dL_law_579 ?_
  refine x_top (nI (4 * k + 2)) (nI_add (4 * k) 2) ?_
  refine x_sld S hX hbl hbA (by omega) (4 * k + 2) rfl (by omega) dL_law_580 ?_
  refine x_cViS (n := 2) S (q_bars (xs (4 * k + 1)) (xs (4 * k + 2)) g hJ) (gGV gC tw676 tw673 tw674 tw675 tw7) rfl (by decide +kernel) 0 rfl rfl rfl rfl (Nat.le_of_ble_eq_true rfl) dL_law_581 ⟨by decide, by decide⟩ hce (fun g1 hJ1 => ?_)
  refine x_icmp_eq (tgt := 645) S dL_law_584 (by decide) (fun _ => ?_) (fun q => absurd rfl q)
  refine x_swap (w1 := mwH bd cI cZ n am al g1) (w2 := cwH ad cI cII cP n am al fr to wt h1) ?_
  exact NX n am al fr to wt h1 g1 (cInv_up hI1) hJ1
set_option maxHeartbeats 4000000 in
set_option maxRecDepth 100000 in
theorem l_19 (S : xOK E l room_1 D vwCl (tyC cI cII cP cZ) cL_law R_law 4 (Cond.initialized RL :: gT) nwC) (hL : L ≤ 2048) (hX : va_X b L xs E.s E.s.heap) (hbl : b < E.s.heap.size) (hbA : ¬ E.A b) (hce : cells ≤ 600000 ∧ slots ≤ 7302250) {k : Nat} (hk : k ≤ 512) (hkL : 4 * k + 4 ≤ L) (NX : ∀ (n am al : Nat) (fr to wt : Nat → Nat) (h : HS) (g : MS), cInv (k + 1) n am al fr to wt h → mInv n am al fr to wt g → xW E D vwCl 4 cells slots ((cwH ad cI cII cP n am al fr to wt h) ++ (mwH bd cI cZ n am al g)) [(0, .ref b), (1, .ref (ad 25)), (2, .ref (bd 0)), (3, .int (nI (4 * k)))] 645 []) {n am al : Nat} {fr to wt : Nat → Nat} {h : HS} {g : MS} (hI : cInv k n am al fr to wt h) (hJ : mInv n am al fr to wt g) : xW E D vwCl 4 cells slots ((cwH ad cI cII cP n am al fr to wt h) ++ (mwH bd cI cZ n am al g)) [(0, .ref b), (1, .ref (ad 25)), (2, .ref (bd 0)), (3, .int (nI (4 * k)))] 589 [] := by
  refine x_aload_n S dL_law_589 1 rfl rfl ?_
  refine x_aload_n S dL_law_590 0 rfl rfl ?_
  refine x_iload_n S dL_law_591 3 rfl rfl ?_
  refine x_iconst (v := 1) S dL_law_592 rfl ?_
  refine x_iadd S dL_law_593 ?_
  refine x_top (nI (4 * k + 1)) (nI_add (4 * k) 1) ?_
  refine x_sld S hX hbl hbA (by omega) (4 * k + 1) rfl (by omega) dL_law_594 ?_
  refine x_aload_n S dL_law_595 0 rfl rfl ?_
  refine x_iload_n S dL_law_596 3 rfl rfl ?_
  refine x_iconst (v := 2) S dL_law_597 rfl ?_
  refine x_iadd S dL_law_598 ?_
  refine x_top (nI (4 * k + 2)) (nI_add (4 * k) 2) ?_
  refine x_sld S hX hbl hbA (by omega) (4 * k + 2) rfl (by omega) dL_law_599 ?_
  refine x_cViS (n := 2) S (p_barSet (xs (4 * k + 1)) (xs (4 * k + 2)) h hI) (gGV gC tw437 tw449 tw435 tw436 tw1) rfl (by decide +kernel) 25 rfl rfl rfl rfl (Nat.le_of_ble_eq_true rfl) dL_law_600 ⟨by decide, by decide⟩ hce (fun h1 hI1 => ?_)
  refine x_swap (w1 := cwH ad cI cII cP n am al fr to wt h1) (w2 := (mwH bd cI cZ n am al g)) ?_
  refine x_aload_n S dL_law_603 2 rfl rfl ?_
  refine x_aload_n S dL_law_604 0 rfl rfl ?_
  refine x_iload_n S dL_law_605 3 rfl rfl ?_
  refine x_iconst (v := 1) S dL_law_606 rfl ?_
  refine x_iadd S dL_law_607 ?_
  refine x_top (nI (4 * k + 1)) (nI_add (4 * k) 1) ?_
  refine x_sld S hX hbl hbA (by omega) (4 * k + 1) rfl (by omega) dL_law_608 ?_
  refine x_aload_n S dL_law_609 0 rfl rfl ?_
  refine x_iload_n S dL_law_610 3 rfl rfl ?_
  refine x_iconst (v := 2) S dL_law_611 rfl ?_
  refine x_iadd S dL_law_612 ?_
  refine x_top (nI (4 * k + 2)) (nI_add (4 * k) 2) ?_
  refine x_sld S hX hbl hbA (by omega) (4 * k + 2) rfl (by omega) dL_law_613 ?_
  refine x_cViS (n := 2) S (q_barSet (xs (4 * k + 1)) (xs (4 * k + 2)) g hJ) (gGV gC tw692 tw689 tw690 tw691 tw7) rfl (by decide +kernel) 0 rfl rfl rfl rfl (Nat.le_of_ble_eq_true rfl) dL_law_614 ⟨by decide, by decide⟩ hce (fun g1 hJ1 => ?_)
  refine x_icmp_eq (tgt := 645) S dL_law_617 (by decide) (fun _ => ?_) (fun q => absurd rfl q)
  refine x_swap (w1 := mwH bd cI cZ n am al g1) (w2 := cwH ad cI cII cP n am al fr to wt h1) ?_
  exact NX n am al fr to wt h1 g1 (cInv_up hI1) hJ1
set_option maxHeartbeats 4000000 in
set_option maxRecDepth 100000 in
theorem l_20 (S : xOK E l room_1 D vwCl (tyC cI cII cP cZ) cL_law R_law 4 (Cond.initialized RL :: gT) nwC) (hL : L ≤ 2048) (hX : va_X b L xs E.s E.s.heap) (hbl : b < E.s.heap.size) (hbA : ¬ E.A b) (hce : cells ≤ 600000 ∧ slots ≤ 7302250) {k : Nat} (hk : k ≤ 512) (hkL : 4 * k + 4 ≤ L) (NX : ∀ (n am al : Nat) (fr to wt : Nat → Nat) (h : HS) (g : MS), cInv (k + 1) n am al fr to wt h → mInv n am al fr to wt g → xW E D vwCl 4 cells slots ((cwH ad cI cII cP n am al fr to wt h) ++ (mwH bd cI cZ n am al g)) [(0, .ref b), (1, .ref (ad 25)), (2, .ref (bd 0)), (3, .int (nI (4 * k)))] 645 []) {n am al : Nat} {fr to wt : Nat → Nat} {h : HS} {g : MS} (hI : cInv k n am al fr to wt h) (hJ : mInv n am al fr to wt g) : xW E D vwCl 4 cells slots ((cwH ad cI cII cP n am al fr to wt h) ++ (mwH bd cI cZ n am al g)) [(0, .ref b), (1, .ref (ad 25)), (2, .ref (bd 0)), (3, .int (nI (4 * k)))] 622 [] := by
  refine x_aload_n S dL_law_622 1 rfl rfl ?_
  refine x_aload_n S dL_law_623 0 rfl rfl ?_
  refine x_iload_n S dL_law_624 3 rfl rfl ?_
  refine x_iconst (v := 1) S dL_law_625 rfl ?_
  refine x_iadd S dL_law_626 ?_
  refine x_top (nI (4 * k + 1)) (nI_add (4 * k) 1) ?_
  refine x_sld S hX hbl hbA (by omega) (4 * k + 1) rfl (by omega) dL_law_627 ?_
  refine x_cViS (n := 1) S (p_without (xs (4 * k + 1)) h hI) (gGV gC tw453 tw450 tw451 tw452 tw1) rfl (by decide +kernel) 25 rfl rfl rfl rfl (Nat.le_of_ble_eq_true rfl) dL_law_628 ⟨by decide, by decide⟩ hce (fun h1 hI1 => ?_)
  refine x_swap (w1 := cwH ad cI cII cP n am al fr to wt h1) (w2 := (mwH bd cI cZ n am al g)) ?_
  refine x_aload_n S dL_law_631 2 rfl rfl ?_
  refine x_aload_n S dL_law_632 0 rfl rfl ?_
  refine x_iload_n S dL_law_633 3 rfl rfl ?_
  refine x_iconst (v := 1) S dL_law_634 rfl ?_
  refine x_iadd S dL_law_635 ?_
  refine x_top (nI (4 * k + 1)) (nI_add (4 * k) 1) ?_
  refine x_sld S hX hbl hbA (by omega) (4 * k + 1) rfl (by omega) dL_law_636 ?_
  refine x_cViS (n := 1) S (q_without (xs (4 * k + 1)) g hJ) (gGV gC tw696 tw693 tw694 tw695 tw7) rfl (by decide +kernel) 0 rfl rfl rfl rfl (Nat.le_of_ble_eq_true rfl) dL_law_637 ⟨by decide, by decide⟩ hce (fun g1 hJ1 => ?_)
  refine x_icmp_eq (tgt := 645) S dL_law_640 (by decide) (fun _ => ?_) (fun q => absurd rfl q)
  refine x_swap (w1 := mwH bd cI cZ n am al g1) (w2 := cwH ad cI cII cP n am al fr to wt h1) ?_
  exact NX n am al fr to wt h1 g1 (cInv_up hI1) hJ1
set_option maxHeartbeats 4000000 in
set_option maxRecDepth 100000 in
theorem l_loop (S : xOK E l room_1 D vwCl (tyC cI cII cP cZ) cL_law R_law 4 (Cond.initialized RL :: gT) nwC) (hL : L ≤ 2048) (hX : va_X b L xs E.s E.s.heap) (hbl : b < E.s.heap.size) (hbA : ¬ E.A b) (hce : cells ≤ 600000 ∧ slots ≤ 7302250) (hEnd : ∀ ws lv, xW E D vwCl 4 cells slots ws lv 651 []) : ∀ k, k ≤ 512 → ∀ (n am al : Nat) (fr to wt : Nat → Nat) (h : HS) (g : MS), cInv k n am al fr to wt h → mInv n am al fr to wt g → xW E D vwCl 4 cells slots ((cwH ad cI cII cP n am al fr to wt h) ++ (mwH bd cI cZ n am al g)) [(0, .ref b), (1, .ref (ad 25)), (2, .ref (bd 0)), (3, .int (nI (4 * k)))] 18 [] := by
  refine pl_up 512 (fun k hk ih => ?_)
  intro n am al fr to wt h g hI hJ
  refine x_iload_n S dL_law_18 3 rfl rfl ?_
  refine x_aload_n S dL_law_19 0 rfl rfl ?_
  refine x_slen S hX hbl hbA dL_law_20 ?_
  refine x_iconst (v := 4) S dL_law_21 rfl ?_
  refine x_isub S dL_law_22 ?_
  refine x_icmp_gt (tgt := 651) S dL_law_23 (by decide) (fun _ => hEnd _ _) (fun q => ?_)
  have hkL : 4 * k + 4 ≤ L := len4 hL (by omega) q
  refine x_aload_n S dL_law_26 0 rfl rfl ?_
  refine x_iload_n S dL_law_27 3 rfl rfl ?_
  refine x_sld S hX hbl hbA (by omega) (4 * k) rfl (by omega) dL_law_28 ?_
  refine x_bipush (v := 31) S dL_law_29 (by decide) ?_
  refine x_iand S dL_law_31 ?_
  have NX : ∀ (n am al : Nat) (fr to wt : Nat → Nat) (h : HS) (g : MS), cInv (k + 1) n am al fr to wt h → mInv n am al fr to wt g → xW E D vwCl 4 cells slots ((cwH ad cI cII cP n am al fr to wt h) ++ (mwH bd cI cZ n am al g)) [(0, .ref b), (1, .ref (ad 25)), (2, .ref (bd 0)), (3, .int (nI (4 * k)))] 645 [] := by
    intro n am al fr to wt h g hI hJ
    refine x_iinc (lv' := [(3, .int (nI (4 * (k + 1)))), (0, .ref b), (1, .ref (ad 25)), (2, .ref (bd 0))]) (v := nI (4 * (k + 1))) S dL_law_645 3 rfl (nI_add (4 * k) 4) (by decide) rfl ?_
    refine x_goto (tgt := 18) S dL_law_648 (by decide) ?_
    exact x_sub [1, 2, 3, 0] rfl (ih (by omega) n am al fr to wt h g hI hJ)
  rcases sw_cases (xs (4 * k) &&& 31) with e | e | e | e | e | e | e | e | e | e | e | e | e | e | e | e | e | e | e | e | e | e
  · refine x_top 0 e (x_tin (tgt := 132) S dL_law_32 (by decide) (by decide) (off := 100) (by decide) (by decide) (l_0 S hL hX hbl hbA hce hk hkL NX hI hJ))
  · refine x_top 1 e (x_tin (tgt := 145) S dL_law_32 (by decide) (by decide) (off := 113) (by decide) (by decide) (l_1 S hL hX hbl hbA hce hk hkL NX hI hJ))
  · refine x_top 2 e (x_tin (tgt := 188) S dL_law_32 (by decide) (by decide) (off := 156) (by decide) (by decide) (l_2 S hL hX hbl hbA hce hk hkL NX hI hJ))
  · refine x_top 3 e (x_tin (tgt := 211) S dL_law_32 (by decide) (by decide) (off := 179) (by decide) (by decide) (l_3 S hL hX hbl hbA hce hk hkL NX hI hJ))
  · refine x_top 4 e (x_tin (tgt := 224) S dL_law_32 (by decide) (by decide) (off := 192) (by decide) (by decide) (l_4 S hL hX hbl hbA hce hk hkL NX hI hJ))
  · refine x_top 5 e (x_tin (tgt := 247) S dL_law_32 (by decide) (by decide) (off := 215) (by decide) (by decide) (l_5 S hL hX hbl hbA hce hk hkL NX hI hJ))
  · refine x_top 6 e (x_tin (tgt := 280) S dL_law_32 (by decide) (by decide) (off := 248) (by decide) (by decide) (l_6 S hL hX hbl hbA hce hk hkL NX hI hJ))
  · refine x_top 7 e (x_tin (tgt := 313) S dL_law_32 (by decide) (by decide) (off := 281) (by decide) (by decide) (l_7 S hL hX hbl hbA hce hk hkL NX hI hJ))
  · refine x_top 8 e (x_tin (tgt := 336) S dL_law_32 (by decide) (by decide) (off := 304) (by decide) (by decide) (l_8 S hL hX hbl hbA hce hk hkL NX hI hJ))
  · refine x_top 9 e (x_tin (tgt := 359) S dL_law_32 (by decide) (by decide) (off := 327) (by decide) (by decide) (l_9 S hL hX hbl hbA hce hk hkL NX hI hJ))
  · refine x_top 10 e (x_tin (tgt := 392) S dL_law_32 (by decide) (by decide) (off := 360) (by decide) (by decide) (l_10 S hL hX hbl hbA hce hk hkL NX hI hJ))
  · refine x_top 11 e (x_tin (tgt := 405) S dL_law_32 (by decide) (by decide) (off := 373) (by decide) (by decide) (l_11 S hL hX hbl hbA hce hk hkL NX hI hJ))
  · refine x_top 12 e (x_tin (tgt := 418) S dL_law_32 (by decide) (by decide) (off := 386) (by decide) (by decide) (l_12 S hL hX hbl hbA hce hk hkL NX hI hJ))
  · refine x_top 13 e (x_tin (tgt := 441) S dL_law_32 (by decide) (by decide) (off := 409) (by decide) (by decide) (l_13 S hL hX hbl hbA hce hk hkL NX hI hJ))
  · refine x_top 14 e (x_tin (tgt := 464) S dL_law_32 (by decide) (by decide) (off := 432) (by decide) (by decide) (l_14 S hL hX hbl hbA hce hk hkL NX hI hJ))
  · refine x_top 15 e (x_tin (tgt := 487) S dL_law_32 (by decide) (by decide) (off := 455) (by decide) (by decide) (l_15 S hL hX hbl hbA hce hk hkL NX hI hJ))
  · refine x_top 16 e (x_tin (tgt := 520) S dL_law_32 (by decide) (by decide) (off := 488) (by decide) (by decide) (l_16 S hL hX hbl hbA hce hk hkL NX hI hJ))
  · refine x_top 17 e (x_tin (tgt := 533) S dL_law_32 (by decide) (by decide) (off := 501) (by decide) (by decide) (l_17 S hL hX hbl hbA hce hk hkL NX hI hJ))
  · refine x_top 18 e (x_tin (tgt := 556) S dL_law_32 (by decide) (by decide) (off := 524) (by decide) (by decide) (l_18 S hL hX hbl hbA hce hk hkL NX hI hJ))
  · refine x_top 19 e (x_tin (tgt := 589) S dL_law_32 (by decide) (by decide) (off := 557) (by decide) (by decide) (l_19 S hL hX hbl hbA hce hk hkL NX hI hJ))
  · refine x_top 20 e (x_tin (tgt := 622) S dL_law_32 (by decide) (by decide) (off := 590) (by decide) (by decide) (l_20 S hL hX hbl hbA hce hk hkL NX hI hJ))
  · exact x_tout (tgt := 645) S dL_law_32 e (by decide) (NX n am al fr to wt h g (cInv_up hI) hJ)
end LAW1
