/-! rows that make cells; contracts that ask for the classes of arrays of references -/
section XNEW
variable {E : xE} {l : Launch} {R : Room} {D : va_G} {cl : List vw_C} {tys : List (ClassId × FieldType)} {cc : ByteArray} {own : String} {nL : Nat} {Ts : List Cond} {nws : xN} {cells slots : Nat} {ws : va_W} {lv : List (Nat × Value)} {pc : Nat} {st : List Value}
/-- the classes of Parting[] and int[][] stand -/
def oS (U : State) : Prop := va_AO "CutTrees$Parting" U ∧ (Cond.arrayOver (.array .int)).before #[] U = true
theorem oS.alike {u U : State} (hvm : u.vm.Alike U.vm) (h : oS u) : oS U := ⟨va_AO.moved hvm h.1, Jvm.Stand.arrayOver_alikeB hvm h.2⟩
def xMetO {S : Type} (l : Launch) (y : MethodName) (wsC : List Cond) (rm : Room) (D : va_G) (cl : List vw_C) (tys : List (ClassId × FieldType)) (nws : xN) (av : List Value) (ws : va_W) (post : S → Prop) (ws' : S → va_W) (v : S → Option Value) : Prop :=
  ∀ sz, Met l y wsC rm (va_Pc av (fun U => xPre D cl tys nws ws sz U ∧ oS U)) (xQ D cl ws sz post ws' v) rm.cells rm.slots (va_A ws sz)
theorem xMetO_of {S : Type} {y : MethodName} {wsC wsC' : List Cond} {rm : Room} {av : List Value} {maxL : Nat} {post : S → Prop} {ws' : S → va_W} (hy : plainName y.cls = true) (hw : wsC = Cond.code y cc maxL none :: wsC') (hlen : (lg_sl av).length ≤ maxL)
    (body : ∀ E : xE, xOK E l rm D cl tys cc y.cls maxL wsC nws → E.meth.name = y.name → oS E.s → xRetS E D cl maxL cc rm.cells rm.slots post ws' (fun _ => none) → xW E D cl maxL 0 0 ws (lv_args 0 av) 0 []) : xMetO l y wsC rm D cl tys nws av ws post ws' (fun _ => none) := by
  intro sz
  refine Met.ofW (cc := cc) (maxL := maxL) (ret := none) hy hw ?_
  intro p e s m args below meth c s₁ B hml hv0
  obtain ⟨rfl, ⟨hsz, hP, hK, hD0, hN⟩, hO⟩ := hv0
  have hx := B.exec
  have hb := B.bytes
  have hr := B.returns
  have hts := atoms_spec (ws := wsC) B.pre
  have hown : s.vm.findClass y.cls = some m.cls := findClass_of_methodNamed B.named
  have hlocks := B.notSynchronized
  have hin : meth.name = y.name := (name_of_methodNamed B.named B.method).1
  subst hsz
  have hD := hD0.self (sz := s.heap.size)
  have hl := lv_entry av hlen
  rw [lg_entry_eq]
  refine body (p, l, e, (headSpec wsC rm).room, s, m, av.toArray, below, meth, c, MQ below (xQ D cl ws s.heap.size post ws' (fun _ => none)) av.toArray s rm.cells rm.slots (va_A ws s.heap.size), va_A ws s.heap.size) ⟨⟨hx, hb, hml, hown, hts⟩, rfl, rfl, hK, fun q h => Or.inr h, hN⟩ hin hO ?_ s.heap [] _ hP hD va_S.rf hl
  intro u lv pc hpu hend H locs ls hP hD hS hl
  have hq : ∀ t : State, t.heap = H → xQ D cl ws s.heap.size post ws' (fun _ => none) av.toArray s (.returned none) t := fun t ht => ⟨u, rfl, hpu, by rw [ht]; exact hP, hD, hS.F ht⟩
  exact W.vret hx hb hr (fun t ht _ => hq t ht) hS.2.2 hend
theorem x_blindO {av : List Value} {sz : Nat} : FrameBlind (va_Pc av (fun U => xPre D cl tys nws ws sz U ∧ oS U)) := fun a U g mk q => by
  obtain ⟨q0, ⟨q1, qP, qK, qD, qN⟩, qO⟩ := q
  exact ⟨q0, ⟨q1, qP, va_K.moved (u := U) (U := U.calling g mk a) (Vm.Alike.refl U.vm) qK, qD, qN.same rfl⟩, oS.alike (u := U) (U := U.calling g mk a) (Vm.Alike.refl U.vm) qO⟩
theorem x_preO (S : xOK E l R D cl tys cc own nL Ts nws) (hO : oS E.s) {H : Heap} {av : List Value} (hP : va_P D cl ws H) (hD : va_D E.A ws) : ∀ U : State, U.heap = H → E.s.WarmedH U.vm → va_Pc av (fun U => xPre D cl tys nws ws H.size U ∧ oS U) av.toArray U := fun U hU hW => ⟨rfl, ⟨by rw [hU], by rw [hU]; exact hP, va_K.moved hW.alike S.2.2.2.1, hD.weaken (fun _ _ _ _ => trivial), S.2.2.2.2.2.warm hW⟩, hO.alike hW.alike⟩
theorem x_callIO (S0 : xOK E l R D cl tys cc own nL Ts nws) (hO : oS E.s) {Sg : Type} {post : Sg → Prop} {ws' : Sg → va_W} {v : Sg → Option Value} {y : MethodName} {wsC wsC' : List Cond} {rm : Room} {bytes : ByteArray} {maxL index b n : Nat} {As rest : List Value} (hM : xMetO l y wsC rm D cl tys nws (.ref b :: As) ws post ws' v) (hG : GoodIn Ts wsC) (hw : wsC = Cond.code y bytes maxL none :: wsC') (hini : Cond.initialized y.cls ∈ Ts) (hlk : Cond.methodLink own index y ∈ Ts) (hins : Cond.instanceMethod y ∈ Ts) (hy1 : y.name = "<init>") (hdd : y.cls ≠ "java/lang/invoke/MethodHandle" ∧ y.cls ≠ "java/lang/invoke/VarHandle" ∧ (parseMethodDescriptor y.desc).map (fun d => d.parameters.length) = some n) (hn : As.length = n) (hst : st = As.reverse ++ .ref b :: rest) (hWt : (rest.map fun v => v.category).sum ≤ 8) (hd : decode cc pc = .ok (.invokespecial index, 3)) (hR : rm.frames + 1 ≤ R.frames ∧ 8 + (maxL + 11) + rm.locals ≤ R.locals) (hC : cells + rm.cells ≤ R.cells ∧ slots + rm.slots ≤ R.slots) (kk : ∀ u : Sg, post u → xW E D cl nL (cells + rm.cells) (slots + rm.slots) (ws' u) lv (pc + 3) ((v u).toList ++ rest)) : xW E D cl nL cells slots ws lv pc st := by
  intro H locs ls hP hD hS hl
  obtain ⟨F, hl0, hR0, hK, hA, hN⟩ := id S0
  subst hl0; subst hR0
  exact x_goS S0 hP hD hS hl (va_runI (As := As) (rest := rest) (b := b) F (hM H.size) (cwI n F.2.2.2.2 hG hw rfl rfl (S0.w _ hini) (S0.w _ hlk) (S0.w _ hins) hy1 hdd hR) ⟨x_blindO, x_preO S0 hO hP hD⟩ rfl hn hl.1 hst (lv_room hWt) hd hC) kk
theorem x_callINO (S0 : xOK E l R D cl tys cc own nL Ts nws) (hO : oS E.s) {Sg : Type} {post : Sg → Prop} {ws' : Sg → va_W} {v : Sg → Option Value} {y : MethodName} {wsC wsC' : List Cond} {rm : Room} {bytes : ByteArray} {maxL index b n : Nat} {As rest : List Value} {host : String} (hM : xMetO l y wsC rm D cl tys nws (.ref b :: As) ws post ws' v) (hG : GoodIn Ts wsC) (hw : wsC = Cond.code y bytes maxL none :: wsC') (hnw : (own, index, y, host) ∈ nws) (hini : Cond.initialized y.cls ∈ Ts) (hins : Cond.instanceMethod y ∈ Ts) (hy1 : y.name = "<init>") (hdd : y.cls ≠ "java/lang/invoke/MethodHandle" ∧ y.cls ≠ "java/lang/invoke/VarHandle" ∧ (parseMethodDescriptor y.desc).map (fun d => d.parameters.length) = some n) (hn : As.length = n) (hst : st = As.reverse ++ .ref b :: rest) (hWt : (rest.map fun v => v.category).sum ≤ 8) (hd : decode cc pc = .ok (.invokespecial index, 3)) (hR : rm.frames + 1 ≤ R.frames ∧ 8 + (maxL + 11) + rm.locals ≤ R.locals) (hC : cells + rm.cells ≤ R.cells ∧ slots + rm.slots ≤ R.slots) (kk : ∀ u : Sg, post u → xW E D cl nL (cells + rm.cells) (slots + rm.slots) (ws' u) lv (pc + 3) ((v u).toList ++ rest)) : xW E D cl nL cells slots ws lv pc st := by
  intro H locs ls hP hD hS hl
  obtain ⟨F, hl0, hR0, hK, hA, hN⟩ := id S0
  subst hl0; subst hR0
  exact x_goS S0 hP hD hS hl (va_runIN (As := As) (rest := rest) (b := b) (host := host) F (hM H.size) ⟨va_cnB n F.2.2.2.2 hG hw rfl rfl (hN _ hnw) (S0.w _ hini) hdd hR, hy1, S0.w _ hins⟩ ⟨x_blindO, x_preO S0 hO hP hD⟩ rfl hn hl.1 hst (lv_room hWt) hd hC) kk
theorem x_objInit (S : xOK E l R D cl tys cc own nL Ts nws) {idx a : Nat} (h1 : Cond.methodLink own idx Lib.objectInit ∈ Ts) (h2 : Cond.instanceMethod Lib.objectInit ∈ Ts) (h3 : Cond.code Lib.objectInit ⟨#[0xb1]⟩ 1 none ∈ Ts) (hd : decode cc pc = .ok (.invokespecial idx, 3)) (hf : 1 ≤ R.frames) (hWt : (st.map fun v => v.category).sum ≤ 8) (hL : 20 ≤ R.locals) (k : xW E D cl nL cells slots ws lv (pc + 3) st) : xW E D cl nL cells slots ws lv pc (.ref a :: st) := by
  intro H locs ls hP hD hS hl
  refine W.objInit S.1.1 S.1.2.1 S.1.2.2.2.1 (S.w _ h1) (S.w _ h2) (S.w _ h3) rfl (by rw [S.1.2.2.1]; exact hl.1) rfl hd (by rw [S.2.2.1]; exact hf) ?_ (k H locs ls hP hD hS hl)
  rw [S.2.2.1]
  have := lv_room (m := E.m) (pc := pc) (ls := ls) (rest := .ref a :: st) hWt
  omega
theorem x_mid {a b X : va_W} {q : Nat × va_E} {A : Nat → Prop} {H : Heap} (hP : va_P D cl ((a ++ X) ++ b) H) : va_P D cl (a ++ (b ++ X)) H := by rw [← List.append_assoc]; exact hP.swap
theorem x_midD {a b X : va_W} {A : Nat → Prop} (hD : va_D A ((a ++ X) ++ b)) : va_D A (a ++ (b ++ X)) := by rw [← List.append_assoc]; exact hD.swap
theorem x_tysN {U : State} {cA : ClassId} {ty : FieldType} (h : va_K D cl (tys ++ [(cA, ty)]) U) : va_RA U cA ty := (h.2 tys.length (cA, ty) (by simp)).2
theorem x_newI (S : xOK E l R D cl tys cc own nL Ts nws) {cA : ClassId} {a X : va_W} {n : Int32} {N' : Nat} (t0 : Nat) (ht : tys[t0]? = some (cA, .int)) (harr : Cond.arrayClass .int ∈ Ts) (hn : ¬ n < 0) (hN : n.toNatClampNeg = N') (hby : N' * componentBytes .int ≤ 536870912) (hc : cells + 1 ≤ R.cells) (hs : slots + N' ≤ R.slots) (hd : decode cc pc = .ok (.newarray .int, 2)) (k : ∀ q : Nat, xW E D cl nL (cells + 1) (slots + N') (a ++ (q, .inl (cA, N', .inl (fun _ => 0))) :: X) lv (pc + 2) (.ref q :: st)) : xW E D cl nL cells slots (a ++ X) lv pc (.int n :: st) := by
  intro H locs ls hP hD hS hl
  obtain ⟨F, hl0, hR0, hK, hA, hN0⟩ := id S
  subst hl0; subst hR0
  refine va_newa (atype := .int) (a0 := (N', .inl (fun _ => 0))) F.1 F.2.1 (S.w _ harr) rfl hK hP hD hS hA (fun _ => rfl) hn hN hby hc hs hd (fun q cA' H1 hK1 hP1 hD1 hS1 => ?_)
  have e1 : E.s.vm.findClass ("[" ++ FieldType.int.toString) = some cA' := x_tysN hK1
  have e2 : E.s.vm.findClass ("[" ++ FieldType.int.toString) = some cA := (hK.2 t0 _ ht).2
  cases e1.symm.trans e2
  exact k q H1 locs ls (x_mid (q := (0, .inr (0, []))) (A := fun _ => True) hP1) (x_midD hD1) hS1 hl
theorem x_newZ (S : xOK E l R D cl tys cc own nL Ts nws) {cA : ClassId} {a X : va_W} {n : Int32} {N' : Nat} (t0 : Nat) (ht : tys[t0]? = some (cA, .boolean)) (harr : Cond.arrayClass .boolean ∈ Ts) (hn : ¬ n < 0) (hN : n.toNatClampNeg = N') (hby : N' * componentBytes .boolean ≤ 536870912) (hc : cells + 1 ≤ R.cells) (hs : slots + N' ≤ R.slots) (hd : decode cc pc = .ok (.newarray .boolean, 2)) (k : ∀ q : Nat, xW E D cl nL (cells + 1) (slots + N') (a ++ (q, .inl (cA, N', .inl (fun _ => 0))) :: X) lv (pc + 2) (.ref q :: st)) : xW E D cl nL cells slots (a ++ X) lv pc (.int n :: st) := by
  intro H locs ls hP hD hS hl
  obtain ⟨F, hl0, hR0, hK, hA, hN0⟩ := id S
  subst hl0; subst hR0
  refine va_newa (atype := .boolean) (a0 := (N', .inl (fun _ => 0))) F.1 F.2.1 (S.w _ harr) rfl hK hP hD hS hA (fun _ => rfl) hn hN hby hc hs hd (fun q cA' H1 hK1 hP1 hD1 hS1 => ?_)
  have e1 : E.s.vm.findClass ("[" ++ FieldType.boolean.toString) = some cA' := x_tysN hK1
  have e2 : E.s.vm.findClass ("[" ++ FieldType.boolean.toString) = some cA := (hK.2 t0 _ ht).2
  cases e1.symm.trans e2
  exact k q H1 locs ls (x_mid (q := (0, .inr (0, []))) (A := fun _ => True) hP1) (x_midD hD1) hS1 hl
theorem x_new (S : xOK E l R D cl tys cc own nL Ts nws) {C : String} {T : u_T} {N index : Nat} {a X : va_W} {fs : List Value} (ci : Nat) (hc0 : cl[ci]? = some (C, T, N)) (hin : ∀ w ∈ u_ws C T N, w ∈ Ts) (ty : Nat → FieldType) (hty : ∀ k, k < N → parseFieldDescriptor (T k).2.2.1 = some (ty k)) (hlk : Cond.classLink own index C ∈ Ts) (hinst : Cond.instantiable C N ∈ Ts) (hini : Cond.initialized C ∈ Ts) (hfs : ∀ j, j < N → defaultValue (ty j) = vp_V fs j) (hc : cells + 1 ≤ R.cells) (hs : slots + N ≤ R.slots) (hd : decode cc pc = .ok (.new index, 3)) (k : ∀ q : Nat, xW E D cl nL (cells + 1) (slots + N) (a ++ (q, .inr (ci, fs)) :: X) lv (pc + 3) (.ref q :: st)) : xW E D cl nL cells slots (a ++ X) lv pc st := by
  intro H locs ls hP hD hS hl
  obtain ⟨F, hl0, hR0, hK, hA, hN0⟩ := id S
  subst hl0; subst hR0
  refine va_new F.1 F.2.1 F.2.2.2.2 hin ty hty F.2.2.2.1 (S.w _ hlk) (S.w _ hinst) (S.w _ hini) hK hP hD hS hA hc0 hfs hc hs hd (fun q H1 hP1 hD1 hS1 => ?_)
  exact k q H1 locs ls (x_mid (q := (0, .inr (0, []))) (A := fun _ => True) hP1) (x_midD hD1) hS1 hl
theorem x_anew (S : xOK E l R D cl tys cc own nL Ts nws) {C : String} {cA : ClassId} {index : Nat} {a X : va_W} {n : Int32} {N' : Nat} (hO : va_AO C E.s) (t0 : Nat) (ht : tys[t0]? = some (cA, .object C)) (hlk : Cond.classLink own index C ∈ Ts) (hn : ¬ n < 0) (hN : n.toNatClampNeg = N') (hby : N' * 4 ≤ 536870912) (hc : cells + 1 ≤ R.cells) (hs : slots + N' ≤ R.slots) (hd : decode cc pc = .ok (.anewarray index, 3)) (k : ∀ q : Nat, xW E D cl nL (cells + 1) (slots + N') (a ++ (q, .inl (cA, N', .inr (.inr (.inr (.inr (fun _ => none)))))) :: X) lv (pc + 3) (.ref q :: st)) : xW E D cl nL cells slots (a ++ X) lv pc (.int n :: st) := by
  intro H locs ls hP hD hS hl
  obtain ⟨F, hl0, hR0, hK, hA, hN0⟩ := id S
  subst hl0; subst hR0
  refine va_newq F.1 F.2.1 F.2.2.2.1 (S.w _ hlk) hO hK hP hD hS hA hn hN hby hc hs hd (fun q cA' H1 hK1 hP1 hD1 hS1 => ?_)
  obtain ⟨_, _, -, -, -, e1⟩ := x_tysN hK1
  obtain ⟨_, _, -, -, -, e2⟩ := (hK.2 t0 _ ht).2
  cases e1.symm.trans e2
  exact k q H1 locs ls (x_mid (q := (0, .inr (0, []))) (A := fun _ => True) hP1) (x_midD hD1) hS1 hl
theorem x_aast (S : xOK E l R D cl tys cc own nL Ts nws) {cA : ClassId} {r : vw_C} {n v a : Nat} {vs : List Value} {f : Nat → Option Nat} {i : Int32} {ws' : va_W} (q0 t0 qk ci j : Nat) (ha : ws[q0]? = some (a, .inl (cA, n, .inr (.inr (.inr (.inr f)))))) (ht : tys[t0]? = some (cA, .object r.1)) (hv : ws[qk]? = some (v, .inr (ci, vs))) (hc : cl[ci]? = some r) (hi : i = nI j) (hj : j < n) (hn : n < 2 ^ 31) (hd : decode cc pc = .ok (.aastore, 1)) (hw : ws.set q0 (a, .inl (cA, n, .inr (.inr (.inr (.inr (va_up f j (some v))))))) = ws') (k : xW E D cl nL cells slots ws' lv (pc + 1) st) : xW E D cl nL cells slots ws lv pc (.ref v :: .int i :: .ref a :: st) := by
  subst hi; subst hw
  intro H locs ls hP hD hS hl
  obtain ⟨F, hl0, hR0, hK, hA, hN0⟩ := id S
  refine va_astq F.1 F.2.1 hK hP hD hS q0 t0 qk ci ha ht hv hc (vp_in_nI hj hn) hd ?_
  rw [nI_clamp (Nat.lt_trans hj hn)]
  exact fun H1 locs1 h1 h2 h3 => k H1 locs1 ls h1 h2 h3 hl
/-- cells that were made together: their addresses one behind the other -/
theorem x_grow {A : Nat → Prop} {ws w2 : va_W} {h : Nat} (hD : va_D A ws) (hlt : ∀ (k : Nat) (q : Nat × va_E), ws[k]? = some q → q.1 < h) (h2 : ∀ (k : Nat) (q : Nat × va_E), w2[k]? = some q → q.1 = h + k) (hA : ∀ q, h ≤ q → A q) : va_D A (ws ++ w2) := by
  refine ⟨fun i j x y hi hj hxy => ?_, fun k x hx => ?_⟩
  · by_cases c1 : i < ws.length <;> by_cases c2 : j < ws.length
    · rw [List.getElem?_append_left c1] at hi
      rw [List.getElem?_append_left c2] at hj
      exact hD.1 i j x y hi hj hxy
    · rw [List.getElem?_append_left c1] at hi
      rw [List.getElem?_append_right (by omega)] at hj
      have := hlt _ _ hi
      have := h2 _ _ hj
      omega
    · rw [List.getElem?_append_right (by omega)] at hi
      rw [List.getElem?_append_left c2] at hj
      have := hlt _ _ hj
      have := h2 _ _ hi
      omega
    · rw [List.getElem?_append_right (by omega)] at hi hj
      have := h2 _ _ hi
      have := h2 _ _ hj
      omega
  · by_cases c1 : k < ws.length
    · rw [List.getElem?_append_left c1] at hx
      exact hD.2 k x hx
    · rw [List.getElem?_append_right (by omega)] at hx
      have := h2 _ _ hx
      exact hA _ (by omega)
theorem arrV_ext {c : ClassId} {N : Nat} {f g : Nat → Value} (h : ∀ j, j < N → f j = g j) : arrV c N f = arrV c N g := by
  unfold arrV
  congr 1
  exact congrArg Array.ofFn (funext (fun j => h j.val j.isLt))
theorem outer_is (c : ClassId) (N h0 : Nat) : ∀ i : Nat, i ≤ N → Jvm.Free.Multi.outerC c N h0 i = arrV c N (fun j => if j < i then .ref (h0 + 1 + j) else .null)
  | 0, _ => by
    show ({ cls := c, slots := Array.replicate N .null, vm := .none } : Cell) = _
    rw [arrV_new]
    exact arrV_ext (fun j _ => (if_neg (by omega)).symm)
  | i + 1, hi => by
    show (Jvm.Free.Multi.outerC c N h0 i).setSlot i (.ref (h0 + 1 + i)) = _
    rw [outer_is c N h0 i (by omega), arrV_store]
    refine arrV_ext (fun j _ => ?_)
    unfold updV
    by_cases e : j = i
    · rw [if_pos e, if_pos (by omega), e]
    · rw [if_neg e]
      show (if j < i then Value.ref (h0 + 1 + j) else Value.null) = _
      by_cases q : j < i
      · rw [if_pos q, if_pos (by omega)]
      · rw [if_neg q, if_neg (by omega)]
abbrev gridW (cI cII : ClassId) (q : Nat) (r : Nat → Nat) : va_W := (q, .inl (cII, 12, .inr (.inr (.inr (.inr (fun i => some (r i))))))) :: (List.range 12).map (fun i => (r i, .inl (cI, 12, .inl (fun _ => 0))))
theorem x_grid (S : xOK E l R D cl tys cc own nL Ts nws) {cI cII : ClassId} {index : Nat} {a X : va_W} (hO : (Cond.arrayOver (.array .int)).before #[] E.s = true) (t0 t1 : Nat) (ht0 : tys[t0]? = some (cI, .int)) (ht1 : tys[t1]? = some (cII, .array .int)) (hlk : Cond.classLink own index "[[I" ∈ Ts) (harr : Cond.arrayClass .int ∈ Ts) (hc : cells + 13 ≤ R.cells) (hs : slots + 156 ≤ R.slots) (hd : decode cc pc = .ok (.multianewarray index 2, 4)) (k : ∀ (q : Nat) (r : Nat → Nat), xW E D cl nL (cells + 13) (slots + 156) (a ++ (gridW cI cII q r ++ X)) lv (pc + 4) (.ref q :: st)) : xW E D cl nL cells slots (a ++ X) lv pc (.int 12 :: .int 12 :: st) := by
  intro H locs ls hP hD hS hl
  obtain ⟨F, hl0, hR0, hK, hA, hN0⟩ := id S
  subst hl0; subst hR0
  intro T hT Xs
  obtain ⟨vm₁, cA, comp, -, fA, fC, -, -, X', step⟩ := Xs.multianewarray2F F.1 F.2.2.2.1 (S.w _ hlk) hO (S.w _ harr) (g := F0 E.m pc ls (.int 12 :: .int 12 :: st)) rfl (by rw [F.2.1]; exact hd) rfl (by decide) (by decide) (by decide) (by decide) (by decide) (by decide) (by decide) hc hs
  have e1 : E.s.vm.findClass ("[" ++ FieldType.int.toString) = some cI := (hK.2 t0 _ ht0).2
  have e2 : E.s.vm.findClass ("[" ++ (FieldType.array .int).toString) = some cII := (hK.2 t1 _ ht1).2
  have fC' : E.s.vm.findClass ("[" ++ FieldType.int.toString) = some comp := fC
  cases fC'.symm.trans e1
  cases fA.symm.trans e2
  have hcl : (12 : Int32).toNatClampNeg = 12 := by decide
  rw [hcl] at X' step
  generalize hF : Jvm.Free.Multi.fill (T.setVm vm₁) cII cI 12 12 (defaultValue .int) 12 = G at X' step
  have hTh : (T.setVm vm₁).heap = H := hT
  obtain ⟨f1, f2, -, -⟩ := Jvm.Free.Multi.fill_facts (T.setVm vm₁) cII cI 12 12 (defaultValue .int) 12
  rw [hF, hTh] at f1 f2
  have hold : ∀ x : Nat, x < H.size → G.heap[x]? = H[x]? := fun x hx => by
    have := Jvm.Free.Multi.fill_old (T.setVm vm₁) cII cI 12 12 (defaultValue .int) (a := x) (by rw [hTh]; exact hx) 12
    rw [hF, hTh] at this
    exact this
  have hrow : ∀ j : Nat, j < 12 → G.heap[H.size + 1 + j]? = some (vp_cell cI (12, .inl (fun _ => 0))) := fun j hj => by
    have := Jvm.Free.Multi.fill_inner (T.setVm vm₁) cII cI 12 12 (defaultValue .int) 12 j hj
    rw [hF, hTh] at this
    rw [this]
    exact congrArg some (arrV_new cI 12 _)
  rw [outer_is cII 12 H.size 12 (Nat.le_refl _)] at f2
  have f3 : G.heap[H.size]? = some (vp_cell cII (12, .inr (.inr (.inr (.inr (fun i => some (H.size + 1 + i))))))) := by
    rw [f2, vp_cell_q]
    exact congrArg some (arrV_ext (fun j hj => if_pos hj))
  have hlt : ∀ (k9 : Nat) (q : Nat × va_E), (a ++ X)[k9]? = some q → q.1 < H.size := fun k9 q hq => (hP k9 q hq).lt
  have hrr : ∀ (k9 : Nat) (q : Nat × va_E), (gridW cI cII H.size (fun i => H.size + 1 + i))[k9]? = some q → q.1 = H.size + k9 ∧ va_at D cl q G.heap := fun k9 q hq => by
    cases k9 with
    | zero => cases hq; exact ⟨rfl, f3⟩
    | succ k9 =>
      rw [List.getElem?_cons_succ, List.getElem?_map] at hq
      by_cases h9 : k9 < 12
      · rw [List.getElem?_range h9] at hq
        cases hq
        exact ⟨by show H.size + 1 + k9 = _; omega, hrow k9 h9⟩
      · rw [List.getElem?_eq_none (by rw [List.length_range]; omega)] at hq
        cases hq
  have hP1 : va_P D cl ((a ++ X) ++ gridW cI cII H.size (fun i => H.size + 1 + i)) G.heap := (hP.kept (fun k9 q hq => hold q.1 (hlt k9 q hq))).app (fun k9 q hq => (hrr k9 q hq).2)
  have hD1 : va_D E.A ((a ++ X) ++ gridW cI cII H.size (fun i => H.size + 1 + i)) := x_grow hD hlt (fun k9 q hq => (hrr k9 q hq).1) (fun q hq => hA q (Nat.le_trans hS.1 hq))
  obtain ⟨t, a1, b1⟩ := k H.size (fun i => H.size + 1 + i) G.heap locs ls (x_mid (q := (0, .inr (0, []))) (A := fun _ => True) hP1) (x_midD hD1) ⟨by rw [f1]; have := hS.1; omega, fun x h1 h2 => (hold x (Nat.lt_of_lt_of_le h1 hS.1)).trans (hS.2.1 x h1 h2), hS.2.2⟩ hl G rfl X'
  refine ⟨t, step t ?_, b1⟩
  have e : T.heap.size = H.size := by rw [hT]
  rw [e]
  exact a1
end XNEW
