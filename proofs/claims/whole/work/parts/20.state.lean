/-! calls of methods that make nothing, in short form -/
abbrev rD (d : Nat) : Room := { frames := d, cells := 0, slots := 0, locals := 40 * d }
section XC
variable {E : xE} {l : Launch} {R : Room} {D : va_G} {cl : List vw_C} {tys : List (ClassId × FieldType)} {cc : ByteArray} {own : String} {nL : Nat} {Ts : List Cond} {nws : xN} {cells slots : Nat} {ws : va_W} {lv : List (Nat × Value)} {pc : Nat} {st : List Value}
variable {ws' : va_W} {y : MethodName} {wsC wsC' : List Cond} {bytes : ByteArray} {maxL index b n d : Nat} {ret : Option FieldType} {As rest : List Value} {C host : String} {T : u_T} {N ci : Nat} {fs : List Value}
theorem x_cVi (S0 : xOK E l R D cl tys cc own nL Ts nws) {r : Int32} (hM : xMet l y wsC (rD d) D cl tys nws (.ref b :: As) ws ws' (some (.int r))) (hG : GoodIn Ts (wsV own index C y wsC)) (hw : wsC = Cond.code y bytes maxL ret :: wsC') (hdd : y.cls = C ∧ y.cls ≠ "java/lang/invoke/MethodHandle" ∧ y.cls ≠ "java/lang/invoke/VarHandle" ∧ (parseMethodDescriptor y.desc).map (fun d => d.parameters.length) = some n) (q0 : Nat) (he : ws[q0]? = some (b, .inr (ci, fs))) (hc : cl[ci]? = some (C, T, N)) (hn : As.length = n) (hst : st = As.reverse ++ .ref b :: rest) (hWt : (rest.map fun v => v.category).sum ≤ 8) (hd : decode cc pc = .ok (.invokevirtual index, 3)) (hR : d + 1 ≤ R.frames ∧ 8 + (maxL + 11) + 40 * d ≤ R.locals) (hC : cells ≤ R.cells ∧ slots ≤ R.slots) (kk : xW E D cl nL cells slots ws' lv (pc + 3) (.int r :: rest)) : xW E D cl nL cells slots ws lv pc st := x_callVS S0 hM hG hw hdd q0 he hc hn hst hWt hd hR hC (fun _ _ => kk)
theorem x_cSi (S0 : xOK E l R D cl tys cc own nL Ts nws) {r : Int32} (hM : xMet l y wsC (rD d) D cl tys nws As ws ws' (some (.int r))) (hG : GoodIn Ts (wsS own index y wsC)) (hw : wsC = Cond.code y bytes maxL ret :: wsC') (hdd : y.cls = own ∧ y.cls ≠ "java/lang/invoke/MethodHandle" ∧ y.cls ≠ "java/lang/invoke/VarHandle" ∧ (parseMethodDescriptor y.desc).map (fun d => d.parameters.length) = some n) (hn : As.length = n) (hst : st = As.reverse ++ rest) (hWt : (rest.map fun v => v.category).sum ≤ 8) (hd : decode cc pc = .ok (.invokestatic index, 3)) (hR : d + 1 ≤ R.frames ∧ 8 + (maxL + 11) + 40 * d ≤ R.locals) (hC : cells ≤ R.cells ∧ slots ≤ R.slots) (kk : xW E D cl nL cells slots ws' lv (pc + 3) (.int r :: rest)) : xW E D cl nL cells slots ws lv pc st := x_callSS (b := 0) S0 hM hG hw hdd hn hst hWt hd hR hC (fun _ _ => kk)
theorem x_cNi (S0 : xOK E l R D cl tys cc own nL Ts nws) {r : Int32} (hM : xMet l y wsC (rD d) D cl tys nws As ws ws' (some (.int r))) (hG : GoodIn Ts wsC) (hw : wsC = Cond.code y bytes maxL ret :: wsC') (hnw : (own, index, y, host) ∈ nws) (hini : Cond.initialized y.cls ∈ Ts) (hsta : Cond.static y ∈ Ts) (hdd : y.cls ≠ "java/lang/invoke/MethodHandle" ∧ y.cls ≠ "java/lang/invoke/VarHandle" ∧ (parseMethodDescriptor y.desc).map (fun d => d.parameters.length) = some n) (hn : As.length = n) (hst : st = As.reverse ++ rest) (hWt : (rest.map fun v => v.category).sum ≤ 8) (hd : decode cc pc = .ok (.invokestatic index, 3)) (hR : d + 1 ≤ R.frames ∧ 8 + (maxL + 11) + 40 * d ≤ R.locals) (hC : cells ≤ R.cells ∧ slots ≤ R.slots) (kk : xW E D cl nL cells slots ws' lv (pc + 3) (.int r :: rest)) : xW E D cl nL cells slots ws lv pc st := x_callSNS (b := 0) S0 hM hG hw hnw hini hsta hdd hn hst hWt hd hR hC (fun _ _ => kk)
theorem x_cVv (S0 : xOK E l R D cl tys cc own nL Ts nws) (hM : xMet l y wsC (rD d) D cl tys nws (.ref b :: As) ws ws' none) (hG : GoodIn Ts (wsV own index C y wsC)) (hw : wsC = Cond.code y bytes maxL ret :: wsC') (hdd : y.cls = C ∧ y.cls ≠ "java/lang/invoke/MethodHandle" ∧ y.cls ≠ "java/lang/invoke/VarHandle" ∧ (parseMethodDescriptor y.desc).map (fun d => d.parameters.length) = some n) (q0 : Nat) (he : ws[q0]? = some (b, .inr (ci, fs))) (hc : cl[ci]? = some (C, T, N)) (hn : As.length = n) (hst : st = As.reverse ++ .ref b :: rest) (hWt : (rest.map fun v => v.category).sum ≤ 8) (hd : decode cc pc = .ok (.invokevirtual index, 3)) (hR : d + 1 ≤ R.frames ∧ 8 + (maxL + 11) + 40 * d ≤ R.locals) (hC : cells ≤ R.cells ∧ slots ≤ R.slots) (kk : xW E D cl nL cells slots ws' lv (pc + 3) rest) : xW E D cl nL cells slots ws lv pc st := x_callVS S0 hM hG hw hdd q0 he hc hn hst hWt hd hR hC (fun _ _ => kk)
theorem x_cSv (S0 : xOK E l R D cl tys cc own nL Ts nws) (hM : xMet l y wsC (rD d) D cl tys nws As ws ws' none) (hG : GoodIn Ts (wsS own index y wsC)) (hw : wsC = Cond.code y bytes maxL ret :: wsC') (hdd : y.cls = own ∧ y.cls ≠ "java/lang/invoke/MethodHandle" ∧ y.cls ≠ "java/lang/invoke/VarHandle" ∧ (parseMethodDescriptor y.desc).map (fun d => d.parameters.length) = some n) (hn : As.length = n) (hst : st = As.reverse ++ rest) (hWt : (rest.map fun v => v.category).sum ≤ 8) (hd : decode cc pc = .ok (.invokestatic index, 3)) (hR : d + 1 ≤ R.frames ∧ 8 + (maxL + 11) + 40 * d ≤ R.locals) (hC : cells ≤ R.cells ∧ slots ≤ R.slots) (kk : xW E D cl nL cells slots ws' lv (pc + 3) rest) : xW E D cl nL cells slots ws lv pc st := x_callSS (b := 0) S0 hM hG hw hdd hn hst hWt hd hR hC (fun _ _ => kk)
theorem x_cNv (S0 : xOK E l R D cl tys cc own nL Ts nws) (hM : xMet l y wsC (rD d) D cl tys nws As ws ws' none) (hG : GoodIn Ts wsC) (hw : wsC = Cond.code y bytes maxL ret :: wsC') (hnw : (own, index, y, host) ∈ nws) (hini : Cond.initialized y.cls ∈ Ts) (hsta : Cond.static y ∈ Ts) (hdd : y.cls ≠ "java/lang/invoke/MethodHandle" ∧ y.cls ≠ "java/lang/invoke/VarHandle" ∧ (parseMethodDescriptor y.desc).map (fun d => d.parameters.length) = some n) (hn : As.length = n) (hst : st = As.reverse ++ rest) (hWt : (rest.map fun v => v.category).sum ≤ 8) (hd : decode cc pc = .ok (.invokestatic index, 3)) (hR : d + 1 ≤ R.frames ∧ 8 + (maxL + 11) + 40 * d ≤ R.locals) (hC : cells ≤ R.cells ∧ slots ≤ R.slots) (kk : xW E D cl nL cells slots ws' lv (pc + 3) rest) : xW E D cl nL cells slots ws lv pc st := x_callSNS (b := 0) S0 hM hG hw hnw hini hsta hdd hn hst hWt hd hR hC (fun _ _ => kk)
theorem x_cVa (S0 : xOK E l R D cl tys cc own nL Ts nws) {r : Nat} (hM : xMet l y wsC (rD d) D cl tys nws (.ref b :: As) ws ws' (some (.ref r))) (hG : GoodIn Ts (wsV own index C y wsC)) (hw : wsC = Cond.code y bytes maxL ret :: wsC') (hdd : y.cls = C ∧ y.cls ≠ "java/lang/invoke/MethodHandle" ∧ y.cls ≠ "java/lang/invoke/VarHandle" ∧ (parseMethodDescriptor y.desc).map (fun d => d.parameters.length) = some n) (q0 : Nat) (he : ws[q0]? = some (b, .inr (ci, fs))) (hc : cl[ci]? = some (C, T, N)) (hn : As.length = n) (hst : st = As.reverse ++ .ref b :: rest) (hWt : (rest.map fun v => v.category).sum ≤ 8) (hd : decode cc pc = .ok (.invokevirtual index, 3)) (hR : d + 1 ≤ R.frames ∧ 8 + (maxL + 11) + 40 * d ≤ R.locals) (hC : cells ≤ R.cells ∧ slots ≤ R.slots) (kk : xW E D cl nL cells slots ws' lv (pc + 3) (.ref r :: rest)) : xW E D cl nL cells slots ws lv pc st := x_callVS S0 hM hG hw hdd q0 he hc hn hst hWt hd hR hC (fun _ _ => kk)
theorem x_cSa (S0 : xOK E l R D cl tys cc own nL Ts nws) {r : Nat} (hM : xMet l y wsC (rD d) D cl tys nws As ws ws' (some (.ref r))) (hG : GoodIn Ts (wsS own index y wsC)) (hw : wsC = Cond.code y bytes maxL ret :: wsC') (hdd : y.cls = own ∧ y.cls ≠ "java/lang/invoke/MethodHandle" ∧ y.cls ≠ "java/lang/invoke/VarHandle" ∧ (parseMethodDescriptor y.desc).map (fun d => d.parameters.length) = some n) (hn : As.length = n) (hst : st = As.reverse ++ rest) (hWt : (rest.map fun v => v.category).sum ≤ 8) (hd : decode cc pc = .ok (.invokestatic index, 3)) (hR : d + 1 ≤ R.frames ∧ 8 + (maxL + 11) + 40 * d ≤ R.locals) (hC : cells ≤ R.cells ∧ slots ≤ R.slots) (kk : xW E D cl nL cells slots ws' lv (pc + 3) (.ref r :: rest)) : xW E D cl nL cells slots ws lv pc st := x_callSS (b := 0) S0 hM hG hw hdd hn hst hWt hd hR hC (fun _ _ => kk)
theorem x_cNa (S0 : xOK E l R D cl tys cc own nL Ts nws) {r : Nat} (hM : xMet l y wsC (rD d) D cl tys nws As ws ws' (some (.ref r))) (hG : GoodIn Ts wsC) (hw : wsC = Cond.code y bytes maxL ret :: wsC') (hnw : (own, index, y, host) ∈ nws) (hini : Cond.initialized y.cls ∈ Ts) (hsta : Cond.static y ∈ Ts) (hdd : y.cls ≠ "java/lang/invoke/MethodHandle" ∧ y.cls ≠ "java/lang/invoke/VarHandle" ∧ (parseMethodDescriptor y.desc).map (fun d => d.parameters.length) = some n) (hn : As.length = n) (hst : st = As.reverse ++ rest) (hWt : (rest.map fun v => v.category).sum ≤ 8) (hd : decode cc pc = .ok (.invokestatic index, 3)) (hR : d + 1 ≤ R.frames ∧ 8 + (maxL + 11) + 40 * d ≤ R.locals) (hC : cells ≤ R.cells ∧ slots ≤ R.slots) (kk : xW E D cl nL cells slots ws' lv (pc + 3) (.ref r :: rest)) : xW E D cl nL cells slots ws lv pc st := x_callSNS (b := 0) S0 hM hG hw hnw hini hsta hdd hn hst hWt hd hR hC (fun _ _ => kk)
theorem x_cJi (S0 : xOK E l R D cl tys cc own nL Ts nws) {r : Int32} (hM : xMet l y wsC (rD d) D cl tys nws As ws ws' (some (.int r))) (hG : GoodIn Ts wsC) (hw : wsC = Cond.code y bytes maxL ret :: wsC') (hlk : Cond.methodLink own index y ∈ Ts) (hini : Cond.initialized y.cls ∈ Ts) (hsta : Cond.static y ∈ Ts) (hdd : y.cls ≠ "java/lang/invoke/MethodHandle" ∧ y.cls ≠ "java/lang/invoke/VarHandle" ∧ (parseMethodDescriptor y.desc).map (fun d => d.parameters.length) = some n) (hn : As.length = n) (hst : st = As.reverse ++ rest) (hWt : (rest.map fun v => v.category).sum ≤ 8) (hd : decode cc pc = .ok (.invokestatic index, 3)) (hR : d + 1 ≤ R.frames ∧ 8 + (maxL + 11) + 40 * d ≤ R.locals) (hC : cells ≤ R.cells ∧ slots ≤ R.slots) (kk : xW E D cl nL cells slots ws' lv (pc + 3) (.int r :: rest)) : xW E D cl nL cells slots ws lv pc st := by
  intro H locs ls hP hD hS hl
  obtain ⟨F, hl0, hR0, hK, hA, hN⟩ := id S0
  subst hl0; subst hR0
  exact x_goS S0 hP hD hS hl (va_runS (As := As) (rest := rest) F (hM H.size) ⟨callB_of n F.2.2.2.2 hG hw rfl rfl (S0.w _ hini) (S0.w _ hlk) hdd hR, S0.w _ hsta⟩ ⟨x_blind, x_pre S0 hP hD⟩ rfl hn hl.1 hst (lv_room hWt) hd hC) (fun _ _ => kk)
theorem x_ldcw (S0 : xOK E l R D cl tys cc own nL Ts nws) {index : Nat} {v : Int32} (hc : Jvm.Cond.constant own index v ∈ Ts) (hd : decode cc pc = .ok (.ldc_w index, 3)) (k : xW E D cl nL cells slots ws lv (pc + 3) (.int v :: st)) : xW E D cl nL cells slots ws lv pc st := fun H locs ls hP hD hS hl => lv_ldcw S0.1.1 S0.1.2.1 S0.1.2.2.2.1 (S0.w _ hc) hd (k H locs ls hP hD hS hl)
theorem x_cViS (S0 : xOK E l R D cl tys cc own nL Ts nws) {Sg : Type} {post : Sg → Prop} {wsu : Sg → va_W} {r : Sg → Int32} (hM : xMetS l y wsC (rD d) D cl tys nws (.ref b :: As) ws post wsu (fun u => some (.int (r u)))) (hG : GoodIn Ts (wsV own index C y wsC)) (hw : wsC = Cond.code y bytes maxL ret :: wsC') (hdd : y.cls = C ∧ y.cls ≠ "java/lang/invoke/MethodHandle" ∧ y.cls ≠ "java/lang/invoke/VarHandle" ∧ (parseMethodDescriptor y.desc).map (fun d => d.parameters.length) = some n) (q0 : Nat) (he : ws[q0]? = some (b, .inr (ci, fs))) (hc : cl[ci]? = some (C, T, N)) (hn : As.length = n) (hst : st = As.reverse ++ .ref b :: rest) (hWt : (rest.map fun v => v.category).sum ≤ 8) (hd : decode cc pc = .ok (.invokevirtual index, 3)) (hR : d + 1 ≤ R.frames ∧ 8 + (maxL + 11) + 40 * d ≤ R.locals) (hC : cells ≤ R.cells ∧ slots ≤ R.slots) (kk : ∀ u : Sg, post u → xW E D cl nL cells slots (wsu u) lv (pc + 3) (.int (r u) :: rest)) : xW E D cl nL cells slots ws lv pc st := x_callVS S0 hM hG hw hdd q0 he hc hn hst hWt hd hR hC (fun u hu => kk u hu)
theorem x_cSiS (S0 : xOK E l R D cl tys cc own nL Ts nws) {Sg : Type} {post : Sg → Prop} {wsu : Sg → va_W} {r : Sg → Int32} (hM : xMetS l y wsC (rD d) D cl tys nws As ws post wsu (fun u => some (.int (r u)))) (hG : GoodIn Ts (wsS own index y wsC)) (hw : wsC = Cond.code y bytes maxL ret :: wsC') (hdd : y.cls = own ∧ y.cls ≠ "java/lang/invoke/MethodHandle" ∧ y.cls ≠ "java/lang/invoke/VarHandle" ∧ (parseMethodDescriptor y.desc).map (fun d => d.parameters.length) = some n) (hn : As.length = n) (hst : st = As.reverse ++ rest) (hWt : (rest.map fun v => v.category).sum ≤ 8) (hd : decode cc pc = .ok (.invokestatic index, 3)) (hR : d + 1 ≤ R.frames ∧ 8 + (maxL + 11) + 40 * d ≤ R.locals) (hC : cells ≤ R.cells ∧ slots ≤ R.slots) (kk : ∀ u : Sg, post u → xW E D cl nL cells slots (wsu u) lv (pc + 3) (.int (r u) :: rest)) : xW E D cl nL cells slots ws lv pc st := x_callSS (b := 0) S0 hM hG hw hdd hn hst hWt hd hR hC (fun u hu => kk u hu)
theorem x_cVvS (S0 : xOK E l R D cl tys cc own nL Ts nws) {Sg : Type} {post : Sg → Prop} {wsu : Sg → va_W} (hM : xMetS l y wsC (rD d) D cl tys nws (.ref b :: As) ws post wsu (fun _ => none)) (hG : GoodIn Ts (wsV own index C y wsC)) (hw : wsC = Cond.code y bytes maxL ret :: wsC') (hdd : y.cls = C ∧ y.cls ≠ "java/lang/invoke/MethodHandle" ∧ y.cls ≠ "java/lang/invoke/VarHandle" ∧ (parseMethodDescriptor y.desc).map (fun d => d.parameters.length) = some n) (q0 : Nat) (he : ws[q0]? = some (b, .inr (ci, fs))) (hc : cl[ci]? = some (C, T, N)) (hn : As.length = n) (hst : st = As.reverse ++ .ref b :: rest) (hWt : (rest.map fun v => v.category).sum ≤ 8) (hd : decode cc pc = .ok (.invokevirtual index, 3)) (hR : d + 1 ≤ R.frames ∧ 8 + (maxL + 11) + 40 * d ≤ R.locals) (hC : cells ≤ R.cells ∧ slots ≤ R.slots) (kk : ∀ u : Sg, post u → xW E D cl nL cells slots (wsu u) lv (pc + 3) rest) : xW E D cl nL cells slots ws lv pc st := x_callVS S0 hM hG hw hdd q0 he hc hn hst hWt hd hR hC (fun u hu => kk u hu)
theorem x_cSvS (S0 : xOK E l R D cl tys cc own nL Ts nws) {Sg : Type} {post : Sg → Prop} {wsu : Sg → va_W} (hM : xMetS l y wsC (rD d) D cl tys nws As ws post wsu (fun _ => none)) (hG : GoodIn Ts (wsS own index y wsC)) (hw : wsC = Cond.code y bytes maxL ret :: wsC') (hdd : y.cls = own ∧ y.cls ≠ "java/lang/invoke/MethodHandle" ∧ y.cls ≠ "java/lang/invoke/VarHandle" ∧ (parseMethodDescriptor y.desc).map (fun d => d.parameters.length) = some n) (hn : As.length = n) (hst : st = As.reverse ++ rest) (hWt : (rest.map fun v => v.category).sum ≤ 8) (hd : decode cc pc = .ok (.invokestatic index, 3)) (hR : d + 1 ≤ R.frames ∧ 8 + (maxL + 11) + 40 * d ≤ R.locals) (hC : cells ≤ R.cells ∧ slots ≤ R.slots) (kk : ∀ u : Sg, post u → xW E D cl nL cells slots (wsu u) lv (pc + 3) rest) : xW E D cl nL cells slots ws lv pc st := x_callSS (b := 0) S0 hM hG hw hdd hn hst hWt hd hR hC (fun u hu => kk u hu)
theorem x_cVaS (S0 : xOK E l R D cl tys cc own nL Ts nws) {Sg : Type} {post : Sg → Prop} {wsu : Sg → va_W} {r : Sg → Nat} (hM : xMetS l y wsC (rD d) D cl tys nws (.ref b :: As) ws post wsu (fun u => some (.ref (r u)))) (hG : GoodIn Ts (wsV own index C y wsC)) (hw : wsC = Cond.code y bytes maxL ret :: wsC') (hdd : y.cls = C ∧ y.cls ≠ "java/lang/invoke/MethodHandle" ∧ y.cls ≠ "java/lang/invoke/VarHandle" ∧ (parseMethodDescriptor y.desc).map (fun d => d.parameters.length) = some n) (q0 : Nat) (he : ws[q0]? = some (b, .inr (ci, fs))) (hc : cl[ci]? = some (C, T, N)) (hn : As.length = n) (hst : st = As.reverse ++ .ref b :: rest) (hWt : (rest.map fun v => v.category).sum ≤ 8) (hd : decode cc pc = .ok (.invokevirtual index, 3)) (hR : d + 1 ≤ R.frames ∧ 8 + (maxL + 11) + 40 * d ≤ R.locals) (hC : cells ≤ R.cells ∧ slots ≤ R.slots) (kk : ∀ u : Sg, post u → xW E D cl nL cells slots (wsu u) lv (pc + 3) (.ref (r u) :: rest)) : xW E D cl nL cells slots ws lv pc st := x_callVS S0 hM hG hw hdd q0 he hc hn hst hWt hd hR hC (fun u hu => kk u hu)
theorem x_cSaS (S0 : xOK E l R D cl tys cc own nL Ts nws) {Sg : Type} {post : Sg → Prop} {wsu : Sg → va_W} {r : Sg → Nat} (hM : xMetS l y wsC (rD d) D cl tys nws As ws post wsu (fun u => some (.ref (r u)))) (hG : GoodIn Ts (wsS own index y wsC)) (hw : wsC = Cond.code y bytes maxL ret :: wsC') (hdd : y.cls = own ∧ y.cls ≠ "java/lang/invoke/MethodHandle" ∧ y.cls ≠ "java/lang/invoke/VarHandle" ∧ (parseMethodDescriptor y.desc).map (fun d => d.parameters.length) = some n) (hn : As.length = n) (hst : st = As.reverse ++ rest) (hWt : (rest.map fun v => v.category).sum ≤ 8) (hd : decode cc pc = .ok (.invokestatic index, 3)) (hR : d + 1 ≤ R.frames ∧ 8 + (maxL + 11) + 40 * d ≤ R.locals) (hC : cells ≤ R.cells ∧ slots ≤ R.slots) (kk : ∀ u : Sg, post u → xW E D cl nL cells slots (wsu u) lv (pc + 3) (.ref (r u) :: rest)) : xW E D cl nL cells slots ws lv pc st := x_callSS (b := 0) S0 hM hG hw hdd hn hst hWt hd hR hC (fun u hu => kk u hu)
theorem x_iincN (S0 : xOK E l R D cl tys cc own nL Ts nws) {i j : Nat} {lv' : List (Nat × Value)} (hd : decode cc pc = .ok (.iinc i 1, 3)) (q : Nat) (hq : lv[q]? = some (i, .int (nI j))) (hn : i < nL) (hl' : (i, Value.int (nI (j + 1))) :: lv.filter (fun q => !(q.1 == i) && !(q.1 + 1 == i && q.2.category == 2)) = lv') (k : xW E D cl nL cells slots ws lv' (pc + 3) st) : xW E D cl nL cells slots ws lv pc st := x_iinc S0 hd q hq (nI_1 j) hn hl' k
theorem x_if_eqB (S0 : xOK E l R D cl tys cc own nL Ts nws) {c : Prop} [Decidable c] {off : Int} {tgt : Nat} (hd : decode cc pc = .ok (.ifCond .eq off, 3)) (ht : (pc : Int) + off = (tgt : Int)) (kt : ¬ c → xW E D cl nL cells slots ws lv tgt st) (kf : c → xW E D cl nL cells slots ws lv (pc + 3) st) : xW E D cl nL cells slots ws lv pc (.int (if c then 1 else 0) :: st) := by
  by_cases h : c
  · rw [if_pos h]
    exact x_if_eq S0 hd ht (fun q => absurd q (by decide)) (fun q => kf h)
  · rw [if_neg h]
    exact x_if_eq S0 hd ht (fun q => kt h) (fun q => absurd rfl q)
theorem x_if_neB (S0 : xOK E l R D cl tys cc own nL Ts nws) {c : Prop} [Decidable c] {off : Int} {tgt : Nat} (hd : decode cc pc = .ok (.ifCond .ne off, 3)) (ht : (pc : Int) + off = (tgt : Int)) (kt : c → xW E D cl nL cells slots ws lv tgt st) (kf : ¬ c → xW E D cl nL cells slots ws lv (pc + 3) st) : xW E D cl nL cells slots ws lv pc (.int (if c then 1 else 0) :: st) := by
  by_cases h : c
  · rw [if_pos h]
    exact x_if_ne S0 hd ht (fun q => kt h) (fun q => absurd q (by decide))
  · rw [if_neg h]
    exact x_if_ne S0 hd ht (fun q => absurd rfl q) (fun q => kf h)
theorem xfz {c : Prop} [Decidable c] : xFits (some .boolean) (some (.int (if c then 1 else 0))) := ⟨_, rfl, by split <;> rfl⟩
theorem xfi {r : Int32} : xFits (some .int) (some (.int r)) := ⟨_, rfl, rfl⟩
theorem xfv : xFits none none := rfl
end XC
theorem inC0 {c : Cond} : ∀ w ∈ u_ws RX0 TX0 3, w ∈ c :: gT := fun w h => gC w (inX0 w h)
theorem inC1 {c : Cond} : ∀ w ∈ u_ws RX1 TX1 2, w ∈ c :: gT := fun w h => gC w (inX1 w h)
theorem inC2 {c : Cond} : ∀ w ∈ u_ws RX2 TX2 9, w ∈ c :: gT := fun w h => gC w (inX2 w h)
theorem inC3 {c : Cond} : ∀ w ∈ u_ws RX3 TX3 5, w ∈ c :: gT := fun w h => gC w (inX3 w h)
theorem inC4 {c : Cond} : ∀ w ∈ u_ws RX4 TX4 6, w ∈ c :: gT := fun w h => gC w (inX4 w h)
theorem inC5 {c : Cond} : ∀ w ∈ u_ws RX5 TX5 5, w ∈ c :: gT := fun w h => gC w (inX5 w h)
theorem inC6 {c : Cond} : ∀ w ∈ u_ws RX6 TX6 20, w ∈ c :: gT := fun w h => gC w (inX6 w h)
/-- the cells of a CutTrees: the Graph and its arrays (0 to 17), the CutTable (18, 19), the PairTree (20 to 22), the Drawing (23, 24), the CutTrees and its array (25, 26), the Partings (27 to 38) -/
def cw (ad : Nat → Nat) (cI cII cP : ClassId) (n am al ch : Nat) (fr to wt nb : Nat → Nat) (M : Nat → Nat → Nat) (tch : Int32) (cu : Nat → Nat) (rch : Int32) (pa br gp : Nat → Nat) (P : Nat → Int32 × Nat × (Nat → Nat) × (Nat → Nat)) : va_W := [(ad 0, .inr (2, [.ref (ad 1), .ref (ad 2), .ref (ad 3), .ref (ad 4), .ref (ad 5), .int (nI n), .int (nI am), .int (nI al), .int (nI ch)])), (ad 1, .inl (cI, 50, .inl (aN fr))), (ad 2, .inl (cI, 50, .inl (aN to))), (ad 3, .inl (cI, 50, .inl (aN wt))), (ad 4, .inl (cII, 12, .inr (.inr (.inr (.inr (fun i => some (ad (6 + i)))))))), (ad 5, .inl (cI, 12, .inl (aN nb))), (ad 6, .inl (cI, 12, .inl (aN (M 0)))), (ad 7, .inl (cI, 12, .inl (aN (M 1)))), (ad 8, .inl (cI, 12, .inl (aN (M 2)))), (ad 9, .inl (cI, 12, .inl (aN (M 3)))), (ad 10, .inl (cI, 12, .inl (aN (M 4)))), (ad 11, .inl (cI, 12, .inl (aN (M 5)))), (ad 12, .inl (cI, 12, .inl (aN (M 6)))), (ad 13, .inl (cI, 12, .inl (aN (M 7)))), (ad 14, .inl (cI, 12, .inl (aN (M 8)))), (ad 15, .inl (cI, 12, .inl (aN (M 9)))), (ad 16, .inl (cI, 12, .inl (aN (M 10)))), (ad 17, .inl (cI, 12, .inl (aN (M 11)))), (ad 18, .inr (0, [.ref (ad 0), .ref (ad 19), .int tch])), (ad 19, .inl (cI, 2048, .inl (aN cu))), (ad 20, .inr (3, [.ref (ad 0), .ref (ad 18), .ref (ad 21), .ref (ad 22), .int rch])), (ad 21, .inl (cI, 12, .inl (aN pa))), (ad 22, .inl (cI, 12, .inl (aN br))), (ad 23, .inr (1, [.ref (ad 0), .ref (ad 24)])), (ad 24, .inl (cI, 12, .inl (aN gp))), (ad 25, .inr (5, [.ref (ad 0), .ref (ad 18), .ref (ad 20), .ref (ad 23), .ref (ad 26)])), (ad 26, .inl (cP, 4, .inr (.inr (.inr (.inr (fun i => some (ad (27 + 3 * i)))))))), (ad 27, .inr (4, [.ref (ad 0), .int 1, .ref (ad 28), .ref (ad 29), .int (nI (P 0).2.1), .int (P 0).1])), (ad 28, .inl (cI, 10, .inl (aN (P 0).2.2.1))), (ad 29, .inl (cI, 10, .inl (aN (P 0).2.2.2))), (ad 30, .inr (4, [.ref (ad 0), .int 2, .ref (ad 31), .ref (ad 32), .int (nI (P 1).2.1), .int (P 1).1])), (ad 31, .inl (cI, 10, .inl (aN (P 1).2.2.1))), (ad 32, .inl (cI, 10, .inl (aN (P 1).2.2.2))), (ad 33, .inr (4, [.ref (ad 0), .int 3, .ref (ad 34), .ref (ad 35), .int (nI (P 2).2.1), .int (P 2).1])), (ad 34, .inl (cI, 10, .inl (aN (P 2).2.2.1))), (ad 35, .inl (cI, 10, .inl (aN (P 2).2.2.2))), (ad 36, .inr (4, [.ref (ad 0), .int 4, .ref (ad 37), .ref (ad 38), .int (nI (P 3).2.1), .int (P 3).1])), (ad 37, .inl (cI, 10, .inl (aN (P 3).2.2.1))), (ad 38, .inl (cI, 10, .inl (aN (P 3).2.2.2)))]
abbrev tyC (cI cII cP cZ : ClassId) : List (ClassId × FieldType) := [(cI, .int), (cII, .array .int), (cP, .object "CutTrees$Parting"), (cZ, .boolean)]
abbrev nwC : xN := [(RX5, 9, yX2_init, RX5), (RX0, 54, yX5_nextWithin, RX5), (RX2, 68, yX5_nextWithin, RX5)]
section CWR
variable {ad : Nat → Nat} {cI cII cP : ClassId} {n am al ch : Nat} {fr to wt nb : Nat → Nat} {M : Nat → Nat → Nat} {tch : Int32} {cu : Nat → Nat} {rch : Int32} {pa br gp : Nat → Nat} {P : Nat → Int32 × Nat × (Nat → Nat) × (Nat → Nat)} {X : va_W}
theorem cw_row {v : Nat} (hv : v < 12) : (cw ad cI cII cP n am al ch fr to wt nb M tch cu rch pa br gp P ++ X)[6 + v]? = some (ad (6 + v), .inl (cI, 12, .inl (aN (M v)))) := by
  match v, hv with
  | 0, _ => rfl
  | 1, _ => rfl
  | 2, _ => rfl
  | 3, _ => rfl
  | 4, _ => rfl
  | 5, _ => rfl
  | 6, _ => rfl
  | 7, _ => rfl
  | 8, _ => rfl
  | 9, _ => rfl
  | 10, _ => rfl
  | 11, _ => rfl
  | v + 12, h => exact absurd h (by omega)
theorem cw_rows {v : Nat} (hv : v < 12) (r : Nat → Nat) : (cw ad cI cII cP n am al ch fr to wt nb M tch cu rch pa br gp P ++ X).set (6 + v) (ad (6 + v), .inl (cI, 12, .inl (aN r))) = cw ad cI cII cP n am al ch fr to wt nb (va_up M v r) tch cu rch pa br gp P ++ X := by
  match v, hv with
  | 0, _ => rfl
  | 1, _ => rfl
  | 2, _ => rfl
  | 3, _ => rfl
  | 4, _ => rfl
  | 5, _ => rfl
  | 6, _ => rfl
  | 7, _ => rfl
  | 8, _ => rfl
  | 9, _ => rfl
  | 10, _ => rfl
  | 11, _ => rfl
  | v + 12, h => exact absurd h (by omega)
theorem cw_p0 {j : Nat} (hj : j < 4) : (cw ad cI cII cP n am al ch fr to wt nb M tch cu rch pa br gp P ++ X)[27 + 3 * j]? = some (ad (27 + 3 * j), .inr (4, [.ref (ad 0), .int (nI (j + 1)), .ref (ad (28 + 3 * j)), .ref (ad (29 + 3 * j)), .int (nI (P j).2.1), .int (P j).1])) := by
  match j, hj with
  | 0, _ => rfl
  | 1, _ => rfl
  | 2, _ => rfl
  | 3, _ => rfl
  | j + 4, h => exact absurd h (by omega)
theorem cw_p1 {j : Nat} (hj : j < 4) : (cw ad cI cII cP n am al ch fr to wt nb M tch cu rch pa br gp P ++ X)[28 + 3 * j]? = some (ad (28 + 3 * j), .inl (cI, 10, .inl (aN (P j).2.2.1))) := by
  match j, hj with
  | 0, _ => rfl
  | 1, _ => rfl
  | 2, _ => rfl
  | 3, _ => rfl
  | j + 4, h => exact absurd h (by omega)
theorem cw_p2 {j : Nat} (hj : j < 4) : (cw ad cI cII cP n am al ch fr to wt nb M tch cu rch pa br gp P ++ X)[29 + 3 * j]? = some (ad (29 + 3 * j), .inl (cI, 10, .inl (aN (P j).2.2.2))) := by
  match j, hj with
  | 0, _ => rfl
  | 1, _ => rfl
  | 2, _ => rfl
  | 3, _ => rfl
  | j + 4, h => exact absurd h (by omega)
end CWR
abbrev wX5_init : List Cond := Cond.code yX5_init cX5_init 2 none :: gT
abbrev wX5_node : List Cond := Cond.code yX5_node cX5_node 1 (some .int) :: gT
abbrev wX5_arc : List Cond := Cond.code yX5_arc cX5_arc 4 (some .int) :: gT
abbrev wX5_drop : List Cond := Cond.code yX5_drop cX5_drop 2 (some .int) :: gT
abbrev wX5_clear : List Cond := Cond.code yX5_clear cX5_clear 1 (some .int) :: gT
abbrev wX5_cut : List Cond := Cond.code yX5_cut cX5_cut 2 (some .int) :: gT
abbrev wX5_pair : List Cond := Cond.code yX5_pair cX5_pair 3 (some .int) :: gT
abbrev wX5_side : List Cond := Cond.code yX5_side cX5_side 3 (some .int) :: gT
abbrev wX5_parent : List Cond := Cond.code yX5_parent cX5_parent 2 (some .int) :: gT
abbrev wX5_branch : List Cond := Cond.code yX5_branch cX5_branch 2 (some .int) :: gT
abbrev wX5_way : List Cond := Cond.code yX5_way cX5_way 3 (some .int) :: gT
abbrev wX5_least : List Cond := Cond.code yX5_least cX5_least 1 (some .int) :: gT
abbrev wX5_counted : List Cond := Cond.code yX5_counted cX5_counted 1 (some .int) :: gT
abbrev wX5_every : List Cond := Cond.code yX5_every cX5_every 2 (some .int) :: gT
abbrev wX5_drawn : List Cond := Cond.code yX5_drawn cX5_drawn 2 (some .int) :: gT
abbrev wX5_parts : List Cond := Cond.code yX5_parts cX5_parts 3 (some .int) :: gT
abbrev wX5_partOf : List Cond := Cond.code yX5_partOf cX5_partOf 4 (some .int) :: gT
abbrev wX5_refusalOfParts : List Cond := Cond.code yX5_refusalOfParts cX5_refusalOfParts 2 (some .int) :: gT
abbrev wX5_sparsest : List Cond := Cond.code yX5_sparsest cX5_sparsest 1 (some .int) :: gT
abbrev wX5_share : List Cond := Cond.code yX5_share cX5_share 6 (some .int) :: gT
abbrev wX5_greatestDivisor : List Cond := Cond.code yX5_greatestDivisor cX5_greatestDivisor 3 (some .int) :: gT
abbrev wX5_bars : List Cond := Cond.code yX5_bars cX5_bars 4 (some .int) :: gT
abbrev wX5_barSet : List Cond := Cond.code yX5_barSet cX5_barSet 3 (some .int) :: gT
abbrev wX5_without : List Cond := Cond.code yX5_without cX5_without 2 (some .int) :: gT
abbrev wX5_freshTable : List Cond := Cond.code yX5_freshTable cX5_freshTable 1 (some (.object "CutTrees$CutTable")) :: gT
abbrev wX5_freshTree : List Cond := Cond.code yX5_freshTree cX5_freshTree 1 (some (.object "CutTrees$PairTree")) :: gT
abbrev wX5_freshParting : List Cond := Cond.code yX5_freshParting cX5_freshParting 2 (some (.object "CutTrees$Parting")) :: gT
abbrev wX5_nextWithin : List Cond := Cond.code yX5_nextWithin cX5_nextWithin 2 (some .int) :: gT
abbrev wX6_init : List Cond := Cond.code yX6_init cX6_init 1 none :: gT
abbrev wX6_changed : List Cond := Cond.code yX6_changed cX6_changed 2 none :: gT
abbrev wX6_node : List Cond := Cond.code yX6_node cX6_node 1 (some .int) :: gT
abbrev wX6_areTwo : List Cond := Cond.code yX6_areTwo cX6_areTwo 3 (some .boolean) :: gT
abbrev wX6_arc : List Cond := Cond.code yX6_arc cX6_arc 4 (some .int) :: gT
abbrev wX6_drop : List Cond := Cond.code yX6_drop cX6_drop 2 (some .int) :: gT
abbrev wX6_clear : List Cond := Cond.code yX6_clear cX6_clear 2 (some .int) :: gT
abbrev wX6_all : List Cond := Cond.code yX6_all cX6_all 1 (some .int) :: gT
abbrev wX6_make : List Cond := Cond.code yX6_make cX6_make 6 none :: gT
abbrev wX6_cut : List Cond := Cond.code yX6_cut cX6_cut 2 (some .int) :: gT
abbrev wX6_sideOf : List Cond := Cond.code yX6_sideOf cX6_sideOf 5 (some .int) :: gT
abbrev wX6_tree : List Cond := Cond.code yX6_tree cX6_tree 5 none :: gT
abbrev wX6_pair : List Cond := Cond.code yX6_pair cX6_pair 4 (some .int) :: gT
abbrev wX6_side : List Cond := Cond.code yX6_side cX6_side 3 (some .int) :: gT
abbrev wX6_ofNode : List Cond := Cond.code yX6_ofNode cX6_ofNode 3 (some .int) :: gT
abbrev wX6_parent : List Cond := Cond.code yX6_parent cX6_parent 2 (some .int) :: gT
abbrev wX6_branch : List Cond := Cond.code yX6_branch cX6_branch 2 (some .int) :: gT
abbrev wX6_up : List Cond := Cond.code yX6_up cX6_up 4 (some .int) :: gT
abbrev wX6_way : List Cond := Cond.code yX6_way cX6_way 6 (some .int) :: gT
abbrev wX6_leastCut : List Cond := Cond.code yX6_leastCut cX6_leastCut 3 (some .int) :: gT
abbrev wX6_least : List Cond := Cond.code yX6_least cX6_least 1 (some .int) :: gT
abbrev wX6_leastOne : List Cond := Cond.code yX6_leastOne cX6_leastOne 5 (some .int) :: gT
abbrev wX6_counted : List Cond := Cond.code yX6_counted cX6_counted 1 (some .int) :: gT
abbrev wX6_every : List Cond := Cond.code yX6_every cX6_every 2 (some .int) :: gT
abbrev wX6_drawn : List Cond := Cond.code yX6_drawn cX6_drawn 11 (some .int) :: gT
abbrev wX6_isLoose : List Cond := Cond.code yX6_isLoose cX6_isLoose 2 (some .boolean) :: gT
abbrev wX6_loose : List Cond := Cond.code yX6_loose cX6_loose 3 (some .int) :: gT
abbrev wX6_partFault : List Cond := Cond.code yX6_partFault cX6_partFault 2 (some .int) :: gT
abbrev wX6_findParts : List Cond := Cond.code yX6_findParts cX6_findParts 6 none :: gT
abbrev wX6_isFull : List Cond := Cond.code yX6_isFull cX6_isFull 4 (some .boolean) :: gT
abbrev wX6_parts : List Cond := Cond.code yX6_parts cX6_parts 3 (some .int) :: gT
abbrev wX6_partOf : List Cond := Cond.code yX6_partOf cX6_partOf 4 (some .int) :: gT
abbrev wX6_count : List Cond := Cond.code yX6_count cX6_count 3 (some .int) :: gT
abbrev wX6_below : List Cond := Cond.code yX6_below cX6_below 2 (some .int) :: gT
abbrev wX6_sparsestOf : List Cond := Cond.code yX6_sparsestOf cX6_sparsestOf 3 (some .int) :: gT
abbrev wX6_sparsest : List Cond := Cond.code yX6_sparsest cX6_sparsest 1 (some .int) :: gT
abbrev wX6_share : List Cond := Cond.code yX6_share cX6_share 8 (some .int) :: gT
abbrev wX6_part : List Cond := Cond.code yX6_part cX6_part 6 (some .int) :: gT
abbrev wX6_barsOf : List Cond := Cond.code yX6_barsOf cX6_barsOf 5 (some .int) :: gT
abbrev wX6_barFault : List Cond := Cond.code yX6_barFault cX6_barFault 3 (some .int) :: gT
abbrev wX6_bars : List Cond := Cond.code yX6_bars cX6_bars 4 (some .int) :: gT
abbrev wX6_barSet : List Cond := Cond.code yX6_barSet cX6_barSet 4 (some .int) :: gT
abbrev wX6_without : List Cond := Cond.code yX6_without cX6_without 5 (some .int) :: gT
abbrev wX0_init : List Cond := Cond.code yX0_init cX0_init 2 none :: gT
abbrev wX0_refresh : List Cond := Cond.code yX0_refresh cX0_refresh 2 none :: gT
abbrev wX0_fillSetsUpTo : List Cond := Cond.code yX0_fillSetsUpTo cX0_fillSetsUpTo 7 none :: gT
abbrev wX0_cutAt : List Cond := Cond.code yX0_cutAt cX0_cutAt 3 (some .int) :: gT
abbrev wX0_cutBetween : List Cond := Cond.code yX0_cutBetween cX0_cutBetween 3 (some .int) :: gT
abbrev wX0_sideAgainst : List Cond := Cond.code yX0_sideAgainst cX0_sideAgainst 11 (some .int) :: gT
abbrev wX0_leastCut : List Cond := Cond.code yX0_leastCut cX0_leastCut 3 (some .int) :: gT
abbrev wX0_countLeastOnes : List Cond := Cond.code yX0_countLeastOnes cX0_countLeastOnes 4 (some .int) :: gT
abbrev wX0_leastOne : List Cond := Cond.code yX0_leastOne cX0_leastOne 5 (some .int) :: gT
abbrev wX0_sparsestSide : List Cond := Cond.code yX0_sparsestSide cX0_sparsestSide 7 (some .int) :: gT
abbrev wX1_init : List Cond := Cond.code yX1_init cX1_init 2 none :: gT
abbrev wX1_drawBy : List Cond := Cond.code yX1_drawBy cX1_drawBy 5 (some .int) :: gT
abbrev wX1_isBetweenGroups : List Cond := Cond.code yX1_isBetweenGroups cX1_isBetweenGroups 2 (some .boolean) :: gT
abbrev wX1_weightBetweenGroups : List Cond := Cond.code yX1_weightBetweenGroups cX1_weightBetweenGroups 3 (some .int) :: gT
abbrev wX1_joinByArcAt : List Cond := Cond.code yX1_joinByArcAt cX1_joinByArcAt 4 none :: gT
abbrev wX1_joinGroups : List Cond := Cond.code yX1_joinGroups cX1_joinGroups 3 none :: gT
abbrev wX2_init : List Cond := Cond.code yX2_init cX2_init 1 none :: gT
abbrev wX2_hasNode : List Cond := Cond.code yX2_hasNode cX2_hasNode 2 (some .boolean) :: gT
abbrev wX2_hasPair : List Cond := Cond.code yX2_hasPair cX2_hasPair 3 (some .boolean) :: gT
abbrev wX2_hasArc : List Cond := Cond.code yX2_hasArc cX2_hasArc 2 (some .boolean) :: gT
abbrev wX2_hasSet : List Cond := Cond.code yX2_hasSet cX2_hasSet 2 (some .boolean) :: gT
abbrev wX2_hasSides : List Cond := Cond.code yX2_hasSides cX2_hasSides 1 (some .boolean) :: gT
abbrev wX2_areJoined : List Cond := Cond.code yX2_areJoined cX2_areJoined 3 (some .boolean) :: gT
abbrev wX2_allNodes : List Cond := Cond.code yX2_allNodes cX2_allNodes 1 (some .int) :: gT
abbrev wX2_addNode : List Cond := Cond.code yX2_addNode cX2_addNode 1 (some .int) :: gT
abbrev wX2_addArc : List Cond := Cond.code yX2_addArc cX2_addArc 5 (some .int) :: gT
abbrev wX2_removeArc : List Cond := Cond.code yX2_removeArc cX2_removeArc 2 (some .int) :: gT
abbrev wX2_addBetween : List Cond := Cond.code yX2_addBetween cX2_addBetween 4 none :: gT
abbrev wX2_removeAll : List Cond := Cond.code yX2_removeAll cX2_removeAll 4 (some .int) :: gT
abbrev wX2_cutAround : List Cond := Cond.code yX2_cutAround cX2_cutAround 4 (some .int) :: gT
abbrev wX2_weightAt : List Cond := Cond.code yX2_weightAt cX2_weightAt 4 (some .int) :: gT
abbrev wX2_spread : List Cond := Cond.code yX2_spread cX2_spread 3 (some .int) :: gT
abbrev wX2_reachedFrom : List Cond := Cond.code yX2_reachedFrom cX2_reachedFrom 7 (some .int) :: gT
abbrev wX2_countConnected : List Cond := Cond.code yX2_countConnected cX2_countConnected 5 (some .int) :: gT
abbrev wX2_fewestBars : List Cond := Cond.code yX2_fewestBars cX2_fewestBars 10 (some .int) :: gT
abbrev wX3_init : List Cond := Cond.code yX3_init cX3_init 3 none :: gT
abbrev wX3_refresh : List Cond := Cond.code yX3_refresh cX3_refresh 2 none :: gT
abbrev wX3_hang : List Cond := Cond.code yX3_hang cX3_hang 5 none :: gT
abbrev wX3_leastBranchBetween : List Cond := Cond.code yX3_leastBranchBetween cX3_leastBranchBetween 8 (some .int) :: gT
abbrev wX4_init : List Cond := Cond.code yX4_init cX4_init 3 none :: gT
abbrev wX4_refresh : List Cond := Cond.code yX4_refresh cX4_refresh 1 none :: gT
abbrev wX4_tryFrom : List Cond := Cond.code yX4_tryFrom cX4_tryFrom 8 none :: gT
abbrev wX4_costToLower : List Cond := Cond.code yX4_costToLower cX4_costToLower 4 (some .int) :: gT
abbrev wX4_keepTried : List Cond := Cond.code yX4_keepTried cX4_keepTried 3 none :: gT
abbrev wJI_bitCount : List Cond := Cond.code yJI_bitCount cJI_bitCount 1 (some .int) :: gT
abbrev wJM_max : List Cond := Cond.code yJM_max cJM_max 2 (some .int) :: gT
abbrev wJM_min : List Cond := Cond.code yJM_min cJM_min 2 (some .int) :: gT
