/-! helpers: a method's start and end, calls that change nothing, calls that change their own cells; all by va_ rows of the kit -/
/-- what stays true of the machine: classes, the two array classes, the nest mates' links -/
def KN (D : va_G) (cI cN : ClassId) (U : State) : Prop := va_K D vwCl [(cI, .int), (cN, .object RX1)] U ∧ va_Nw (.methodLinkNest RX1 81 yX5_link RX5) U ∧ va_Nw (.methodLinkNest RX3 64 yX5_hasBit RX5) U ∧ va_Nw (.methodLinkNest RX3 161 yX5_link RX5) U
theorem KN.warm {D : va_G} {cI cN : ClassId} {s U : State} (hW : s.WarmedH U.vm) (h : KN D cI cN s) : KN D cI cN U := ⟨va_K.moved hW.alike h.1, va_Nw.warmM hW h.2.1, va_Nw.warmM hW h.2.2.1, va_Nw.warmM hW h.2.2.2⟩
theorem KN.same {D : va_G} {cI cN : ClassId} {s U : State} (hv : s.vm = U.vm) (h : KN D cI cN s) : KN D cI cN U := ⟨va_K.moved (hv ▸ Vm.Alike.refl s.vm) h.1, h.2.1.same rfl hv, h.2.2.1.same rfl hv, h.2.2.2.same rfl hv⟩
/-- a start that a method only reads, and one that it writes -/
def PreP (D : va_G) (cI cN : ClassId) (ws : va_W) (sz : Nat) (U : State) : Prop := U.heap.size = sz ∧ va_P D vwCl ws U.heap ∧ KN D cI cN U
def PreW (D : va_G) (cI cN : ClassId) (ws : va_W) (sz : Nat) (U : State) : Prop := U.heap.size = sz ∧ va_P D vwCl ws U.heap ∧ KN D cI cN U ∧ va_D (fun _ => True) ws
def nwA (sz : Nat) : Nat → Prop := fun q => sz ≤ q
def PostW (D : va_G) (w1 : va_W) (A : Nat → Prop) (t : State) : Prop := va_P D vwCl w1 t.heap ∧ va_D A w1
abbrev QPi (r0 : Int32) (sz : Nat) : Array Value → State → Outcome → State → Prop := va_Qi (fun r (_ : Unit) => r = r0) (fun _ _ => True) (nwA sz)
abbrev QPr (a0 : Nat) (sz : Nat) : Array Value → State → Outcome → State → Prop := va_Qr (fun (_ : Unit) => True) (fun _ a _ => a = a0) (nwA sz)
abbrev QWi (D : va_G) (r0 : Int32) (w1 wc : va_W) (sz : Nat) : Array Value → State → Outcome → State → Prop := va_Qi (fun r (_ : Unit) => r = r0) (fun _ t => PostW D w1 (va_A wc sz) t) (va_A wc sz)
abbrev QWv (D : va_G) (w1 wc : va_W) (sz : Nat) : Array Value → State → Outcome → State → Prop := va_Qv (fun (_ : Unit) => True) (fun _ t => PostW D w1 (va_A wc sz) t) (va_A wc sz)
/-- contracts -/
abbrev CtP (l : Launch) (D : va_G) (cI cN : ClassId) (y : MethodName) (wy : List Cond) (rm : Room) (av : List Value) (wc : va_W) (sz : Nat) (r0 : Int32) : Prop := Met l y wy rm (va_Pc av (PreP D cI cN wc sz)) (QPi r0 sz) 0 0 (nwA sz)
abbrev CtR (l : Launch) (D : va_G) (cI cN : ClassId) (y : MethodName) (wy : List Cond) (rm : Room) (av : List Value) (wc : va_W) (sz : Nat) (a0 : Nat) : Prop := Met l y wy rm (va_Pc av (PreP D cI cN wc sz)) (QPr a0 sz) 0 0 (nwA sz)
abbrev CtI (l : Launch) (D : va_G) (cI cN : ClassId) (y : MethodName) (wy : List Cond) (rm : Room) (mc ms : Nat) (av : List Value) (wc : va_W) (sz : Nat) (r0 : Int32) (w1 : va_W) : Prop := Met l y wy rm (va_Pc av (PreW D cI cN wc sz)) (QWi D r0 w1 wc sz) mc ms (va_A wc sz)
abbrev CtV (l : Launch) (D : va_G) (cI cN : ClassId) (y : MethodName) (wy : List Cond) (rm : Room) (mc ms : Nat) (av : List Value) (wc : va_W) (sz : Nat) (w1 : va_W) : Prop := Met l y wy rm (va_Pc av (PreW D cI cN wc sz)) (QWv D w1 wc sz) mc ms (va_A wc sz)
section HA
variable {l : Launch} {D : va_G} {cI cN : ClassId} {y : MethodName} {wy wy' : List Cond} {rm : Room} {av : List Value} {wc w1 : va_W} {sz a0 mc ms : Nat} {r0 : Int32} {cc : ByteArray} {maxL : Nat} {ret : Option FieldType}
/-- the start of a method that only reads, with an int answer (also boolean: hn) -/
theorem mP (hy : plainName y.cls = true) (hw : wy = Cond.code y cc maxL ret :: wy') {ty : FieldType} (hret : ret = some ty) (hlen : (lg_sl av).length ≤ maxL)
    (body : ∀ (p : Program) (e : Env) (s : State) (m : MethodId) (args : Array Value) (below : List Frame) (meth : Method) (c : Code) (Q : State → Prop), CallFix p m c cc maxL s args wy y.cls → KN D cI cN s → va_P D vwCl wc s.heap → va_S (nwA s.heap.size) s.heap s.heap [] →
      (∀ (H : Heap) (locs : List Loc) (ls : Array Slot) (pc : Nat), decode cc pc = .ok (.ireturn, 1) → narrow ty (.int r0) = .int r0 → va_S (nwA s.heap.size) s.heap H locs → W p l e (headSpec wy rm).room s m args below meth c H locs 0 0 Q (F0 m pc ls [.int r0])) →
      ∀ ls : Array Slot, lv_has ls maxL (lv_args 0 av) → W p l e (headSpec wy rm).room s m args below meth c s.heap [] 0 0 Q (F0 m 0 ls [])) : CtP l D cI cN y wy rm av wc sz r0 := by
  refine Met.ofW (cc := cc) (maxL := maxL) (ret := ret) hy hw ?_
  intro p e s m args below meth c s₁ B hml hv
  obtain ⟨rfl, hsz, hP, hK⟩ := hv
  have hlocks := B.notSynchronized
  subst hsz
  rw [lg_entry_eq]
  refine body p e s m _ below meth c _ ⟨B.exec, B.bytes, hml, findClass_of_methodNamed B.named, atoms_spec (ws := wy) B.pre⟩ hK hP va_S.rf ?_ _ (lv_entry av hlen)
  intro H locs ls pc hdg hn hS
  exact W.zret B.exec B.bytes (B.returns.trans hret) hn (fun t ht _ => ⟨⟨r0, (), rfl, rfl, trivial⟩, hS.F ht⟩) hS.2.2 hdg
theorem mW (hy : plainName y.cls = true) (hw : wy = Cond.code y cc maxL ret :: wy') {ty : FieldType} (hret : ret = some ty) (hlen : (lg_sl av).length ≤ maxL)
    (body : ∀ (p : Program) (e : Env) (s : State) (m : MethodId) (args : Array Value) (below : List Frame) (meth : Method) (c : Code) (Q : State → Prop) (A : Nat → Prop), CallFix p m c cc maxL s args wy y.cls → KN D cI cN s → va_P D vwCl wc s.heap → va_D A wc → va_S A s.heap s.heap [] → (∀ q : Nat, s.heap.size ≤ q → A q) →
      (∀ (H : Heap) (locs : List Loc) (ls : Array Slot) (pc : Nat), decode cc pc = .ok (.ireturn, 1) → narrow ty (.int r0) = .int r0 → va_P D vwCl w1 H → va_D A w1 → va_S A s.heap H locs → W p l e (headSpec wy rm).room s m args below meth c H locs mc ms Q (F0 m pc ls [.int r0])) →
      ∀ ls : Array Slot, lv_has ls maxL (lv_args 0 av) → W p l e (headSpec wy rm).room s m args below meth c s.heap [] 0 0 Q (F0 m 0 ls [])) : CtI l D cI cN y wy rm mc ms av wc sz r0 w1 := by
  refine Met.ofW (cc := cc) (maxL := maxL) (ret := ret) hy hw ?_
  intro p e s m args below meth c s₁ B hml hv
  obtain ⟨rfl, hsz, hP, hK, hD0⟩ := hv
  have hlocks := B.notSynchronized
  subst hsz
  rw [lg_entry_eq]
  refine body p e s m _ below meth c _ (va_A wc s.heap.size) ⟨B.exec, B.bytes, hml, findClass_of_methodNamed B.named, atoms_spec (ws := wy) B.pre⟩ hK hP hD0.self va_S.rf (fun q h => Or.inr h) ?_ _ (lv_entry av hlen)
  intro H locs ls pc hdg hn hP1 hD1 hS
  exact W.zret B.exec B.bytes (B.returns.trans hret) hn (fun t ht _ => ⟨⟨r0, (), rfl, rfl, by rw [ht]; exact hP1, hD1⟩, hS.F ht⟩) hS.2.2 hdg
theorem mV (hy : plainName y.cls = true) (hw : wy = Cond.code y cc maxL none :: wy') (hlen : (lg_sl av).length ≤ maxL)
    (body : ∀ (p : Program) (e : Env) (s : State) (m : MethodId) (args : Array Value) (below : List Frame) (meth : Method) (c : Code) (Q : State → Prop) (A : Nat → Prop), CallFix p m c cc maxL s args wy y.cls → meth.name = y.name → KN D cI cN s → va_P D vwCl wc s.heap → va_D A wc → va_S A s.heap s.heap [] → (∀ q : Nat, s.heap.size ≤ q → A q) →
      (∀ (H : Heap) (locs : List Loc) (ls : Array Slot) (pc : Nat), decode cc pc = .ok (.return_, 1) → va_P D vwCl w1 H → va_D A w1 → va_S A s.heap H locs → W p l e (headSpec wy rm).room s m args below meth c H locs mc ms Q (F0 m pc ls [])) →
      ∀ ls : Array Slot, lv_has ls maxL (lv_args 0 av) → W p l e (headSpec wy rm).room s m args below meth c s.heap [] 0 0 Q (F0 m 0 ls [])) : CtV l D cI cN y wy rm mc ms av wc sz w1 := by
  refine Met.ofW (cc := cc) (maxL := maxL) (ret := none) hy hw ?_
  intro p e s m args below meth c s₁ B hml hv
  obtain ⟨rfl, hsz, hP, hK, hD0⟩ := hv
  have hlocks := B.notSynchronized
  subst hsz
  rw [lg_entry_eq]
  refine body p e s m _ below meth c _ (va_A wc s.heap.size) ⟨B.exec, B.bytes, hml, findClass_of_methodNamed B.named, atoms_spec (ws := wy) B.pre⟩ (name_of_methodNamed B.named B.method).1 hK hP hD0.self va_S.rf (fun q h => Or.inr h) ?_ _ (lv_entry av hlen)
  intro H locs ls pc hdg hP1 hD1 hS
  exact W.vret B.exec B.bytes B.returns (fun t ht _ => ⟨⟨(), rfl, trivial, by rw [ht]; exact hP1, hD1⟩, hS.F ht⟩) hS.2.2 hdg
theorem mR (hy : plainName y.cls = true) (hw : wy = Cond.code y cc maxL ret :: wy') {C : String} (hret : ret = some (.object C)) (hlen : (lg_sl av).length ≤ maxL)
    (body : ∀ (p : Program) (e : Env) (s : State) (m : MethodId) (args : Array Value) (below : List Frame) (meth : Method) (c : Code) (Q : State → Prop), CallFix p m c cc maxL s args wy y.cls → KN D cI cN s → va_P D vwCl wc s.heap → va_S (nwA s.heap.size) s.heap s.heap [] →
      (∀ (H : Heap) (locs : List Loc) (ls : Array Slot) (pc : Nat), decode cc pc = .ok (.areturn, 1) → va_S (nwA s.heap.size) s.heap H locs → W p l e (headSpec wy rm).room s m args below meth c H locs 0 0 Q (F0 m pc ls [.ref a0])) →
      ∀ ls : Array Slot, lv_has ls maxL (lv_args 0 av) → W p l e (headSpec wy rm).room s m args below meth c s.heap [] 0 0 Q (F0 m 0 ls [])) : CtR l D cI cN y wy rm av wc sz a0 := by
  refine Met.ofW (cc := cc) (maxL := maxL) (ret := ret) hy hw ?_
  intro p e s m args below meth c s₁ B hml hv
  obtain ⟨rfl, hsz, hP, hK⟩ := hv
  have hlocks := B.notSynchronized
  subst hsz
  rw [lg_entry_eq]
  refine body p e s m _ below meth c _ ⟨B.exec, B.bytes, hml, findClass_of_methodNamed B.named, atoms_spec (ws := wy) B.pre⟩ hK hP va_S.rf ?_ _ (lv_entry av hlen)
  intro H locs ls pc hdg hS
  exact W.aret (v := .ref a0) B.exec B.bytes (B.returns.trans hret) (Or.inl ⟨C, rfl⟩) (Or.inr ⟨a0, rfl⟩) (fun t ht _ => ⟨⟨(), a0, rfl, trivial, rfl⟩, hS.F ht⟩) hS.2.2 hdg
end HA
theorem blP {av : List Value} {D : va_G} {cI cN : ClassId} {ws : va_W} {sz : Nat} : FrameBlind (va_Pc av (PreP D cI cN ws sz)) := fun a U g mk q => by
  obtain ⟨q0, q1, qP, qK⟩ := q
  exact ⟨q0, q1, qP, KN.same (s := U) (U := U.calling g mk a) rfl qK⟩
theorem blW {av : List Value} {D : va_G} {cI cN : ClassId} {ws : va_W} {sz : Nat} : FrameBlind (va_Pc av (PreW D cI cN ws sz)) := fun a U g mk q => by
  obtain ⟨q0, q1, qP, qK, qD⟩ := q
  exact ⟨q0, q1, qP, KN.same (s := U) (U := U.calling g mk a) rfl qK, qD⟩
theorem nw_keep {D : va_G} {ws : va_W} {H H1 : Heap} (hP : va_P D vwCl ws H) (hk : ∀ q : Nat, q < H.size → ¬ nwA H.size q → H1[q]? = H[q]?) : va_P D vwCl ws H1 :=
  hP.kept fun k q hq => hk q.1 (hP k q hq).lt (Nat.not_le.mpr (hP k q hq).lt)
/-- behind a call that wrote its own cells: the caller's world, in the caller's order -/
theorem back_w {D : va_G} {A0 : Nat → Prop} {ws wc wr w1 wf : va_W} {H H1 : Heap} (hP : va_P D vwCl ws H) (hD : va_D A0 ws) (isC isR isF : List Nat) (hC : isC.map (fun i => ws[i]?) = wc.map some) (hR : isR.map (fun i => ws[i]?) = wr.map some) (hn : va_nd isR = true) (hdis : ∀ i ∈ isR, i ∉ isC) (hFi : isF.map (fun i => (wr ++ w1)[i]?) = wf.map some) (hnF : va_nd isF = true)
    (hk : ∀ q : Nat, q < H.size → ¬ va_A wc H.size q → H1[q]? = H[q]?) (hF : ∀ q, va_A wc H.size q → A0 q) (hP1 : va_P D vwCl w1 H1) (hD1 : va_D (va_A wc H.size) w1) : va_P D vwCl wf H1 ∧ va_D A0 wf := by
  obtain ⟨h1, h2⟩ := va_join (wr := wr) (w1 := w1) hP hD isC isR hC hR hn hdis hk hF hP1 hD1
  refine ⟨h1.sub isF ?_, h2.sub isF hnF hFi⟩
  have : isF.filterMap (fun i => (wr ++ w1)[i]?) = (isF.map (fun i => (wr ++ w1)[i]?)).filterMap id := by rw [List.filterMap_map]; rfl
  rw [this, hFi]
  rw [List.filterMap_map]
  simp
section HC
variable {p : Program} {l : Launch} {e : Env} {R : Room} {s : State} {m : MethodId} {args : Array Value} {below : List Frame} {meth : Method} {c : Code} {H : Heap} {locs : List Loc} {cells slots : Nat} {Q : State → Prop}
variable {pc : Nat} {ls : Array Slot} {rest st0 As : List Value} {A0 : Nat → Prop} {H0 : Heap} {mc ms nL index n maxL : Nat} {D : va_G} {cI cN : ClassId} {cc bytes : ByteArray} {y : MethodName} {ret : Option FieldType} {wy Ts : List Cond} {rm : Room} {own C : String} {b : Nat} {r0 : Int32} {a0 : Nat} {ws wc wr w1 wf : va_W} {ci q0 : Nat} {fs : List Value} {T : u_T} {N : Nat}
/-- a virtual call that only reads: an int comes -/
theorem cPi (S : CallFix p m c cc nL s args Ts own) (hM : CtP l D cI cN y wy rm (.ref b :: As) wc H.size r0) (cw : CallW R s args own C index y bytes maxL ret wy rm 0 0 n) (hK : KN D cI cN s) (hP : va_P D vwCl ws H) (hS : va_S A0 H0 H locs) (hA : ∀ q, H0.size ≤ q → A0 q)
    (is : List Nat) (hsub : is.filterMap (fun i => ws[i]?) = wc) (he : ws[q0]? = some (b, .inr (ci, fs))) (hc : vwCl[ci]? = some (C, T, N)) (hn : As.length = n) (hsz : ls.size = nL) (hst : st0 = As.reverse ++ .ref b :: rest) (hroom : (rest.map fun v => v.category).sum ≤ 8) (hdg : decode cc pc = .ok (.invokevirtual index, 3)) (hf : cells ≤ R.cells ∧ slots ≤ R.slots)
    (kk : ∀ (H1 : Heap) (locs1 : List Loc), va_P D vwCl ws H1 → va_S A0 H0 H1 locs1 → W p l e R s m args below meth c H1 locs1 cells slots Q (F0 m (pc + 3) ls (.int r0 :: rest))) : W p l e R s m args below meth c H locs cells slots Q (F0 m pc ls st0) := by
  have hPc : va_P D vwCl wc H := hP.sub is hsub
  refine va_calli (va_runV (As := As) (rest := rest) S hM cw ⟨blP, va_recv hK.1 hP hc he, fun U hU hW => ⟨rfl, by rw [hU], by rw [hU]; exact hPc, hK.warm hW⟩⟩ rfl hn hsz hst (lv_room hroom) hdg hf) hS (fun q _ h => hA q (Nat.le_trans hS.1 h)) (fun q h => hA q (Nat.le_trans hS.1 h)) (fun r u t H1 locs1 ht hvm hw hB hz1 hk1 hS1 => ?_)
  subst hw
  exact kk H1 locs1 (nw_keep hP hk1) hS1
/-- a static call of its own class (or of another one's static member by a link) that only reads -/
theorem cSi (S : CallFix p m c cc nL s args Ts own) (hM : CtP l D cI cN y wy rm As wc H.size r0) (cw : CallB R s args own index y bytes maxL ret wy rm 0 0 n ∧ (Cond.static y).before args s = true) (hK : KN D cI cN s) (hP : va_P D vwCl ws H) (hS : va_S A0 H0 H locs) (hA : ∀ q, H0.size ≤ q → A0 q)
    (is : List Nat) (hsub : is.filterMap (fun i => ws[i]?) = wc) (hn : As.length = n) (hsz : ls.size = nL) (hst : st0 = As.reverse ++ rest) (hroom : (rest.map fun v => v.category).sum ≤ 8) (hdg : decode cc pc = .ok (.invokestatic index, 3)) (hf : cells ≤ R.cells ∧ slots ≤ R.slots)
    (kk : ∀ (H1 : Heap) (locs1 : List Loc), va_P D vwCl ws H1 → va_S A0 H0 H1 locs1 → W p l e R s m args below meth c H1 locs1 cells slots Q (F0 m (pc + 3) ls (.int r0 :: rest))) : W p l e R s m args below meth c H locs cells slots Q (F0 m pc ls st0) := by
  have hPc : va_P D vwCl wc H := hP.sub is hsub
  refine va_calli (va_runS (As := As) (rest := rest) S hM cw ⟨blP, fun U hU hW => ⟨rfl, by rw [hU], by rw [hU]; exact hPc, hK.warm hW⟩⟩ rfl hn hsz hst (lv_room hroom) hdg hf) hS (fun q _ h => hA q (Nat.le_trans hS.1 h)) (fun q h => hA q (Nat.le_trans hS.1 h)) (fun r u t H1 locs1 ht hvm hw hB hz1 hk1 hS1 => ?_)
  subst hw
  exact kk H1 locs1 (nw_keep hP hk1) hS1
/-- a static call of a nest mate that only reads -/
theorem cNi {host : String} (S : CallFix p m c cc nL s args Ts own) (hM : CtP l D cI cN y wy rm As wc H.size r0) (cw : va_CN R s args own index y host bytes maxL ret wy rm 0 0 n ∧ (Cond.static y).before args s = true ∧ True) (hK : KN D cI cN s) (hP : va_P D vwCl ws H) (hS : va_S A0 H0 H locs) (hA : ∀ q, H0.size ≤ q → A0 q)
    (is : List Nat) (hsub : is.filterMap (fun i => ws[i]?) = wc) (hn : As.length = n) (hsz : ls.size = nL) (hst : st0 = As.reverse ++ rest) (hroom : (rest.map fun v => v.category).sum ≤ 8) (hdg : decode cc pc = .ok (.invokestatic index, 3)) (hf : cells ≤ R.cells ∧ slots ≤ R.slots)
    (kk : ∀ (H1 : Heap) (locs1 : List Loc), va_P D vwCl ws H1 → va_S A0 H0 H1 locs1 → W p l e R s m args below meth c H1 locs1 cells slots Q (F0 m (pc + 3) ls (.int r0 :: rest))) : W p l e R s m args below meth c H locs cells slots Q (F0 m pc ls st0) := by
  have hPc : va_P D vwCl wc H := hP.sub is hsub
  refine va_calli (va_runSN (As := As) (rest := rest) S hM cw ⟨blP, fun U hU hW => ⟨rfl, by rw [hU], by rw [hU]; exact hPc, hK.warm hW⟩⟩ rfl hn hsz hst (lv_room hroom) hdg hf) hS (fun q _ h => hA q (Nat.le_trans hS.1 h)) (fun q h => hA q (Nat.le_trans hS.1 h)) (fun r u t H1 locs1 ht hvm hw hB hz1 hk1 hS1 => ?_)
  subst hw
  exact kk H1 locs1 (nw_keep hP hk1) hS1
/-- a virtual call that only reads: a cell comes -/
theorem cPr (S : CallFix p m c cc nL s args Ts own) (hM : CtR l D cI cN y wy rm (.ref b :: As) wc H.size a0) (cw : CallW R s args own C index y bytes maxL ret wy rm 0 0 n) (hK : KN D cI cN s) (hP : va_P D vwCl ws H) (hS : va_S A0 H0 H locs) (hA : ∀ q, H0.size ≤ q → A0 q)
    (is : List Nat) (hsub : is.filterMap (fun i => ws[i]?) = wc) (he : ws[q0]? = some (b, .inr (ci, fs))) (hc : vwCl[ci]? = some (C, T, N)) (hn : As.length = n) (hsz : ls.size = nL) (hst : st0 = As.reverse ++ .ref b :: rest) (hroom : (rest.map fun v => v.category).sum ≤ 8) (hdg : decode cc pc = .ok (.invokevirtual index, 3)) (hf : cells ≤ R.cells ∧ slots ≤ R.slots)
    (kk : ∀ (H1 : Heap) (locs1 : List Loc), va_P D vwCl ws H1 → va_S A0 H0 H1 locs1 → W p l e R s m args below meth c H1 locs1 cells slots Q (F0 m (pc + 3) ls (.ref a0 :: rest))) : W p l e R s m args below meth c H locs cells slots Q (F0 m pc ls st0) := by
  have hPc : va_P D vwCl wc H := hP.sub is hsub
  refine va_callr (va_runV (As := As) (rest := rest) S hM cw ⟨blP, va_recv hK.1 hP hc he, fun U hU hW => ⟨rfl, by rw [hU], by rw [hU]; exact hPc, hK.warm hW⟩⟩ rfl hn hsz hst (lv_room hroom) hdg hf) hS (fun q _ h => hA q (Nat.le_trans hS.1 h)) (fun q h => hA q (Nat.le_trans hS.1 h)) (fun u ra t H1 locs1 ht hvm hw hB hz1 hk1 hS1 => ?_)
  subst hB
  exact kk H1 locs1 (nw_keep hP hk1) hS1
/-- a virtual call that writes its own cells: an int comes -/
theorem cWi (S : CallFix p m c cc nL s args Ts own) (hM : CtI l D cI cN y wy rm mc ms (.ref b :: As) wc H.size r0 w1) (cw : CallW R s args own C index y bytes maxL ret wy rm mc ms n) (hK : KN D cI cN s) (hP : va_P D vwCl ws H) (hD : va_D A0 ws) (hS : va_S A0 H0 H locs) (hA : ∀ q, H0.size ≤ q → A0 q)
    (isC isR isF : List Nat) (hC : isC.map (fun i => ws[i]?) = wc.map some) (hR : isR.map (fun i => ws[i]?) = wr.map some) (hnC : va_nd isC = true) (hnR : va_nd isR = true) (hdis : ∀ i ∈ isR, i ∉ isC) (hFi : isF.map (fun i => (wr ++ w1)[i]?) = wf.map some) (hnF : va_nd isF = true)
    (he : ws[q0]? = some (b, .inr (ci, fs))) (hc : vwCl[ci]? = some (C, T, N)) (hn : As.length = n) (hsz : ls.size = nL) (hst : st0 = As.reverse ++ .ref b :: rest) (hroom : (rest.map fun v => v.category).sum ≤ 8) (hdg : decode cc pc = .ok (.invokevirtual index, 3)) (hf : cells + mc ≤ R.cells ∧ slots + ms ≤ R.slots)
    (kk : ∀ (H1 : Heap) (locs1 : List Loc), va_P D vwCl wf H1 → va_D A0 wf → va_S A0 H0 H1 locs1 → W p l e R s m args below meth c H1 locs1 (cells + mc) (slots + ms) Q (F0 m (pc + 3) ls (.int r0 :: rest))) : W p l e R s m args below meth c H locs cells slots Q (F0 m pc ls st0) := by
  have hsub : isC.filterMap (fun i => ws[i]?) = wc := by
    have h1 : isC.filterMap (fun i => ws[i]?) = (isC.map (fun i => ws[i]?)).filterMap id := by rw [List.filterMap_map]; rfl
    rw [h1, hC, List.filterMap_map]; simp
  have hPc : va_P D vwCl wc H := hP.sub isC hsub
  have hDc : va_D (fun _ => True) wc := (hD.sub isC hnC hC).weaken (fun _ _ _ _ => trivial)
  have hFc := va_free (wc := wc) hD hS hA isC hC
  refine va_calli (va_runV (As := As) (rest := rest) S hM cw ⟨blW, va_recv hK.1 hP hc he, fun U hU hW => ⟨rfl, by rw [hU], by rw [hU]; exact hPc, hK.warm hW, hDc⟩⟩ rfl hn hsz hst (lv_room hroom) hdg hf) hS (fun q _ h => hFc q h) hFc (fun r u t H1 locs1 ht hvm hw hB hz1 hk1 hS1 => ?_)
  subst hw
  obtain ⟨hP1, hD1⟩ := hB
  rw [ht] at hP1
  obtain ⟨h1, h2⟩ := back_w hP hD isC isR isF hC hR hnR hdis hFi hnF hk1 hFc hP1 hD1
  exact kk H1 locs1 h1 h2 hS1
theorem cWv (S : CallFix p m c cc nL s args Ts own) (hM : CtV l D cI cN y wy rm mc ms (.ref b :: As) wc H.size w1) (cw : CallW R s args own C index y bytes maxL ret wy rm mc ms n) (hK : KN D cI cN s) (hP : va_P D vwCl ws H) (hD : va_D A0 ws) (hS : va_S A0 H0 H locs) (hA : ∀ q, H0.size ≤ q → A0 q)
    (isC isR isF : List Nat) (hC : isC.map (fun i => ws[i]?) = wc.map some) (hR : isR.map (fun i => ws[i]?) = wr.map some) (hnC : va_nd isC = true) (hnR : va_nd isR = true) (hdis : ∀ i ∈ isR, i ∉ isC) (hFi : isF.map (fun i => (wr ++ w1)[i]?) = wf.map some) (hnF : va_nd isF = true)
    (he : ws[q0]? = some (b, .inr (ci, fs))) (hc : vwCl[ci]? = some (C, T, N)) (hn : As.length = n) (hsz : ls.size = nL) (hst : st0 = As.reverse ++ .ref b :: rest) (hroom : (rest.map fun v => v.category).sum ≤ 8) (hdg : decode cc pc = .ok (.invokevirtual index, 3)) (hf : cells + mc ≤ R.cells ∧ slots + ms ≤ R.slots)
    (kk : ∀ (H1 : Heap) (locs1 : List Loc), va_P D vwCl wf H1 → va_D A0 wf → va_S A0 H0 H1 locs1 → W p l e R s m args below meth c H1 locs1 (cells + mc) (slots + ms) Q (F0 m (pc + 3) ls rest)) : W p l e R s m args below meth c H locs cells slots Q (F0 m pc ls st0) := by
  have hsub : isC.filterMap (fun i => ws[i]?) = wc := by
    have h1 : isC.filterMap (fun i => ws[i]?) = (isC.map (fun i => ws[i]?)).filterMap id := by rw [List.filterMap_map]; rfl
    rw [h1, hC, List.filterMap_map]; simp
  have hPc : va_P D vwCl wc H := hP.sub isC hsub
  have hDc : va_D (fun _ => True) wc := (hD.sub isC hnC hC).weaken (fun _ _ _ _ => trivial)
  have hFc := va_free (wc := wc) hD hS hA isC hC
  refine va_callv (va_runV (As := As) (rest := rest) S hM cw ⟨blW, va_recv hK.1 hP hc he, fun U hU hW => ⟨rfl, by rw [hU], by rw [hU]; exact hPc, hK.warm hW, hDc⟩⟩ rfl hn hsz hst (lv_room hroom) hdg hf) hS (fun q _ h => hFc q h) hFc (fun u t H1 locs1 ht hvm hw hB hz1 hk1 hS1 => ?_)
  obtain ⟨hP1, hD1⟩ := hB
  rw [ht] at hP1
  obtain ⟨h1, h2⟩ := back_w hP hD isC isR isF hC hR hnR hdis hFi hnF hk1 hFc hP1 hD1
  exact kk H1 locs1 h1 h2 hS1
/-- a static call that writes its own cells -/
theorem cSv (S : CallFix p m c cc nL s args Ts own) (hM : CtV l D cI cN y wy rm mc ms As wc H.size w1) (cw : CallB R s args own index y bytes maxL ret wy rm mc ms n ∧ (Cond.static y).before args s = true) (hK : KN D cI cN s) (hP : va_P D vwCl ws H) (hD : va_D A0 ws) (hS : va_S A0 H0 H locs) (hA : ∀ q, H0.size ≤ q → A0 q)
    (isC isR isF : List Nat) (hC : isC.map (fun i => ws[i]?) = wc.map some) (hR : isR.map (fun i => ws[i]?) = wr.map some) (hnC : va_nd isC = true) (hnR : va_nd isR = true) (hdis : ∀ i ∈ isR, i ∉ isC) (hFi : isF.map (fun i => (wr ++ w1)[i]?) = wf.map some) (hnF : va_nd isF = true)
    (hn : As.length = n) (hsz : ls.size = nL) (hst : st0 = As.reverse ++ rest) (hroom : (rest.map fun v => v.category).sum ≤ 8) (hdg : decode cc pc = .ok (.invokestatic index, 3)) (hf : cells + mc ≤ R.cells ∧ slots + ms ≤ R.slots)
    (kk : ∀ (H1 : Heap) (locs1 : List Loc), va_P D vwCl wf H1 → va_D A0 wf → va_S A0 H0 H1 locs1 → W p l e R s m args below meth c H1 locs1 (cells + mc) (slots + ms) Q (F0 m (pc + 3) ls rest)) : W p l e R s m args below meth c H locs cells slots Q (F0 m pc ls st0) := by
  have hsub : isC.filterMap (fun i => ws[i]?) = wc := by
    have h1 : isC.filterMap (fun i => ws[i]?) = (isC.map (fun i => ws[i]?)).filterMap id := by rw [List.filterMap_map]; rfl
    rw [h1, hC, List.filterMap_map]; simp
  have hPc : va_P D vwCl wc H := hP.sub isC hsub
  have hDc : va_D (fun _ => True) wc := (hD.sub isC hnC hC).weaken (fun _ _ _ _ => trivial)
  have hFc := va_free (wc := wc) hD hS hA isC hC
  refine va_callv (va_runS (As := As) (rest := rest) S hM cw ⟨blW, fun U hU hW => ⟨rfl, by rw [hU], by rw [hU]; exact hPc, hK.warm hW, hDc⟩⟩ rfl hn hsz hst (lv_room hroom) hdg hf) hS (fun q _ h => hFc q h) hFc (fun u t H1 locs1 ht hvm hw hB hz1 hk1 hS1 => ?_)
  obtain ⟨hP1, hD1⟩ := hB
  rw [ht] at hP1
  obtain ⟨h1, h2⟩ := back_w hP hD isC isR isF hC hR hnR hdis hFi hnF hk1 hFc hP1 hD1
  exact kk H1 locs1 h1 h2 hS1
/-- a constructor's call -/
theorem cIv (S : CallFix p m c cc nL s args Ts own) (hM : CtV l D cI cN y wy rm mc ms (.ref b :: As) wc H.size w1) (cw : CallB R s args own index y bytes maxL none wy rm mc ms n ∧ y.name = "<init>" ∧ (Cond.instanceMethod y).before args s = true) (hK : KN D cI cN s) (hP : va_P D vwCl ws H) (hD : va_D A0 ws) (hS : va_S A0 H0 H locs) (hA : ∀ q, H0.size ≤ q → A0 q)
    (isC isR isF : List Nat) (hC : isC.map (fun i => ws[i]?) = wc.map some) (hR : isR.map (fun i => ws[i]?) = wr.map some) (hnC : va_nd isC = true) (hnR : va_nd isR = true) (hdis : ∀ i ∈ isR, i ∉ isC) (hFi : isF.map (fun i => (wr ++ w1)[i]?) = wf.map some) (hnF : va_nd isF = true)
    (hn : As.length = n) (hsz : ls.size = nL) (hst : st0 = As.reverse ++ .ref b :: rest) (hroom : (rest.map fun v => v.category).sum ≤ 8) (hdg : decode cc pc = .ok (.invokespecial index, 3)) (hf : cells + mc ≤ R.cells ∧ slots + ms ≤ R.slots)
    (kk : ∀ (H1 : Heap) (locs1 : List Loc), va_P D vwCl wf H1 → va_D A0 wf → va_S A0 H0 H1 locs1 → W p l e R s m args below meth c H1 locs1 (cells + mc) (slots + ms) Q (F0 m (pc + 3) ls rest)) : W p l e R s m args below meth c H locs cells slots Q (F0 m pc ls st0) := by
  have hsub : isC.filterMap (fun i => ws[i]?) = wc := by
    have h1 : isC.filterMap (fun i => ws[i]?) = (isC.map (fun i => ws[i]?)).filterMap id := by rw [List.filterMap_map]; rfl
    rw [h1, hC, List.filterMap_map]; simp
  have hPc : va_P D vwCl wc H := hP.sub isC hsub
  have hDc : va_D (fun _ => True) wc := (hD.sub isC hnC hC).weaken (fun _ _ _ _ => trivial)
  have hFc := va_free (wc := wc) hD hS hA isC hC
  refine va_callv (va_runI (As := As) (rest := rest) S hM cw ⟨blW, fun U hU hW => ⟨rfl, by rw [hU], by rw [hU]; exact hPc, hK.warm hW, hDc⟩⟩ rfl hn hsz hst (lv_room hroom) hdg hf) hS (fun q _ h => hFc q h) hFc (fun u t H1 locs1 ht hvm hw hB hz1 hk1 hS1 => ?_)
  obtain ⟨hP1, hD1⟩ := hB
  rw [ht] at hP1
  obtain ⟨h1, h2⟩ := back_w hP hD isC isR isF hC hR hnR hdis hFi hnF hk1 hFc hP1 hD1
  exact kk H1 locs1 h1 h2 hS1
end HC
/-- following what a method computes: a branch taken, one not taken, a bind, a joint -/
theorem it_t {α : Sort _} {c : Prop} [Decidable c] {a b o : α} (h : (if c then a else b) = o) (hc : c) : a = o := by rw [if_pos hc] at h; exact h
theorem it_f {α : Sort _} {c : Prop} [Decidable c] {a b o : α} (h : (if c then a else b) = o) (hc : ¬ c) : b = o := by rw [if_neg hc] at h; exact h
theorem it_g {α : Type _} {c : Prop} [Decidable c] {a : Option α} {o : α} (h : (if c then a else none) = some o) : c ∧ a = some o := by
  by_cases hc : c
  · rw [if_pos hc] at h; exact ⟨hc, h⟩
  · rw [if_neg hc] at h; cases h
theorem it_b {α β : Type _} {x : Option α} {f : α → Option β} {o : β} (h : x.bind f = some o) : ∃ r, x = some r ∧ f r = some o := Option.bind_eq_some_iff.mp h
def jn {α β : Sort _} (a : α) (f : α → β) : β := f a
theorem it_j {α β : Sort _} {a : α} {f : α → β} {o : β} (h : jn a f = o) : ∃ r, a = r ∧ f r = o := ⟨a, rfl, h⟩
def inb (i : Int32) (n : Nat) : Bool := decide (0 ≤ i) && decide (i.toNatClampNeg < n)
theorem inb_in {i : Int32} {n : Nat} (h : inb i n = true) : vp_in i n := by
  simp only [inb, Bool.and_eq_true, decide_eq_true_eq] at h
  intro q
  rcases q with q | q
  · exact absurd h.1 (Int32.not_le.mpr q)
  · omega
theorem inb_nI {k n : Nat} (h : k < n) (hn : n < 2 ^ 31) : inb (nI k) n = true := by
  simp only [inb, Bool.and_eq_true, decide_eq_true_eq]
  exact ⟨nI_pos' (by omega), by rw [nI_clamp (by omega)]; exact h⟩
section HG
variable {p : Program} {l : Launch} {e : Env} {R : Room} {s : State} {m : MethodId} {args : Array Value} {below : List Frame} {meth : Method} {c : Code} {H : Heap} {locs : List Loc} {cells slots : Nat} {Q : State → Prop}
variable {cc : ByteArray} {pc : Nat} {ls : Array Slot} {rest : List Value} {D : va_G} {cl : List vw_C} {A : Nat → Prop} {a : Nat} {tys : List (ClassId × FieldType)} {ws wf : va_W} {H0 : Heap}
/-- a field is written: the world behind it in its own form -/
theorem gput (hexec : p.tables.exec = Jvm.exec) (hb : c.code = cc) {own ref C : String} {T : u_T} {N ci index : Nat} {Ts : List Cond} (hts : ∀ w ∈ Ts, w.before args s = true) (hin : ∀ w ∈ u_ws C T N, w ∈ Ts) (ty0 : Nat → FieldType) (hty : ∀ k, k < N → parseFieldDescriptor (T k).2.2.1 = some (ty0 k)) (hnm : ∀ a, a < N → ∀ b, b < N → a ≠ b → (T a).2.1 ≠ (T b).2.1) (hown : s.vm.findClass own = some m.cls) (hK : va_K D cl tys s) (hP : va_P D cl ws H) (hD : va_D A ws) (hS0 : va_S A H0 H locs) (q0 : Nat) {fs : List Value} (he : ws[q0]? = some (a, .inr (ci, fs))) (hc : cl[ci]? = some (C, T, N)) (k : Nat) (hk : k < N) (hlink : (Cond.fieldLink own index ref (T k).2.1 (T k).2.2.1).before args s = true) (hsame : ∀ x, s.fieldFound? (T k).1 (T k).2.1 (T k).2.2.1 = some x → s.fieldFound? ref (T k).2.1 (T k).2.2.1 = some x) (hfin : (T k).2.2.2 = false) {ty : FieldType} {v : Value} (hd : parseFieldDescriptor (T k).2.2.1 = some ty) (hn : narrow ty v = v) (hfit : fits ty v = true) (hl : k < fs.length)
    (hdg : decode cc pc = .ok (.putfield index, 3)) (hwf : ws.set q0 (a, .inr (ci, fs.set k v)) = wf) (kk : ∀ (H1 : Heap) (locs1 : List Loc), va_P D cl wf H1 → va_D A wf → va_S A H0 H1 locs1 → W p l e R s m args below meth c H1 locs1 cells slots Q (F0 m (pc + 3) ls rest)) : W p l e R s m args below meth c H locs cells slots Q (F0 m pc ls (v :: .ref a :: rest)) := by
  subst hwf
  exact va_put hexec hb hts hin ty0 hty hnm hown hK hP hD hS0 q0 he hc k hk hlink hsame hfin hd hn hfit hl hdg kk
theorem giast (hexec : p.tables.exec = Jvm.exec) (hb : c.code = cc) (hK : va_K D cl tys s) (hP : va_P D cl ws H) (hD : va_D A ws) (hS : va_S A H0 H locs) (q0 t0 : Nat) {cA : ClassId} {n : Nat} {f : Nat → Int32} (ha : ws[q0]? = some (a, .inl (cA, n, .inl f))) (ht : tys[t0]? = some (cA, .int)) {i : Int32} {x : Int32} (hin : vp_in i n) (hdg : decode cc pc = .ok (.iastore, 1)) (hwf : ws.set q0 (a, .inl (cA, n, .inl (upd f i.toNatClampNeg x))) = wf)
    (kk : ∀ (H1 : Heap) (locs1 : List Loc), va_P D cl wf H1 → va_D A wf → va_S A H0 H1 locs1 → W p l e R s m args below meth c H1 locs1 cells slots Q (F0 m (pc + 1) ls rest)) : W p l e R s m args below meth c H locs cells slots Q (F0 m pc ls (.int x :: .int i :: .ref a :: rest)) := by
  subst hwf
  exact va_iast hexec hb hK hP hD hS q0 t0 ha ht hin hdg kk
end HG
