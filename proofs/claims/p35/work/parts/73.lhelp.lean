/-! the law's own methods: static calls, long answers, the script -/
abbrev QPl (r0 : Int64) (sz : Nat) : Array Value → State → Outcome → State → Prop := va_Ql (fun r (_ : Unit) => r = r0) (fun _ _ => True) (nwA sz)
abbrev CtL (l : Launch) (D : va_G) (cI cN : ClassId) (y : MethodName) (wy : List Cond) (rm : Room) (av : List Value) (wc : va_W) (sz : Nat) (r0 : Int64) : Prop := Met l y wy rm (va_Pc av (PreP D cI cN wc sz)) (QPl r0 sz) 0 0 (nwA sz)
def PreX (b L : Nat) (xs : Nat → Int32) (sz : Nat) (U : State) : Prop := U.heap.size = sz ∧ va_X b L xs U U.heap ∧ b < sz
theorem P_nil {D : va_G} {cl : List vw_C} {ws : va_W} {H : Heap} (_ : va_P D cl ws H) : va_P D cl ([] : va_W) H := fun k q h => by simp at h
section LH
variable {l : Launch} {D : va_G} {cI cN : ClassId} {y : MethodName} {wy wy' : List Cond} {rm : Room} {av : List Value} {wc w1 : va_W} {sz mc ms : Nat} {r0 : Int64} {cc : ByteArray} {maxL : Nat} {ret : Option FieldType}
/-- the start of a method that only reads, with a long answer -/
theorem mL (hy : plainName y.cls = true) (hw : wy = Cond.code y cc maxL ret :: wy') (hret : ret = some .long) (hlen : (lg_sl av).length ≤ maxL)
    (body : ∀ (p : Program) (e : Env) (s : State) (m : MethodId) (args : Array Value) (below : List Frame) (meth : Method) (c : Code) (Q : State → Prop), CallFix p m c cc maxL s args wy y.cls → KN D cI cN s → va_P D vwCl wc s.heap → va_S (nwA s.heap.size) s.heap s.heap [] →
      (∀ (H : Heap) (locs : List Loc) (ls : Array Slot) (pc : Nat), decode cc pc = .ok (.lreturn, 1) → va_S (nwA s.heap.size) s.heap H locs → W p l e (headSpec wy rm).room s m args below meth c H locs 0 0 Q (F0 m pc ls [.long r0])) →
      ∀ ls : Array Slot, lv_has ls maxL (lv_args 0 av) → W p l e (headSpec wy rm).room s m args below meth c s.heap [] 0 0 Q (F0 m 0 ls [])) : CtL l D cI cN y wy rm av wc sz r0 := by
  refine Met.ofW (cc := cc) (maxL := maxL) (ret := ret) hy hw ?_
  intro p e s m args below meth c s₁ B hml hv
  obtain ⟨rfl, hsz, hP, hK⟩ := hv
  have hlocks := B.notSynchronized
  subst hsz
  rw [lg_entry_eq]
  refine body p e s m _ below meth c _ ⟨B.exec, B.bytes, hml, findClass_of_methodNamed B.named, atoms_spec (ws := wy) B.pre⟩ hK hP va_S.rf ?_ _ (lv_entry av hlen)
  intro H locs ls pc hdg hS
  exact W.lret B.exec B.bytes (B.returns.trans hret) (fun t ht _ => ⟨⟨r0, (), rfl, rfl, trivial⟩, hS.F ht⟩) hS.2.2 hdg
/-- the start of a method that reads the script -/
theorem mX {b L : Nat} {xs : Nat → Int32} {r1 : Int32} (hy : plainName y.cls = true) (hw : wy = Cond.code y cc maxL ret :: wy') (hret : ret = some .int) (hlen : (lg_sl av).length ≤ maxL)
    (body : ∀ (p : Program) (e : Env) (s : State) (m : MethodId) (args : Array Value) (below : List Frame) (meth : Method) (c : Code) (Q : State → Prop), CallFix p m c cc maxL s args wy y.cls → va_X b L xs s s.heap → b < s.heap.size → va_S (nwA s.heap.size) s.heap s.heap [] →
      (∀ (H : Heap) (locs : List Loc) (ls : Array Slot) (pc : Nat), decode cc pc = .ok (.ireturn, 1) → va_S (nwA s.heap.size) s.heap H locs → W p l e (headSpec wy rm).room s m args below meth c H locs 0 0 Q (F0 m pc ls [.int r1])) →
      ∀ ls : Array Slot, lv_has ls maxL (lv_args 0 av) → W p l e (headSpec wy rm).room s m args below meth c s.heap [] 0 0 Q (F0 m 0 ls [])) : Met l y wy rm (va_Pc av (PreX b L xs sz)) (QPi r1 sz) 0 0 (nwA sz) := by
  refine Met.ofW (cc := cc) (maxL := maxL) (ret := ret) hy hw ?_
  intro p e s m args below meth c s₁ B hml hv
  obtain ⟨rfl, hsz, hX, hbl⟩ := hv
  have hlocks := B.notSynchronized
  subst hsz
  rw [lg_entry_eq]
  refine body p e s m _ below meth c _ ⟨B.exec, B.bytes, hml, findClass_of_methodNamed B.named, atoms_spec (ws := wy) B.pre⟩ hX hbl va_S.rf ?_ _ (lv_entry av hlen)
  intro H locs ls pc hdg hS
  exact W.zret (ty := .int) B.exec B.bytes (B.returns.trans hret) rfl (fun t ht _ => ⟨⟨r1, (), rfl, rfl, trivial⟩, hS.F ht⟩) hS.2.2 hdg
end LH
theorem blX {av : List Value} {b L : Nat} {xs : Nat → Int32} {sz : Nat} : FrameBlind (va_Pc av (PreX b L xs sz)) := fun a U g mk q => by
  obtain ⟨q0, q1, q2, q3⟩ := q
  exact ⟨q0, q1, q2, q3⟩
section LC
variable {p : Program} {l : Launch} {e : Env} {R : Room} {s : State} {m : MethodId} {args : Array Value} {below : List Frame} {meth : Method} {c : Code} {H : Heap} {locs : List Loc} {cells slots : Nat} {Q : State → Prop}
variable {pc : Nat} {ls : Array Slot} {rest st0 As : List Value} {A0 : Nat → Prop} {H0 : Heap} {mc ms nL index n maxL : Nat} {D : va_G} {cI cN : ClassId} {cc bytes : ByteArray} {y : MethodName} {ret : Option FieldType} {wy Ts : List Cond} {rm : Room} {own : String} {r0 : Int32} {r64 : Int64} {ws wc : va_W}
/-- a static call that only reads: the callee's world given as proved -/
theorem cTi (S : CallFix p m c cc nL s args Ts own) (hM : CtP l D cI cN y wy rm As wc H.size r0) (cw : CallB R s args own index y bytes maxL ret wy rm 0 0 n ∧ (Cond.static y).before args s = true) (hK : KN D cI cN s) (hP : va_P D vwCl ws H) (hS : va_S A0 H0 H locs) (hA : ∀ q, H0.size ≤ q → A0 q)
    (hPc : va_P D vwCl wc H) (hn : As.length = n) (hsz : ls.size = nL) (hst : st0 = As.reverse ++ rest) (hroom : (rest.map fun v => v.category).sum ≤ 8) (hdg : decode cc pc = .ok (.invokestatic index, 3)) (hf : cells ≤ R.cells ∧ slots ≤ R.slots)
    (kk : ∀ (H1 : Heap) (locs1 : List Loc), va_P D vwCl ws H1 → va_S A0 H0 H1 locs1 → W p l e R s m args below meth c H1 locs1 cells slots Q (F0 m (pc + 3) ls (.int r0 :: rest))) : W p l e R s m args below meth c H locs cells slots Q (F0 m pc ls st0) := by
  refine va_calli (va_runS (As := As) (rest := rest) S hM cw ⟨blP, fun U hU hW => ⟨rfl, by rw [hU], by rw [hU]; exact hPc, hK.warm hW⟩⟩ rfl hn hsz hst (lv_room hroom) hdg hf) hS (fun q _ h => hA q (Nat.le_trans hS.1 h)) (fun q h => hA q (Nat.le_trans hS.1 h)) (fun r u t H1 locs1 ht hvm hw hB hz1 hk1 hS1 => ?_)
  subst hw
  exact kk H1 locs1 (nw_keep hP hk1) hS1
theorem cTl (S : CallFix p m c cc nL s args Ts own) (hM : CtL l D cI cN y wy rm As wc H.size r64) (cw : CallB R s args own index y bytes maxL ret wy rm 0 0 n ∧ (Cond.static y).before args s = true) (hK : KN D cI cN s) (hP : va_P D vwCl ws H) (hS : va_S A0 H0 H locs) (hA : ∀ q, H0.size ≤ q → A0 q)
    (hPc : va_P D vwCl wc H) (hn : As.length = n) (hsz : ls.size = nL) (hst : st0 = As.reverse ++ rest) (hroom : (rest.map fun v => v.category).sum ≤ 8) (hdg : decode cc pc = .ok (.invokestatic index, 3)) (hf : cells ≤ R.cells ∧ slots ≤ R.slots)
    (kk : ∀ (H1 : Heap) (locs1 : List Loc), va_P D vwCl ws H1 → va_S A0 H0 H1 locs1 → W p l e R s m args below meth c H1 locs1 cells slots Q (F0 m (pc + 3) ls (.long r64 :: rest))) : W p l e R s m args below meth c H locs cells slots Q (F0 m pc ls st0) := by
  refine va_calll (va_runS (As := As) (rest := rest) S hM cw ⟨blP, fun U hU hW => ⟨rfl, by rw [hU], by rw [hU]; exact hPc, hK.warm hW⟩⟩ rfl hn hsz hst (lv_room hroom) hdg hf) hS (fun q _ h => hA q (Nat.le_trans hS.1 h)) (fun q h => hA q (Nat.le_trans hS.1 h)) (fun r u t H1 locs1 ht hvm hw hB hz1 hk1 hS1 => ?_)
  subst hw
  exact kk H1 locs1 (nw_keep hP hk1) hS1
/-- a static call that writes blocks in place: an int comes -/
theorem cTw (L : BL) (ok : okB L) (S : CallFix p m c cc nL s args Ts own) (hM : CtI l D cI cN y wy rm 0 0 As (selO L) H.size r0 (selN L)) (cw : CallB R s args own index y bytes maxL ret wy rm 0 0 n ∧ (Cond.static y).before args s = true) (hK : KN D cI cN s) (hP : va_P D vwCl (oldB L) H) (hD : va_D A0 (oldB L)) (hS : va_S A0 H0 H locs) (hA : ∀ q, H0.size ≤ q → A0 q)
    (hn : As.length = n) (hsz : ls.size = nL) (hst : st0 = As.reverse ++ rest) (hroom : (rest.map fun v => v.category).sum ≤ 8) (hdg : decode cc pc = .ok (.invokestatic index, 3)) (hf : cells ≤ R.cells ∧ slots ≤ R.slots)
    (kk : ∀ (H1 : Heap) (locs1 : List Loc), va_P D vwCl (newB L) H1 → va_D A0 (newB L) → va_S A0 H0 H1 locs1 → W p l e R s m args below meth c H1 locs1 cells slots Q (F0 m (pc + 3) ls (.int r0 :: rest))) : W p l e R s m args below meth c H locs cells slots Q (F0 m pc ls st0) := by
  have hPc := P_sel L hP
  have hDc : va_D (fun _ => True) (selO L) := (D_sel L hD).weaken (fun _ _ _ _ => trivial)
  have hFc := free_bl L hD hS hA
  refine va_calli (va_runS (As := As) (rest := rest) S hM cw ⟨blW, fun U hU hW => ⟨rfl, by rw [hU], by rw [hU]; exact hPc, hK.warm hW, hDc⟩⟩ rfl hn hsz hst (lv_room hroom) hdg hf) hS (fun q _ h => hFc q h) hFc (fun r u t H1 locs1 ht hvm hw hB hz1 hk1 hS1 => ?_)
  subst hw
  obtain ⟨hP1, hD1⟩ := hB
  rw [ht] at hP1
  obtain ⟨h1, h2⟩ := back_bl L ok hP hD hk1 hP1
  exact kk H1 locs1 h1 h2 hS1
/-- a static call that reads the script -/
theorem cXi {b L : Nat} {xs : Nat → Int32} {A : Nat → Prop} (S : CallFix p m c cc nL s args Ts own) (hM : Met l y wy rm (va_Pc As (PreX b L xs H.size)) (QPi r0 H.size) 0 0 (nwA H.size)) (cw : CallB R s args own index y bytes maxL ret wy rm 0 0 n ∧ (Cond.static y).before args s = true) (hP : va_P D vwCl ws H) (hS : va_S A s.heap H locs) (hA : ∀ q : Nat, s.heap.size ≤ q → A q) (hX : va_X b L xs s s.heap) (hbl : b < s.heap.size) (hbA : ¬ A b)
    (hn : As.length = n) (hsz : ls.size = nL) (hst : st0 = As.reverse ++ rest) (hroom : (rest.map fun v => v.category).sum ≤ 8) (hdg : decode cc pc = .ok (.invokestatic index, 3)) (hf : cells ≤ R.cells ∧ slots ≤ R.slots)
    (kk : ∀ (H1 : Heap) (locs1 : List Loc), va_P D vwCl ws H1 → va_S A s.heap H1 locs1 → W p l e R s m args below meth c H1 locs1 cells slots Q (F0 m (pc + 3) ls (.int r0 :: rest))) : W p l e R s m args below meth c H locs cells slots Q (F0 m pc ls st0) := by
  refine va_calli (va_runS (As := As) (rest := rest) S hM cw ⟨blX, fun U hU hW => ⟨rfl, by rw [hU], by rw [hU]; exact (hX.kept (hS.2.1 b hbl hbA)).moved hW.alike, Nat.lt_of_lt_of_le hbl hS.1⟩⟩ rfl hn hsz hst (lv_room hroom) hdg hf) hS (fun q _ h => hA q (Nat.le_trans hS.1 h)) (fun q h => hA q (Nat.le_trans hS.1 h)) (fun r u t H1 locs1 ht hvm hw hB hz1 hk1 hS1 => ?_)
  subst hw
  exact kk H1 locs1 (nw_keep hP hk1) hS1
end LC
def fL_cell (xs : Nat → Int32) (L : Nat) (x1 : Int32) : Option Int32 :=
  if Int32.ofNat L ≤ x1 then some ((1812433253 : Int32) * (x1 + (17 : Int32)))
  else if inb x1 L = true then some (xs x1.toNatClampNeg) else none
abbrev rm_L_cell : Room := { frames := 0, cells := 0, slots := 0, locals := 0 }
theorem c_L_cell (l : Launch) (b L sz : Nat) (xs : Nat → Int32) (x1 r0 : Int32) (hf : fL_cell xs L x1 = some r0) : Met l yL_cell wsL_cell rm_L_cell (va_Pc [.ref b, .int x1] (PreX b L xs sz)) (QPi r0 sz) 0 0 (nwA sz) := by
  refine mX (cc := cL_cell) (maxL := 2) (by decide) rfl rfl (Nat.le_of_ble_eq_true rfl) ?_
  intro p e s m args below meth c Q S hX hbl hS hret ls hl
  obtain ⟨hx, hb, hml, hown, hts⟩ := id S
  have hl : lv_has ls 2 [(0, .ref b), (1, .int x1)] := hl
  have hbA : ¬ nwA s.heap.size b := Nat.not_le.mpr hbl
  unfold fL_cell at hf
  refine lv_iload_n hx hb dL_cell_0 rfl (lv_at hl 1 rfl) ?_
  refine lv_aload_n hx hb dL_cell_1 rfl (lv_at hl 0 rfl) ?_
  refine va_slen hx hb hX hbl hbA hS dL_cell_2 ?_
  refine lv_icmp_ge (tgt := 12) hx hb dL_cell_3 (by decide) (fun c1 => ?_) (fun c1 => ?_)
  · rw [if_pos c1] at hf
    have e0 := Option.some.inj hf
    refine lv_ldc (v := (1812433253 : Int32)) hx hb hown (hts (.constant RL 7 (1812433253)) (List.mem_of_getElem? (i := 1) rfl)) dL_cell_12 ?_
    refine lv_iload_n hx hb dL_cell_14 rfl (lv_at hl 1 rfl) ?_
    refine lv_bipush (v := (17 : Int32)) hx hb dL_cell_15 kc_bipush_17 ?_
    refine lv_iadd hx hb dL_cell_17 ?_
    refine lv_imul hx hb dL_cell_18 ?_
    rw [e0]
    exact hret _ _ ls _ dL_cell_19 hS
  · rw [if_neg c1] at hf
    obtain ⟨c2, hf⟩ := it_g hf
    have e0 := Option.some.inj hf
    refine lv_aload_n hx hb dL_cell_6 rfl (lv_at hl 0 rfl) ?_
    refine lv_iload_n hx hb dL_cell_7 rfl (lv_at hl 1 rfl) ?_
    refine va_sld hx hb hX hbl hbA hS (inb_in c2) dL_cell_8 ?_
    refine lv_goto (tgt := 19) hx hb dL_cell_9 (by decide) ?_
    rw [e0]
    exact hret _ _ ls _ dL_cell_19 hS
theorem nb_bool {x : Int32} (h : x = (0 : Int32) ∨ x = (1 : Int32)) : narrow .boolean (.int x) = .int x := by
  rcases h with rfl | rfl <;> rfl
