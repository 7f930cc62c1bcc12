/-! constructors: new cells come, their addresses with them -/
def PreN (D : va_G) (cI cN : ClassId) (ws : va_W) (sz : Nat) (U : State) : Prop := PreW D cI cN ws sz U ∧ va_AO RX1 U
abbrev CtN (l : Launch) (D : va_G) (cI cN : ClassId) (y : MethodName) (wy : List Cond) (rm : Room) (mc ms : Nat) (S : Type) (av : List Value) (wc : va_W) (sz : Nat) (pp : S → Prop) (w1 : S → va_W) : Prop := Met l y wy rm (va_Pc av (PreN D cI cN wc sz)) (va_Qv (fun (u : S) => pp u) (fun u t => PostW D (w1 u) (va_A wc sz) t) (va_A wc sz)) mc ms (va_A wc sz)
theorem blN {av : List Value} {D : va_G} {cI cN : ClassId} {ws : va_W} {sz : Nat} : FrameBlind (va_Pc av (PreN D cI cN ws sz)) := fun a U g mk q => by
  obtain ⟨q0, ⟨q1, qP, qK, qD⟩, qA⟩ := q
  exact ⟨q0, ⟨q1, qP, KN.same (s := U) (U := U.calling g mk a) rfl qK, qD⟩, va_AO.moved (u := U) (U := U.calling g mk a) (Vm.Alike.refl U.vm) qA⟩
theorem mN {l : Launch} {D : va_G} {cI cN : ClassId} {y : MethodName} {wy wy' : List Cond} {rm : Room} {av : List Value} {wc : va_W} {sz mc ms : Nat} {cc : ByteArray} {maxL : Nat} {S : Type} {pp : S → Prop} {w1 : S → va_W} (hy : plainName y.cls = true) (hw : wy = Cond.code y cc maxL none :: wy') (hlen : (lg_sl av).length ≤ maxL)
    (body : ∀ (p : Program) (e : Env) (s : State) (m : MethodId) (args : Array Value) (below : List Frame) (meth : Method) (c : Code) (Q : State → Prop) (A : Nat → Prop), CallFix p m c cc maxL s args wy y.cls → meth.name = y.name → KN D cI cN s → va_AO RX1 s → va_P D vwCl wc s.heap → va_D A wc → va_S A s.heap s.heap [] → (∀ q : Nat, s.heap.size ≤ q → A q) →
      (∀ (u : S) (H : Heap) (locs : List Loc) (ls : Array Slot) (pc : Nat), pp u → decode cc pc = .ok (.return_, 1) → va_P D vwCl (w1 u) H → va_D A (w1 u) → va_S A s.heap H locs → W p l e (headSpec wy rm).room s m args below meth c H locs mc ms Q (F0 m pc ls [])) →
      ∀ ls : Array Slot, lv_has ls maxL (lv_args 0 av) → W p l e (headSpec wy rm).room s m args below meth c s.heap [] 0 0 Q (F0 m 0 ls [])) : CtN l D cI cN y wy rm mc ms S av wc sz pp w1 := by
  refine Met.ofW (cc := cc) (maxL := maxL) (ret := none) hy hw ?_
  intro p e s m args below meth c s₁ B hml hv
  obtain ⟨rfl, ⟨hsz, hP, hK, hD0⟩, hO⟩ := hv
  have hlocks := B.notSynchronized
  subst hsz
  rw [lg_entry_eq]
  refine body p e s m _ below meth c _ (va_A wc s.heap.size) ⟨B.exec, B.bytes, hml, findClass_of_methodNamed B.named, atoms_spec (ws := wy) B.pre⟩ (name_of_methodNamed B.named B.method).1 hK hO hP hD0.self va_S.rf (fun q h => Or.inr h) ?_ _ (lv_entry av hlen)
  intro u H locs ls pc hpp hdg hP1 hD1 hS
  exact W.vret B.exec B.bytes B.returns (fun t ht _ => ⟨⟨u, rfl, hpp, by rw [ht]; exact hP1, hD1⟩, hS.F ht⟩) hS.2.2 hdg
theorem back_new {D : va_G} {A0 : Nat → Prop} {pre wc w1 : va_W} {H H1 : Heap} (hP : va_P D vwCl (pre ++ wc) H) (hD : va_D A0 (pre ++ wc)) (hk : ∀ q : Nat, q < H.size → ¬ va_A wc H.size q → H1[q]? = H[q]?) (hF : ∀ q, va_A wc H.size q → A0 q) (hP1 : va_P D vwCl w1 H1) (hD1 : va_D (va_A wc H.size) w1) : va_P D vwCl (pre ++ w1) H1 ∧ va_D A0 (pre ++ w1) := by
  have hPp : va_P D vwCl pre H := by
    rw [P_mem] at hP ⊢
    exact fun q hq => hP q (List.mem_append_left _ hq)
  have hDn := D_nodup.mp hD
  have hDp : va_D A0 pre := by
    rw [D_nodup]
    refine ⟨hDn.1.sublist (by rw [List.map_append]; exact List.sublist_append_left _ _), fun q hq => hDn.2 q (List.mem_append_left _ hq)⟩
  have apart : ∀ q ∈ pre, q.1 < H.size ∧ ¬ va_A wc H.size q.1 := by
    intro q hq
    have hl := ((P_mem.mp hPp) q hq).lt
    refine ⟨hl, fun h => ?_⟩
    rcases h with ⟨k, e, h⟩ | h
    · have hm : (q.1, e) ∈ wc := List.mem_of_getElem? h
      have hn := hDn.1
      rw [List.map_append] at hn
      have := (List.nodup_append.mp hn).2.2 q.1 (List.mem_map.mpr ⟨q, hq, rfl⟩) q.1 (List.mem_map.mpr ⟨(q.1, e), hm, rfl⟩)
      exact this rfl
    · omega
  refine ⟨?_, hDp.app (hD1.weaken (fun k q _ h => hF q.1 h)) (fun i j x y hx hy hxy => ?_)⟩
  · rw [P_mem] at hP1 ⊢
    intro q hq
    rcases List.mem_append.mp hq with hq | hq
    · exact ((P_mem.mp hPp) q hq).kept (hk q.1 (apart q hq).1 (apart q hq).2)
    · exact hP1 q hq
  · exact (apart x (List.mem_of_getElem? hx)).2 (by rw [hxy]; exact hD1.2 j y hy)
theorem tail_sub {A0 : Nat → Prop} {pre wc : va_W} (hD : va_D A0 (pre ++ wc)) : va_D A0 wc := by
  rw [D_nodup] at hD ⊢
  exact ⟨hD.1.sublist (by rw [List.map_append]; exact List.sublist_append_right _ _), fun q hq => hD.2 q (List.mem_append_right _ hq)⟩
theorem tail_P {D : va_G} {cl : List vw_C} {pre wc : va_W} {H : Heap} (hP : va_P D cl (pre ++ wc) H) : va_P D cl wc H := by
  rw [P_mem] at hP ⊢
  exact fun q hq => hP q (List.mem_append_right _ hq)
section HN
variable {p : Program} {l : Launch} {e : Env} {R : Room} {s : State} {m : MethodId} {args : Array Value} {below : List Frame} {meth : Method} {c : Code} {H : Heap} {locs : List Loc} {cells slots : Nat} {Q : State → Prop}
variable {pc : Nat} {ls : Array Slot} {rest st0 As : List Value} {A0 : Nat → Prop} {H0 : Heap} {mc ms nL index n maxL : Nat} {D : va_G} {cI cN : ClassId} {cc bytes : ByteArray} {y : MethodName} {wy Ts : List Cond} {rm : Room} {own C : String} {b : Nat} {pre wc : va_W} {S0 : Type} {pp : S0 → Prop} {w1 : S0 → va_W}
/-- a constructor's call on the newest object -/
theorem cIx (S : CallFix p m c cc nL s args Ts own) (hM : CtN l D cI cN y wy rm mc ms S0 (.ref b :: As) wc H.size pp w1) (cw : CallB R s args own index y bytes maxL none wy rm mc ms n ∧ y.name = "<init>" ∧ (Cond.instanceMethod y).before args s = true) (hK : KN D cI cN s) (hO : va_AO RX1 s) (hP : va_P D vwCl (pre ++ wc) H) (hD : va_D A0 (pre ++ wc)) (hS : va_S A0 H0 H locs) (hA : ∀ q, H0.size ≤ q → A0 q)
    (hn : As.length = n) (hsz : ls.size = nL) (hst : st0 = As.reverse ++ .ref b :: rest) (hroom : (rest.map fun v => v.category).sum ≤ 8) (hdg : decode cc pc = .ok (.invokespecial index, 3)) (hf : cells + mc ≤ R.cells ∧ slots + ms ≤ R.slots)
    (kk : ∀ (u : S0) (H1 : Heap) (locs1 : List Loc), pp u → va_P D vwCl (pre ++ w1 u) H1 → va_D A0 (pre ++ w1 u) → va_S A0 H0 H1 locs1 → W p l e R s m args below meth c H1 locs1 (cells + mc) (slots + ms) Q (F0 m (pc + 3) ls rest)) : W p l e R s m args below meth c H locs cells slots Q (F0 m pc ls st0) := by
  have hPc := tail_P hP
  have hDt := tail_sub hD
  have hDc : va_D (fun _ => True) wc := hDt.weaken (fun _ _ _ _ => trivial)
  have hFc : ∀ q, va_A wc H.size q → A0 q := by
    intro q h
    rcases h with ⟨k, e, h⟩ | h
    · exact hDt.2 k _ h
    · exact hA q (Nat.le_trans hS.1 h)
  refine va_callv (va_runI (As := As) (rest := rest) S hM cw ⟨blN, fun U hU hW => ⟨rfl, ⟨by rw [hU], by rw [hU]; exact hPc, hK.warm hW, hDc⟩, hO.moved hW.alike⟩⟩ rfl hn hsz hst (lv_room hroom) hdg hf) hS (fun q _ h => hFc q h) hFc (fun u t H1 locs1 ht hvm hw hB hz1 hk1 hS1 => ?_)
  obtain ⟨hP1, hD1⟩ := hB
  rw [ht] at hP1
  obtain ⟨h1, h2⟩ := back_new hP hD hk1 hFc hP1 hD1
  exact kk u H1 locs1 hw h1 h2 hS1
end HN
section HGF
variable {p : Program} {l : Launch} {e : Env} {R : Room} {s : State} {m : MethodId} {args : Array Value} {below : List Frame} {meth : Method} {c : Code} {H : Heap} {locs : List Loc} {cells slots : Nat} {Q : State → Prop}
variable {cc : ByteArray} {pc : Nat} {ls : Array Slot} {rest : List Value} {D : va_G} {cl : List vw_C} {A : Nat → Prop} {a : Nat} {tys : List (ClassId × FieldType)} {ws wf : va_W} {H0 : Heap}
theorem gputF (hexec : p.tables.exec = Jvm.exec) (hb : c.code = cc) {own ref C : String} {T : u_T} {N ci index : Nat} {Ts : List Cond} (hts : ∀ w ∈ Ts, w.before args s = true) (hin : ∀ w ∈ u_ws C T N, w ∈ Ts) (ty0 : Nat → FieldType) (hty : ∀ k, k < N → parseFieldDescriptor (T k).2.2.1 = some (ty0 k)) (hnm : ∀ a, a < N → ∀ b, b < N → a ≠ b → (T a).2.1 ≠ (T b).2.1) (hown : s.vm.findClass own = some m.cls) (hK : va_K D cl tys s) (hP : va_P D cl ws H) (hD : va_D A ws) (hS0 : va_S A H0 H locs) (q0 : Nat) {fs : List Value} (he : ws[q0]? = some (a, .inr (ci, fs))) (hc : cl[ci]? = some (C, T, N)) (k : Nat) (hk : k < N) (hlink : (Cond.fieldLink own index ref (T k).2.1 (T k).2.2.1).before args s = true) (hsame : ∀ x, s.fieldFound? (T k).1 (T k).2.1 (T k).2.2.1 = some x → s.fieldFound? ref (T k).2.1 (T k).2.2.1 = some x) (hfin : (T k).2.2.2 = true) (hin2 : meth.name = "<init>") (hdecl : (T k).1 = own) {ty : FieldType} {v : Value} (hd : parseFieldDescriptor (T k).2.2.1 = some ty) (hn : narrow ty v = v) (hfit : fits ty v = true) (hl : k < fs.length)
    (hdg : decode cc pc = .ok (.putfield index, 3)) (hwf : ws.set q0 (a, .inr (ci, fs.set k v)) = wf) (kk : ∀ (H1 : Heap) (locs1 : List Loc), va_P D cl wf H1 → va_D A wf → va_S A H0 H1 locs1 → W p l e R s m args below meth c H1 locs1 cells slots Q (F0 m (pc + 3) ls rest)) : W p l e R s m args below meth c H locs cells slots Q (F0 m pc ls (v :: .ref a :: rest)) := by
  subst hwf
  exact va_putF hexec hb hts hin ty0 hty hnm hown hK hP hD hS0 q0 he hc k hk hlink hsame hfin hin2 hdecl hd hn hfit hl hdg kk
end HGF
theorem cA_int {D : va_G} {cl : List vw_C} {s : State} {cI cA : ClassId} {tys : List (ClassId × FieldType)} (h1 : va_K D cl ((cI, .int) :: tys) s) (h2 : va_K D cl (((cI, .int) :: tys) ++ [(cA, .int)]) s) : cA = cI := by
  have a1 := (h1.2 0 _ rfl).2
  have a2 := (h2.2 (tys.length + 1) (cA, .int) (by simp)).2
  exact Option.some.inj (a2.symm.trans a1)
theorem cA_net {D : va_G} {cl : List vw_C} {s : State} {cI cN cA : ClassId} (h1 : va_K D cl [(cI, .int), (cN, .object RX1)] s) (h2 : va_K D cl [(cI, .int), (cN, .object RX1), (cA, .object RX1)] s) : cA = cN := by
  obtain ⟨_, _, _, _, _, a1⟩ := (h1.2 1 _ rfl).2
  obtain ⟨_, _, _, _, _, a2⟩ := (h2.2 2 _ rfl).2
  exact Option.some.inj (a2.symm.trans a1)
