theorem P_ceq {D : va_G} {cl : List vw_C} {ws : va_W} {H : Heap} (h : va_P D cl ws H) {k b n : Nat} {cA : ClassId} {f g : Nat → Option Nat} (hk : ws[k]? = some (b, .inl (cA, n, .inr (.inr (.inr (.inr f)))))) (hfg : ∀ j, j < n → f j = g j) : va_P D cl (ws.set k (b, .inl (cA, n, .inr (.inr (.inr (.inr g)))))) H := by
  intro i q hq
  have hl := (List.getElem?_eq_some_iff.mp hk).1
  by_cases hi : i = k
  · subst hi
    rw [List.getElem?_set_self hl] at hq
    cases hq
    show H[b]? = some (vp_cell _ _)
    have e : vp_cell cA (n, .inr (.inr (.inr (.inr f)))) = vp_cell cA (n, .inr (.inr (.inr (.inr g)))) := by
      rw [vp_cell_q, vp_cell_q]
      unfold arrV
      congr 1
      apply Array.ext
      · simp
      · intro i h1 h2
        simp only [Array.getElem_ofFn]
        rw [hfg i (by simpa using h1)]
    rw [← e]
    exact h i _ hk
  · rw [List.getElem?_set_ne (Ne.symm hi)] at hq
    exact h i q hq
section HAQ
variable {p : Program} {l : Launch} {e : Env} {R : Room} {s : State} {m : MethodId} {args : Array Value} {below : List Frame} {meth : Method} {c : Code} {H : Heap} {locs : List Loc} {cells slots : Nat} {Q : State → Prop}
variable {cc : ByteArray} {pc : Nat} {ls : Array Slot} {rest : List Value} {D : va_G} {cl : List vw_C} {A : Nat → Prop} {a : Nat} {tys : List (ClassId × FieldType)} {ws wf : va_W} {H0 : Heap}
theorem gastq (hexec : p.tables.exec = Jvm.exec) (hb : c.code = cc) (hK : va_K D cl tys s) (hP : va_P D cl ws H) (hD : va_D A ws) (hS : va_S A H0 H locs) (q0 t0 qk ci : Nat) {cA : ClassId} {r : vw_C} {n v : Nat} {vs : List Value} {f : Nat → Option Nat} (ha : ws[q0]? = some (a, .inl (cA, n, .inr (.inr (.inr (.inr f)))))) (ht : tys[t0]? = some (cA, .object r.1)) (hv : ws[qk]? = some (v, .inr (ci, vs))) (hc : cl[ci]? = some r) {i : Int32} (hin : vp_in i n) (hdg : decode cc pc = .ok (.aastore, 1)) (hwf : ws.set q0 (a, .inl (cA, n, .inr (.inr (.inr (.inr (va_up f i.toNatClampNeg (some v))))))) = wf)
    (kk : ∀ (H1 : Heap) (locs1 : List Loc), va_P D cl wf H1 → va_D A wf → va_S A H0 H1 locs1 → W p l e R s m args below meth c H1 locs1 cells slots Q (F0 m (pc + 1) ls rest)) : W p l e R s m args below meth c H locs cells slots Q (F0 m pc ls (.ref v :: .int i :: .ref a :: rest)) := by
  subst hwf
  exact va_astq hexec hb hK hP hD hS q0 t0 qk ci ha ht hv hc hin hdg kk
end HAQ
/-- the order of a world's blocks plays no part -/
theorem P_mono {D : va_G} {cl : List vw_C} {ws ws' : va_W} {H : Heap} (h : va_P D cl ws H) (hs : ∀ q, q ∈ ws' → q ∈ ws) : va_P D cl ws' H := by
  rw [P_mem] at h ⊢
  exact fun q hq => h q (hs q hq)
theorem D_perm {A : Nat → Prop} {ws ws' : va_W} (h : va_D A ws) (hs : ∀ q, q ∈ ws' → q ∈ ws) (hc : ∀ a, List.count a (ws'.map Prod.fst) = List.count a (ws.map Prod.fst)) : va_D A ws' := by
  rw [D_nodup] at h ⊢
  exact ⟨(List.perm_iff_count.mpr hc).symm.nodup h.1, fun q hq => h.2 q (hs q hq)⟩
def his0 : HS := (fun _ => (0 : Int32), fun _ => net0)
abbrev rm_X0_init : Room := { frames := 3, cells := 53, slots := 1372, locals := 72 }
set_option maxRecDepth 100000 in
set_option maxHeartbeats 4000000 in
theorem c_X0_init (l : Launch) (D : va_G) (cI cN : ClassId) (h0 : Nat) (sz : Nat) : CtN l D cI cN yX0_init wsX0_init rm_X0_init 53 1372 ((Nat → Nat) × (Nat → Nat → Nat)) [.ref h0] [(h0, .inr (0, [.null, .int 0, .int 0]))] sz (fun z => z.1 0 = h0) (fun z => hiW cI cN z.1 z.2 his0) := by
  refine mN (cc := cX0_init) (maxL := 2) (by decide) rfl (Nat.le_of_ble_eq_true rfl) ?_
  intro p e s m args below meth c Q A S hname hK hO hP hD hS hA hret ls hl
  obtain ⟨hx, hb, hml, hown, hts⟩ := id S
  have hl : lv_has ls 2 [(0, .ref h0)] := hl
  have inX0 := in_X0_init_X0
  have inX1 := in_X0_init_X1
  refine lv_aload_n hx hb dX0_init_0 rfl (lv_at hl 0 rfl) ?_
  refine W.objInit hx hb hown (hts (.methodLink RX0 3 objectInit) (List.mem_of_getElem? (i := 1) rfl)) (hts (.instanceMethod objectInit) (List.mem_of_getElem? (i := 2) rfl)) (hts _ (List.mem_of_getElem? (i := 3) rfl)) rfl (by rw [hml]; exact hl.1) rfl dX0_init_1 (Nat.le_of_ble_eq_true rfl) (Nat.le_of_ble_eq_true rfl) ?_
  refine W.eq (g2 := F0 m 4 ls []) rfl ?_
  refine lv_aload_n hx hb dX0_init_4 rfl (lv_at hl 0 rfl) ?_
  refine lv_iconst (v := (4 : Int32)) hx hb dX0_init_5 kc_iconst_4 ?_
  refine va_newq (C := RX1) (N' := 4) hx hb hown (hts (.classLink RX0 9 RX1) (List.mem_of_getElem? (i := 4) rfl)) hO hK.1 hP hD hS hA (by decide) (by decide) (by decide) (Nat.le_of_ble_eq_true rfl) (Nat.le_of_ble_eq_true rfl) dX0_init_6 (fun ar cA H hK2 hP hD hS => ?_)
  have ecA := (cA_net hK.1 hK2).symm
  subst ecA
  refine W.widen (k := 1) (n := 4) (Nat.le_of_ble_eq_true rfl) (Nat.le_of_ble_eq_true rfl) ?_
  refine gputF (D := D) (ci := 0) (v := .ref ar) (ty := .array (.object "ClosExchange$Network")) (C := RX0) (T := TX0) (N := 3) (wf := ([(h0, .inr (0, [.ref ar, .int 0, .int 0]))] ++ [(ar, .inl (cN, 4, .inr (.inr (.inr (.inr (fun _ => none))))))])) hx hb hts inX0 tyX0 tyX0_ok nmX0 hown hK.1 hP hD hS 0 rfl rfl 0 (by decide) (hts (.fieldLink RX0 11 "ClosExchange$History" "states" "[LClosExchange$Network;") (List.mem_of_getElem? (i := 5) rfl)) (fun _ h9 => h9) rfl hname rfl (by decide +kernel) rfl rfl (Nat.le_of_ble_eq_true rfl) dX0_init_9 rfl (fun H locs hP hD hS => ?_)
  refine lv_iconst (v := (0 : Int32)) hx hb dX0_init_12 kc_iconst_0 ?_
  refine lv_istore_n (lv' := [(1, .int (0 : Int32)), (0, .ref h0)]) hx hb dX0_init_13 rfl hl (by decide) rfl (fun ls hl => ?_)
  refine lv_iload_n hx hb dX0_init_14 rfl (lv_at hl 0 rfl) ?_
  refine lv_aload_n hx hb dX0_init_15 rfl (lv_at hl 1 rfl) ?_
  refine va_get (D := D) (ci := 0) (v := .ref ar) (C := RX0) (T := TX0) (N := 3) hx hb hts inX0 hown hK.1 hP 0 rfl rfl 0 (by decide) (hts (.fieldLink RX0 11 "ClosExchange$History" "states" "[LClosExchange$Network;") (List.mem_of_getElem? (i := 5) rfl)) (fun _ h9 => h9) rfl dX0_init_16 ?_
  refine va_alen (v := (4 : Int32)) hx hb hK.1 hP 1 1 rfl rfl rfl dX0_init_19 ?_
  refine lv_icmp_ge (tgt := 42) hx hb dX0_init_20 (by decide) (fun c9 => absurd c9 (by decide)) (fun c9 => ?_)
  refine lv_aload_n hx hb dX0_init_23 rfl (lv_at hl 1 rfl) ?_
  refine va_get (D := D) (ci := 0) (v := .ref ar) (C := RX0) (T := TX0) (N := 3) hx hb hts inX0 hown hK.1 hP 0 rfl rfl 0 (by decide) (hts (.fieldLink RX0 11 "ClosExchange$History" "states" "[LClosExchange$Network;") (List.mem_of_getElem? (i := 5) rfl)) (fun _ h9 => h9) rfl dX0_init_24 ?_
  refine lv_iload_n hx hb dX0_init_27 rfl (lv_at hl 0 rfl) ?_
  refine va_new (ci := 1) (fs := [.int 0, .int 0, .int 0, .int 0, .int 0, .int 0, .int 0, .int 0, .int 0, .int 0, .null, .null, .null, .null, .null, .null]) (C := RX1) (T := TX1) (N := 16) hx hb hts inX1 tyX1 tyX1_ok hown (hts (.classLink RX0 9 RX1) (List.mem_of_getElem? (i := 4) rfl)) (hts (.instantiable RX1 16) (List.mem_of_getElem? (i := 6) rfl)) (hts (.initialized RX1) (List.mem_of_getElem? (i := 7) rfl)) hK.1 hP hD hS hA rfl (fun j hj => by exact dflt_X1 j hj) (Nat.le_of_ble_eq_true rfl) (Nat.le_of_ble_eq_true rfl) dX0_init_28 (fun q1 H hP hD hS => ?_)
  refine W.widen (k := 2) (n := 20) (Nat.le_of_ble_eq_true rfl) (Nat.le_of_ble_eq_true rfl) ?_
  refine lv_dup hx hb dX0_init_31 rfl ?_
  refine cIx (pre := ([(h0, .inr (0, [.ref ar, .int 0, .int 0]))] ++ [(ar, .inl (cN, 4, .inr (.inr (.inr (.inr (fun _ => none))))))])) (As := []) (rest := [.ref q1, .int (0 : Int32), .ref ar]) S (c_X1_init l D cI cN q1 _) (cwI 0 hts gX0_init_X1_init rfl rfl rfl (hts (.initialized RX1) (List.mem_of_getElem? (i := 7) rfl)) (hts (.methodLink RX0 17 yX1_init) (List.mem_of_getElem? (i := 8) rfl)) (hts (.instanceMethod yX1_init) (List.mem_of_getElem? (i := 9) rfl)) rfl (by decide +kernel) ⟨Nat.le_of_ble_eq_true rfl, Nat.le_of_ble_eq_true rfl⟩) hK hO hP hD hS hA rfl hl.1 rfl (Nat.le_of_ble_eq_true rfl) dX0_init_32 ⟨Nat.le_of_ble_eq_true rfl, Nat.le_of_ble_eq_true rfl⟩ (fun u0 H locs hpp hP hD hS => ?_)
  refine W.widen (k := 14) (n := 346) (Nat.le_of_ble_eq_true rfl) (Nat.le_of_ble_eq_true rfl) ?_
  rw [← hpp]
  refine gastq (wf := (([(h0, .inr (0, [.ref ar, .int 0, .int 0]))] ++ [(ar, .inl (cN, 4, .inr (.inr (.inr (.inr (va_up (fun _ => none) ((0 : Int32)).toNatClampNeg (some (u0 0))))))))]) ++ (nwW cI u0 net0))) hx hb hK.1 hP hD hS 1 1 2 1 rfl rfl rfl rfl (show vp_in (0 : Int32) 4 from vp_in_nI (n := 0) (by decide) (by decide)) dX0_init_35 rfl (fun H locs hP hD hS => ?_)
  refine lv_iinc (v := (1 : Int32)) (lv' := [(1, .int (1 : Int32)), (0, .ref h0)]) hx hb dX0_init_36 hl (k := 0) rfl (by decide) (by decide) rfl (fun ls hl => ?_)
  refine lv_goto (tgt := 14) hx hb dX0_init_39 (by decide) ?_
  refine lv_iload_n hx hb dX0_init_14 rfl (lv_at hl 0 rfl) ?_
  refine lv_aload_n hx hb dX0_init_15 rfl (lv_at hl 1 rfl) ?_
  refine va_get (D := D) (ci := 0) (v := .ref ar) (C := RX0) (T := TX0) (N := 3) hx hb hts inX0 hown hK.1 hP 0 rfl rfl 0 (by decide) (hts (.fieldLink RX0 11 "ClosExchange$History" "states" "[LClosExchange$Network;") (List.mem_of_getElem? (i := 5) rfl)) (fun _ h9 => h9) rfl dX0_init_16 ?_
  refine va_alen (v := (4 : Int32)) hx hb hK.1 hP 1 1 rfl rfl rfl dX0_init_19 ?_
  refine lv_icmp_ge (tgt := 42) hx hb dX0_init_20 (by decide) (fun c9 => absurd c9 (by decide)) (fun c9 => ?_)
  refine lv_aload_n hx hb dX0_init_23 rfl (lv_at hl 1 rfl) ?_
  refine va_get (D := D) (ci := 0) (v := .ref ar) (C := RX0) (T := TX0) (N := 3) hx hb hts inX0 hown hK.1 hP 0 rfl rfl 0 (by decide) (hts (.fieldLink RX0 11 "ClosExchange$History" "states" "[LClosExchange$Network;") (List.mem_of_getElem? (i := 5) rfl)) (fun _ h9 => h9) rfl dX0_init_24 ?_
  refine lv_iload_n hx hb dX0_init_27 rfl (lv_at hl 0 rfl) ?_
  refine va_new (ci := 1) (fs := [.int 0, .int 0, .int 0, .int 0, .int 0, .int 0, .int 0, .int 0, .int 0, .int 0, .null, .null, .null, .null, .null, .null]) (C := RX1) (T := TX1) (N := 16) hx hb hts inX1 tyX1 tyX1_ok hown (hts (.classLink RX0 9 RX1) (List.mem_of_getElem? (i := 4) rfl)) (hts (.instantiable RX1 16) (List.mem_of_getElem? (i := 6) rfl)) (hts (.initialized RX1) (List.mem_of_getElem? (i := 7) rfl)) hK.1 hP hD hS hA rfl (fun j hj => by exact dflt_X1 j hj) (Nat.le_of_ble_eq_true rfl) (Nat.le_of_ble_eq_true rfl) dX0_init_28 (fun q2 H hP hD hS => ?_)
  refine W.widen (k := 15) (n := 362) (Nat.le_of_ble_eq_true rfl) (Nat.le_of_ble_eq_true rfl) ?_
  refine lv_dup hx hb dX0_init_31 rfl ?_
  refine cIx (pre := (([(h0, .inr (0, [.ref ar, .int 0, .int 0]))] ++ [(ar, .inl (cN, 4, .inr (.inr (.inr (.inr (va_up (fun _ => none) ((0 : Int32)).toNatClampNeg (some (u0 0))))))))]) ++ (nwW cI u0 net0))) (As := []) (rest := [.ref q2, .int (1 : Int32), .ref ar]) S (c_X1_init l D cI cN q2 _) (cwI 0 hts gX0_init_X1_init rfl rfl rfl (hts (.initialized RX1) (List.mem_of_getElem? (i := 7) rfl)) (hts (.methodLink RX0 17 yX1_init) (List.mem_of_getElem? (i := 8) rfl)) (hts (.instanceMethod yX1_init) (List.mem_of_getElem? (i := 9) rfl)) rfl (by decide +kernel) ⟨Nat.le_of_ble_eq_true rfl, Nat.le_of_ble_eq_true rfl⟩) hK hO hP hD hS hA rfl hl.1 rfl (Nat.le_of_ble_eq_true rfl) dX0_init_32 ⟨Nat.le_of_ble_eq_true rfl, Nat.le_of_ble_eq_true rfl⟩ (fun u1 H locs hpp hP hD hS => ?_)
  refine W.widen (k := 27) (n := 688) (Nat.le_of_ble_eq_true rfl) (Nat.le_of_ble_eq_true rfl) ?_
  rw [← hpp]
  refine gastq (wf := ((([(h0, .inr (0, [.ref ar, .int 0, .int 0]))] ++ [(ar, .inl (cN, 4, .inr (.inr (.inr (.inr (va_up (va_up (fun _ => none) ((0 : Int32)).toNatClampNeg (some (u0 0))) ((1 : Int32)).toNatClampNeg (some (u1 0))))))))]) ++ (nwW cI u0 net0)) ++ (nwW cI u1 net0))) hx hb hK.1 hP hD hS 1 1 15 1 rfl rfl rfl rfl (show vp_in (1 : Int32) 4 from vp_in_nI (n := 1) (by decide) (by decide)) dX0_init_35 rfl (fun H locs hP hD hS => ?_)
  refine lv_iinc (v := (2 : Int32)) (lv' := [(1, .int (2 : Int32)), (0, .ref h0)]) hx hb dX0_init_36 hl (k := 0) rfl (by decide) (by decide) rfl (fun ls hl => ?_)
  refine lv_goto (tgt := 14) hx hb dX0_init_39 (by decide) ?_
  refine lv_iload_n hx hb dX0_init_14 rfl (lv_at hl 0 rfl) ?_
  refine lv_aload_n hx hb dX0_init_15 rfl (lv_at hl 1 rfl) ?_
  refine va_get (D := D) (ci := 0) (v := .ref ar) (C := RX0) (T := TX0) (N := 3) hx hb hts inX0 hown hK.1 hP 0 rfl rfl 0 (by decide) (hts (.fieldLink RX0 11 "ClosExchange$History" "states" "[LClosExchange$Network;") (List.mem_of_getElem? (i := 5) rfl)) (fun _ h9 => h9) rfl dX0_init_16 ?_
  refine va_alen (v := (4 : Int32)) hx hb hK.1 hP 1 1 rfl rfl rfl dX0_init_19 ?_
  refine lv_icmp_ge (tgt := 42) hx hb dX0_init_20 (by decide) (fun c9 => absurd c9 (by decide)) (fun c9 => ?_)
  refine lv_aload_n hx hb dX0_init_23 rfl (lv_at hl 1 rfl) ?_
  refine va_get (D := D) (ci := 0) (v := .ref ar) (C := RX0) (T := TX0) (N := 3) hx hb hts inX0 hown hK.1 hP 0 rfl rfl 0 (by decide) (hts (.fieldLink RX0 11 "ClosExchange$History" "states" "[LClosExchange$Network;") (List.mem_of_getElem? (i := 5) rfl)) (fun _ h9 => h9) rfl dX0_init_24 ?_
  refine lv_iload_n hx hb dX0_init_27 rfl (lv_at hl 0 rfl) ?_
  refine va_new (ci := 1) (fs := [.int 0, .int 0, .int 0, .int 0, .int 0, .int 0, .int 0, .int 0, .int 0, .int 0, .null, .null, .null, .null, .null, .null]) (C := RX1) (T := TX1) (N := 16) hx hb hts inX1 tyX1 tyX1_ok hown (hts (.classLink RX0 9 RX1) (List.mem_of_getElem? (i := 4) rfl)) (hts (.instantiable RX1 16) (List.mem_of_getElem? (i := 6) rfl)) (hts (.initialized RX1) (List.mem_of_getElem? (i := 7) rfl)) hK.1 hP hD hS hA rfl (fun j hj => by exact dflt_X1 j hj) (Nat.le_of_ble_eq_true rfl) (Nat.le_of_ble_eq_true rfl) dX0_init_28 (fun q3 H hP hD hS => ?_)
  refine W.widen (k := 28) (n := 704) (Nat.le_of_ble_eq_true rfl) (Nat.le_of_ble_eq_true rfl) ?_
  refine lv_dup hx hb dX0_init_31 rfl ?_
  refine cIx (pre := ((([(h0, .inr (0, [.ref ar, .int 0, .int 0]))] ++ [(ar, .inl (cN, 4, .inr (.inr (.inr (.inr (va_up (va_up (fun _ => none) ((0 : Int32)).toNatClampNeg (some (u0 0))) ((1 : Int32)).toNatClampNeg (some (u1 0))))))))]) ++ (nwW cI u0 net0)) ++ (nwW cI u1 net0))) (As := []) (rest := [.ref q3, .int (2 : Int32), .ref ar]) S (c_X1_init l D cI cN q3 _) (cwI 0 hts gX0_init_X1_init rfl rfl rfl (hts (.initialized RX1) (List.mem_of_getElem? (i := 7) rfl)) (hts (.methodLink RX0 17 yX1_init) (List.mem_of_getElem? (i := 8) rfl)) (hts (.instanceMethod yX1_init) (List.mem_of_getElem? (i := 9) rfl)) rfl (by decide +kernel) ⟨Nat.le_of_ble_eq_true rfl, Nat.le_of_ble_eq_true rfl⟩) hK hO hP hD hS hA rfl hl.1 rfl (Nat.le_of_ble_eq_true rfl) dX0_init_32 ⟨Nat.le_of_ble_eq_true rfl, Nat.le_of_ble_eq_true rfl⟩ (fun u2 H locs hpp hP hD hS => ?_)
  refine W.widen (k := 40) (n := 1030) (Nat.le_of_ble_eq_true rfl) (Nat.le_of_ble_eq_true rfl) ?_
  rw [← hpp]
  refine gastq (wf := (((([(h0, .inr (0, [.ref ar, .int 0, .int 0]))] ++ [(ar, .inl (cN, 4, .inr (.inr (.inr (.inr (va_up (va_up (va_up (fun _ => none) ((0 : Int32)).toNatClampNeg (some (u0 0))) ((1 : Int32)).toNatClampNeg (some (u1 0))) ((2 : Int32)).toNatClampNeg (some (u2 0))))))))]) ++ (nwW cI u0 net0)) ++ (nwW cI u1 net0)) ++ (nwW cI u2 net0))) hx hb hK.1 hP hD hS 1 1 28 1 rfl rfl rfl rfl (show vp_in (2 : Int32) 4 from vp_in_nI (n := 2) (by decide) (by decide)) dX0_init_35 rfl (fun H locs hP hD hS => ?_)
  refine lv_iinc (v := (3 : Int32)) (lv' := [(1, .int (3 : Int32)), (0, .ref h0)]) hx hb dX0_init_36 hl (k := 0) rfl (by decide) (by decide) rfl (fun ls hl => ?_)
  refine lv_goto (tgt := 14) hx hb dX0_init_39 (by decide) ?_
  refine lv_iload_n hx hb dX0_init_14 rfl (lv_at hl 0 rfl) ?_
  refine lv_aload_n hx hb dX0_init_15 rfl (lv_at hl 1 rfl) ?_
  refine va_get (D := D) (ci := 0) (v := .ref ar) (C := RX0) (T := TX0) (N := 3) hx hb hts inX0 hown hK.1 hP 0 rfl rfl 0 (by decide) (hts (.fieldLink RX0 11 "ClosExchange$History" "states" "[LClosExchange$Network;") (List.mem_of_getElem? (i := 5) rfl)) (fun _ h9 => h9) rfl dX0_init_16 ?_
  refine va_alen (v := (4 : Int32)) hx hb hK.1 hP 1 1 rfl rfl rfl dX0_init_19 ?_
  refine lv_icmp_ge (tgt := 42) hx hb dX0_init_20 (by decide) (fun c9 => absurd c9 (by decide)) (fun c9 => ?_)
  refine lv_aload_n hx hb dX0_init_23 rfl (lv_at hl 1 rfl) ?_
  refine va_get (D := D) (ci := 0) (v := .ref ar) (C := RX0) (T := TX0) (N := 3) hx hb hts inX0 hown hK.1 hP 0 rfl rfl 0 (by decide) (hts (.fieldLink RX0 11 "ClosExchange$History" "states" "[LClosExchange$Network;") (List.mem_of_getElem? (i := 5) rfl)) (fun _ h9 => h9) rfl dX0_init_24 ?_
  refine lv_iload_n hx hb dX0_init_27 rfl (lv_at hl 0 rfl) ?_
  refine va_new (ci := 1) (fs := [.int 0, .int 0, .int 0, .int 0, .int 0, .int 0, .int 0, .int 0, .int 0, .int 0, .null, .null, .null, .null, .null, .null]) (C := RX1) (T := TX1) (N := 16) hx hb hts inX1 tyX1 tyX1_ok hown (hts (.classLink RX0 9 RX1) (List.mem_of_getElem? (i := 4) rfl)) (hts (.instantiable RX1 16) (List.mem_of_getElem? (i := 6) rfl)) (hts (.initialized RX1) (List.mem_of_getElem? (i := 7) rfl)) hK.1 hP hD hS hA rfl (fun j hj => by exact dflt_X1 j hj) (Nat.le_of_ble_eq_true rfl) (Nat.le_of_ble_eq_true rfl) dX0_init_28 (fun q4 H hP hD hS => ?_)
  refine W.widen (k := 41) (n := 1046) (Nat.le_of_ble_eq_true rfl) (Nat.le_of_ble_eq_true rfl) ?_
  refine lv_dup hx hb dX0_init_31 rfl ?_
  refine cIx (pre := (((([(h0, .inr (0, [.ref ar, .int 0, .int 0]))] ++ [(ar, .inl (cN, 4, .inr (.inr (.inr (.inr (va_up (va_up (va_up (fun _ => none) ((0 : Int32)).toNatClampNeg (some (u0 0))) ((1 : Int32)).toNatClampNeg (some (u1 0))) ((2 : Int32)).toNatClampNeg (some (u2 0))))))))]) ++ (nwW cI u0 net0)) ++ (nwW cI u1 net0)) ++ (nwW cI u2 net0))) (As := []) (rest := [.ref q4, .int (3 : Int32), .ref ar]) S (c_X1_init l D cI cN q4 _) (cwI 0 hts gX0_init_X1_init rfl rfl rfl (hts (.initialized RX1) (List.mem_of_getElem? (i := 7) rfl)) (hts (.methodLink RX0 17 yX1_init) (List.mem_of_getElem? (i := 8) rfl)) (hts (.instanceMethod yX1_init) (List.mem_of_getElem? (i := 9) rfl)) rfl (by decide +kernel) ⟨Nat.le_of_ble_eq_true rfl, Nat.le_of_ble_eq_true rfl⟩) hK hO hP hD hS hA rfl hl.1 rfl (Nat.le_of_ble_eq_true rfl) dX0_init_32 ⟨Nat.le_of_ble_eq_true rfl, Nat.le_of_ble_eq_true rfl⟩ (fun u3 H locs hpp hP hD hS => ?_)
  refine W.widen (k := 53) (n := 1372) (Nat.le_of_ble_eq_true rfl) (Nat.le_of_ble_eq_true rfl) ?_
  rw [← hpp]
  refine gastq (wf := ((((([(h0, .inr (0, [.ref ar, .int 0, .int 0]))] ++ [(ar, .inl (cN, 4, .inr (.inr (.inr (.inr (va_up (va_up (va_up (va_up (fun _ => none) ((0 : Int32)).toNatClampNeg (some (u0 0))) ((1 : Int32)).toNatClampNeg (some (u1 0))) ((2 : Int32)).toNatClampNeg (some (u2 0))) ((3 : Int32)).toNatClampNeg (some (u3 0))))))))]) ++ (nwW cI u0 net0)) ++ (nwW cI u1 net0)) ++ (nwW cI u2 net0)) ++ (nwW cI u3 net0))) hx hb hK.1 hP hD hS 1 1 41 1 rfl rfl rfl rfl (show vp_in (3 : Int32) 4 from vp_in_nI (n := 3) (by decide) (by decide)) dX0_init_35 rfl (fun H locs hP hD hS => ?_)
  refine lv_iinc (v := (4 : Int32)) (lv' := [(1, .int (4 : Int32)), (0, .ref h0)]) hx hb dX0_init_36 hl (k := 0) rfl (by decide) (by decide) rfl (fun ls hl => ?_)
  refine lv_goto (tgt := 14) hx hb dX0_init_39 (by decide) ?_
  refine lv_iload_n hx hb dX0_init_14 rfl (lv_at hl 0 rfl) ?_
  refine lv_aload_n hx hb dX0_init_15 rfl (lv_at hl 1 rfl) ?_
  refine va_get (D := D) (ci := 0) (v := .ref ar) (C := RX0) (T := TX0) (N := 3) hx hb hts inX0 hown hK.1 hP 0 rfl rfl 0 (by decide) (hts (.fieldLink RX0 11 "ClosExchange$History" "states" "[LClosExchange$Network;") (List.mem_of_getElem? (i := 5) rfl)) (fun _ h9 => h9) rfl dX0_init_16 ?_
  refine va_alen (v := (4 : Int32)) hx hb hK.1 hP 1 1 rfl rfl rfl dX0_init_19 ?_
  refine lv_icmp_ge (tgt := 42) hx hb dX0_init_20 (by decide) (fun c9 => ?_) (fun c9 => absurd (by decide) c9)
  have hP := P_ceq hP (k := 1) rfl (g := fun k => some ((fun i => [u0, u1, u2, u3].getD i u0) k 0)) (fun j hj => by
    rcases (show j = 0 ∨ j = 1 ∨ j = 2 ∨ j = 3 by omega) with rfl | rfl | rfl | rfl <;> rfl)
  have hD := hD.set (p := 1) (e := .inl (cN, 4, .inr (.inr (.inr (.inr (fun k => some ((fun i => [u0, u1, u2, u3].getD i u0) k 0))))))) rfl
  have hP9 : va_P D vwCl (hiW cI cN (fun k => [h0, ar].getD k 0) (fun i => [u0, u1, u2, u3].getD i u0) his0) H := by
    refine P_mono hP (fun q hq => ?_)
    unfold hiW at hq
    simp only [List.mem_append, or_assoc] at hq
    show q ∈ ((((([(h0, .inr (0, [.ref ar, .int 0, .int 0]))] ++ [(ar, .inl (cN, 4, .inr (.inr (.inr (.inr (fun k => some ((fun i => [u0, u1, u2, u3].getD i u0) k 0)))))))]) ++ (nwW cI u0 net0)) ++ (nwW cI u1 net0)) ++ (nwW cI u2 net0)) ++ (nwW cI u3 net0) : va_W)
    simp only [List.mem_append, or_assoc]
    rcases hq with hq | hq | hq | hq | hq
    · have hq : q = _ ∨ q ∈ _ := List.mem_cons.mp hq
      rcases hq with hq | hq
      · exact Or.inl (List.mem_singleton.mpr hq)
      · exact Or.inr (Or.inl hq)
    · exact Or.inr (Or.inr (Or.inl hq))
    · exact Or.inr (Or.inr (Or.inr (Or.inl hq)))
    · exact Or.inr (Or.inr (Or.inr (Or.inr (Or.inl hq))))
    · exact Or.inr (Or.inr (Or.inr (Or.inr (Or.inr hq))))
  have hD9 : va_D A (hiW cI cN (fun k => [h0, ar].getD k 0) (fun i => [u0, u1, u2, u3].getD i u0) his0) := by
    have e : hiW cI cN (fun k => [h0, ar].getD k 0) (fun i => [u0, u1, u2, u3].getD i u0) his0 = ((((([(h0, .inr (0, [.ref ar, .int 0, .int 0]))] ++ [(ar, .inl (cN, 4, .inr (.inr (.inr (.inr (fun k => some ((fun i => [u0, u1, u2, u3].getD i u0) k 0)))))))]) ++ (nwW cI u0 net0)) ++ (nwW cI u1 net0)) ++ (nwW cI u2 net0)) ++ (nwW cI u3 net0) : va_W) := by
      simp only [List.append_assoc]
      rfl
    rw [e]; exact hD
  exact hret (fun k => [h0, ar].getD k 0, (fun i => [u0, u1, u2, u3].getD i u0)) H locs ls _ rfl dX0_init_42 hP9 hD9 hS
def mod0 : OS := (fun _ => (0 : Int32), fun _ _ => (0 : Int32))
/-- the whole object: addresses a, v (0 network, 1 before, 2 snapshot, 3 trial, 4 router, 5 history, 6 text), w (the history's networks) -/
def ceW (cI cN : ClassId) (a : Nat) (v w : Nat → Nat → Nat) (kx : OS) (hi : HS) (x o sn r tr n : OS) : va_W := cxW a (v 0 0) (v 1 0) (v 2 0) (v 3 0) (v 4 0) (v 5 0) (v 6 0) (kx.1 7) ++ (hiW cI cN (v 5) w hi ++ (txW cI (v 6) x ++ (nwW cI (v 1) o ++ (nwW cI (v 2) sn ++ (rtW cI (v 4) r ++ (nwW cI (v 3) tr ++ nwW cI (v 0) n))))))
theorem ord8 {α : Type} {a n o s t r h x : List α} {q : α} : q ∈ a ++ (h ++ (x ++ (o ++ (s ++ (r ++ (t ++ n)))))) → q ∈ (((((((a ++ n) ++ o) ++ s) ++ t) ++ r) ++ h) ++ x) := by
  simp only [List.mem_append]
  intro hq
  rcases hq with hq | hq | hq | hq | hq | hq | hq | hq <;> simp [hq]
theorem cnt8 {α : Type} [BEq α] {a n o s t r h x : List α} (c : α) : List.count c (a ++ (h ++ (x ++ (o ++ (s ++ (r ++ (t ++ n))))))) = List.count c (((((((a ++ n) ++ o) ++ s) ++ t) ++ r) ++ h) ++ x) := by
  simp only [List.count_append]
  omega
abbrev rm_X5_init : Room := { frames := 4, cells := 114, slots := 2881, locals := 93 }
set_option maxRecDepth 100000 in
set_option maxHeartbeats 4000000 in
theorem c_X5_init (l : Launch) (D : va_G) (cI cN : ClassId) (h0 : Nat) (sz : Nat) : CtN l D cI cN yX5_init wsX5_init rm_X5_init 114 2881 ((Nat → Nat → Nat) × (Nat → Nat → Nat)) [.ref h0] [(h0, .inr (5, [.null, .null, .null, .null, .null, .null, .null, .int 0]))] sz (fun _ => True) (fun z => ceW cI cN h0 z.1 z.2 txt0 his0 txt0 net0 net0 txt0 net0 net0) := by
  refine mN (cc := cX5_init) (maxL := 1) (by decide) rfl (Nat.le_of_ble_eq_true rfl) ?_
  intro p e s m args below meth c Q A S hname hK hO hP hD hS hA hret ls hl
  obtain ⟨hx, hb, hml, hown, hts⟩ := id S
  have hl : lv_has ls 1 [(0, .ref h0)] := hl
  have inX5 := in_X5_init_X5
  have inX1 := in_X5_init_X1
  have inX3 := in_X5_init_X3
  have inX0 := in_X5_init_X0
  have inX2 := in_X5_init_X2
  refine lv_aload_n hx hb dX5_init_0 rfl (lv_at hl 0 rfl) ?_
  refine W.objInit hx hb hown (hts (.methodLink RX5 3 objectInit) (List.mem_of_getElem? (i := 1) rfl)) (hts (.instanceMethod objectInit) (List.mem_of_getElem? (i := 2) rfl)) (hts _ (List.mem_of_getElem? (i := 3) rfl)) rfl (by rw [hml]; exact hl.1) rfl dX5_init_1 (Nat.le_of_ble_eq_true rfl) (Nat.le_of_ble_eq_true rfl) ?_
  refine W.eq (g2 := F0 m 4 ls []) rfl ?_
  refine lv_aload_n hx hb dX5_init_4 rfl (lv_at hl 0 rfl) ?_
  refine va_new (ci := 1) (fs := [.int 0, .int 0, .int 0, .int 0, .int 0, .int 0, .int 0, .int 0, .int 0, .int 0, .null, .null, .null, .null, .null, .null]) (C := RX1) (T := TX1) (N := 16) hx hb hts inX1 tyX1 tyX1_ok hown (hts (.classLink RX5 9 RX1) (List.mem_of_getElem? (i := 4) rfl)) (hts (.instantiable RX1 16) (List.mem_of_getElem? (i := 5) rfl)) (hts (.initialized RX1) (List.mem_of_getElem? (i := 6) rfl)) hK.1 hP hD hS hA rfl (fun j hj => by exact dflt_X1 j hj) (Nat.le_of_ble_eq_true rfl) (Nat.le_of_ble_eq_true rfl) dX5_init_5 (fun q1 H hP hD hS => ?_)
  refine W.widen (k := 1) (n := 16) (Nat.le_of_ble_eq_true rfl) (Nat.le_of_ble_eq_true rfl) ?_
  refine lv_dup hx hb dX5_init_8 rfl ?_
  refine cIx (pre := [(h0, .inr (5, [.null, .null, .null, .null, .null, .null, .null, .int 0]))]) (As := []) (rest := [.ref q1, .ref h0]) S (c_X1_init l D cI cN q1 _) (cwI 0 hts gX5_init_X1_init rfl rfl rfl (hts (.initialized RX1) (List.mem_of_getElem? (i := 6) rfl)) (hts (.methodLink RX5 11 yX1_init) (List.mem_of_getElem? (i := 24) rfl)) (hts (.instanceMethod yX1_init) (List.mem_of_getElem? (i := 25) rfl)) rfl (by decide +kernel) ⟨Nat.le_of_ble_eq_true rfl, Nat.le_of_ble_eq_true rfl⟩) hK hO hP hD hS hA rfl hl.1 rfl (Nat.le_of_ble_eq_true rfl) dX5_init_9 ⟨Nat.le_of_ble_eq_true rfl, Nat.le_of_ble_eq_true rfl⟩ (fun u0 H locs hpp hP hD hS => ?_)
  refine W.widen (k := 13) (n := 342) (Nat.le_of_ble_eq_true rfl) (Nat.le_of_ble_eq_true rfl) ?_
  rw [← hpp]
  refine gputF (D := D) (ci := 5) (v := .ref (u0 0)) (ty := .object "ClosExchange$Network") (C := RX5) (T := TX5) (N := 8) (wf := ([(h0, .inr (5, [.ref (u0 0), .null, .null, .null, .null, .null, .null, .int 0]))] ++ (nwW cI u0 net0))) hx hb hts inX5 tyX5 tyX5_ok nmX5 hown hK.1 hP hD hS 0 rfl rfl 0 (by decide) (hts (.fieldLink RX5 12 "ClosExchange" "network" "LClosExchange$Network;") (List.mem_of_getElem? (i := 7) rfl)) (fun _ h9 => h9) rfl hname rfl (by decide +kernel) rfl rfl (Nat.le_of_ble_eq_true rfl) dX5_init_12 rfl (fun H locs hP hD hS => ?_)
  refine lv_aload_n hx hb dX5_init_15 rfl (lv_at hl 0 rfl) ?_
  refine va_new (ci := 1) (fs := [.int 0, .int 0, .int 0, .int 0, .int 0, .int 0, .int 0, .int 0, .int 0, .int 0, .null, .null, .null, .null, .null, .null]) (C := RX1) (T := TX1) (N := 16) hx hb hts inX1 tyX1 tyX1_ok hown (hts (.classLink RX5 9 RX1) (List.mem_of_getElem? (i := 4) rfl)) (hts (.instantiable RX1 16) (List.mem_of_getElem? (i := 5) rfl)) (hts (.initialized RX1) (List.mem_of_getElem? (i := 6) rfl)) hK.1 hP hD hS hA rfl (fun j hj => by exact dflt_X1 j hj) (Nat.le_of_ble_eq_true rfl) (Nat.le_of_ble_eq_true rfl) dX5_init_16 (fun q2 H hP hD hS => ?_)
  refine W.widen (k := 14) (n := 358) (Nat.le_of_ble_eq_true rfl) (Nat.le_of_ble_eq_true rfl) ?_
  refine lv_dup hx hb dX5_init_19 rfl ?_
  refine cIx (pre := ([(h0, .inr (5, [.ref (u0 0), .null, .null, .null, .null, .null, .null, .int 0]))] ++ (nwW cI u0 net0))) (As := []) (rest := [.ref q2, .ref h0]) S (c_X1_init l D cI cN q2 _) (cwI 0 hts gX5_init_X1_init rfl rfl rfl (hts (.initialized RX1) (List.mem_of_getElem? (i := 6) rfl)) (hts (.methodLink RX5 11 yX1_init) (List.mem_of_getElem? (i := 24) rfl)) (hts (.instanceMethod yX1_init) (List.mem_of_getElem? (i := 25) rfl)) rfl (by decide +kernel) ⟨Nat.le_of_ble_eq_true rfl, Nat.le_of_ble_eq_true rfl⟩) hK hO hP hD hS hA rfl hl.1 rfl (Nat.le_of_ble_eq_true rfl) dX5_init_20 ⟨Nat.le_of_ble_eq_true rfl, Nat.le_of_ble_eq_true rfl⟩ (fun u1 H locs hpp hP hD hS => ?_)
  refine W.widen (k := 26) (n := 684) (Nat.le_of_ble_eq_true rfl) (Nat.le_of_ble_eq_true rfl) ?_
  rw [← hpp]
  refine gputF (D := D) (ci := 5) (v := .ref (u1 0)) (ty := .object "ClosExchange$Network") (C := RX5) (T := TX5) (N := 8) (wf := (([(h0, .inr (5, [.ref (u0 0), .ref (u1 0), .null, .null, .null, .null, .null, .int 0]))] ++ (nwW cI u0 net0)) ++ (nwW cI u1 net0))) hx hb hts inX5 tyX5 tyX5_ok nmX5 hown hK.1 hP hD hS 0 rfl rfl 1 (by decide) (hts (.fieldLink RX5 16 "ClosExchange" "before" "LClosExchange$Network;") (List.mem_of_getElem? (i := 8) rfl)) (fun _ h9 => h9) rfl hname rfl (by decide +kernel) rfl rfl (Nat.le_of_ble_eq_true rfl) dX5_init_23 rfl (fun H locs hP hD hS => ?_)
  refine lv_aload_n hx hb dX5_init_26 rfl (lv_at hl 0 rfl) ?_
  refine va_new (ci := 1) (fs := [.int 0, .int 0, .int 0, .int 0, .int 0, .int 0, .int 0, .int 0, .int 0, .int 0, .null, .null, .null, .null, .null, .null]) (C := RX1) (T := TX1) (N := 16) hx hb hts inX1 tyX1 tyX1_ok hown (hts (.classLink RX5 9 RX1) (List.mem_of_getElem? (i := 4) rfl)) (hts (.instantiable RX1 16) (List.mem_of_getElem? (i := 5) rfl)) (hts (.initialized RX1) (List.mem_of_getElem? (i := 6) rfl)) hK.1 hP hD hS hA rfl (fun j hj => by exact dflt_X1 j hj) (Nat.le_of_ble_eq_true rfl) (Nat.le_of_ble_eq_true rfl) dX5_init_27 (fun q3 H hP hD hS => ?_)
  refine W.widen (k := 27) (n := 700) (Nat.le_of_ble_eq_true rfl) (Nat.le_of_ble_eq_true rfl) ?_
  refine lv_dup hx hb dX5_init_30 rfl ?_
  refine cIx (pre := (([(h0, .inr (5, [.ref (u0 0), .ref (u1 0), .null, .null, .null, .null, .null, .int 0]))] ++ (nwW cI u0 net0)) ++ (nwW cI u1 net0))) (As := []) (rest := [.ref q3, .ref h0]) S (c_X1_init l D cI cN q3 _) (cwI 0 hts gX5_init_X1_init rfl rfl rfl (hts (.initialized RX1) (List.mem_of_getElem? (i := 6) rfl)) (hts (.methodLink RX5 11 yX1_init) (List.mem_of_getElem? (i := 24) rfl)) (hts (.instanceMethod yX1_init) (List.mem_of_getElem? (i := 25) rfl)) rfl (by decide +kernel) ⟨Nat.le_of_ble_eq_true rfl, Nat.le_of_ble_eq_true rfl⟩) hK hO hP hD hS hA rfl hl.1 rfl (Nat.le_of_ble_eq_true rfl) dX5_init_31 ⟨Nat.le_of_ble_eq_true rfl, Nat.le_of_ble_eq_true rfl⟩ (fun u2 H locs hpp hP hD hS => ?_)
  refine W.widen (k := 39) (n := 1026) (Nat.le_of_ble_eq_true rfl) (Nat.le_of_ble_eq_true rfl) ?_
  rw [← hpp]
  refine gputF (D := D) (ci := 5) (v := .ref (u2 0)) (ty := .object "ClosExchange$Network") (C := RX5) (T := TX5) (N := 8) (wf := ((([(h0, .inr (5, [.ref (u0 0), .ref (u1 0), .ref (u2 0), .null, .null, .null, .null, .int 0]))] ++ (nwW cI u0 net0)) ++ (nwW cI u1 net0)) ++ (nwW cI u2 net0))) hx hb hts inX5 tyX5 tyX5_ok nmX5 hown hK.1 hP hD hS 0 rfl rfl 2 (by decide) (hts (.fieldLink RX5 19 "ClosExchange" "snapshot" "LClosExchange$Network;") (List.mem_of_getElem? (i := 9) rfl)) (fun _ h9 => h9) rfl hname rfl (by decide +kernel) rfl rfl (Nat.le_of_ble_eq_true rfl) dX5_init_34 rfl (fun H locs hP hD hS => ?_)
  refine lv_aload_n hx hb dX5_init_37 rfl (lv_at hl 0 rfl) ?_
  refine va_new (ci := 1) (fs := [.int 0, .int 0, .int 0, .int 0, .int 0, .int 0, .int 0, .int 0, .int 0, .int 0, .null, .null, .null, .null, .null, .null]) (C := RX1) (T := TX1) (N := 16) hx hb hts inX1 tyX1 tyX1_ok hown (hts (.classLink RX5 9 RX1) (List.mem_of_getElem? (i := 4) rfl)) (hts (.instantiable RX1 16) (List.mem_of_getElem? (i := 5) rfl)) (hts (.initialized RX1) (List.mem_of_getElem? (i := 6) rfl)) hK.1 hP hD hS hA rfl (fun j hj => by exact dflt_X1 j hj) (Nat.le_of_ble_eq_true rfl) (Nat.le_of_ble_eq_true rfl) dX5_init_38 (fun q4 H hP hD hS => ?_)
  refine W.widen (k := 40) (n := 1042) (Nat.le_of_ble_eq_true rfl) (Nat.le_of_ble_eq_true rfl) ?_
  refine lv_dup hx hb dX5_init_41 rfl ?_
  refine cIx (pre := ((([(h0, .inr (5, [.ref (u0 0), .ref (u1 0), .ref (u2 0), .null, .null, .null, .null, .int 0]))] ++ (nwW cI u0 net0)) ++ (nwW cI u1 net0)) ++ (nwW cI u2 net0))) (As := []) (rest := [.ref q4, .ref h0]) S (c_X1_init l D cI cN q4 _) (cwI 0 hts gX5_init_X1_init rfl rfl rfl (hts (.initialized RX1) (List.mem_of_getElem? (i := 6) rfl)) (hts (.methodLink RX5 11 yX1_init) (List.mem_of_getElem? (i := 24) rfl)) (hts (.instanceMethod yX1_init) (List.mem_of_getElem? (i := 25) rfl)) rfl (by decide +kernel) ⟨Nat.le_of_ble_eq_true rfl, Nat.le_of_ble_eq_true rfl⟩) hK hO hP hD hS hA rfl hl.1 rfl (Nat.le_of_ble_eq_true rfl) dX5_init_42 ⟨Nat.le_of_ble_eq_true rfl, Nat.le_of_ble_eq_true rfl⟩ (fun u3 H locs hpp hP hD hS => ?_)
  refine W.widen (k := 52) (n := 1368) (Nat.le_of_ble_eq_true rfl) (Nat.le_of_ble_eq_true rfl) ?_
  rw [← hpp]
  refine gputF (D := D) (ci := 5) (v := .ref (u3 0)) (ty := .object "ClosExchange$Network") (C := RX5) (T := TX5) (N := 8) (wf := (((([(h0, .inr (5, [.ref (u0 0), .ref (u1 0), .ref (u2 0), .ref (u3 0), .null, .null, .null, .int 0]))] ++ (nwW cI u0 net0)) ++ (nwW cI u1 net0)) ++ (nwW cI u2 net0)) ++ (nwW cI u3 net0))) hx hb hts inX5 tyX5 tyX5_ok nmX5 hown hK.1 hP hD hS 0 rfl rfl 3 (by decide) (hts (.fieldLink RX5 22 "ClosExchange" "trial" "LClosExchange$Network;") (List.mem_of_getElem? (i := 10) rfl)) (fun _ h9 => h9) rfl hname rfl (by decide +kernel) rfl rfl (Nat.le_of_ble_eq_true rfl) dX5_init_45 rfl (fun H locs hP hD hS => ?_)
  refine lv_aload_n hx hb dX5_init_48 rfl (lv_at hl 0 rfl) ?_
  refine va_new (ci := 3) (fs := [.null, .int 0, .int 0, .int 0, .null]) (C := RX3) (T := TX3) (N := 5) hx hb hts inX3 tyX3 tyX3_ok hown (hts (.classLink RX5 25 RX3) (List.mem_of_getElem? (i := 11) rfl)) (hts (.instantiable RX3 5) (List.mem_of_getElem? (i := 12) rfl)) (hts (.initialized RX3) (List.mem_of_getElem? (i := 13) rfl)) hK.1 hP hD hS hA rfl (fun j hj => by exact dflt_X3 j hj) (Nat.le_of_ble_eq_true rfl) (Nat.le_of_ble_eq_true rfl) dX5_init_49 (fun q5 H hP hD hS => ?_)
  refine W.widen (k := 53) (n := 1373) (Nat.le_of_ble_eq_true rfl) (Nat.le_of_ble_eq_true rfl) ?_
  refine lv_dup hx hb dX5_init_52 rfl ?_
  refine cIx (pre := (((([(h0, .inr (5, [.ref (u0 0), .ref (u1 0), .ref (u2 0), .ref (u3 0), .null, .null, .null, .int 0]))] ++ (nwW cI u0 net0)) ++ (nwW cI u1 net0)) ++ (nwW cI u2 net0)) ++ (nwW cI u3 net0))) (As := []) (rest := [.ref q5, .ref h0]) S (c_X3_init l D cI cN q5 _) (cwI 0 hts gX5_init_X3_init rfl rfl rfl (hts (.initialized RX3) (List.mem_of_getElem? (i := 13) rfl)) (hts (.methodLink RX5 27 yX3_init) (List.mem_of_getElem? (i := 55) rfl)) (hts (.instanceMethod yX3_init) (List.mem_of_getElem? (i := 56) rfl)) rfl (by decide +kernel) ⟨Nat.le_of_ble_eq_true rfl, Nat.le_of_ble_eq_true rfl⟩) hK hO hP hD hS hA rfl hl.1 rfl (Nat.le_of_ble_eq_true rfl) dX5_init_53 ⟨Nat.le_of_ble_eq_true rfl, Nat.le_of_ble_eq_true rfl⟩ (fun u4 H locs hpp hP hD hS => ?_)
  refine W.widen (k := 57) (n := 1439) (Nat.le_of_ble_eq_true rfl) (Nat.le_of_ble_eq_true rfl) ?_
  rw [← hpp]
  refine gputF (D := D) (ci := 5) (v := .ref (u4 0)) (ty := .object "ClosExchange$Router") (C := RX5) (T := TX5) (N := 8) (wf := ((((([(h0, .inr (5, [.ref (u0 0), .ref (u1 0), .ref (u2 0), .ref (u3 0), .ref (u4 0), .null, .null, .int 0]))] ++ (nwW cI u0 net0)) ++ (nwW cI u1 net0)) ++ (nwW cI u2 net0)) ++ (nwW cI u3 net0)) ++ (rtW cI u4 txt0))) hx hb hts inX5 tyX5 tyX5_ok nmX5 hown hK.1 hP hD hS 0 rfl rfl 4 (by decide) (hts (.fieldLink RX5 28 "ClosExchange" "router" "LClosExchange$Router;") (List.mem_of_getElem? (i := 14) rfl)) (fun _ h9 => h9) rfl hname rfl (by decide +kernel) rfl rfl (Nat.le_of_ble_eq_true rfl) dX5_init_56 rfl (fun H locs hP hD hS => ?_)
  refine lv_aload_n hx hb dX5_init_59 rfl (lv_at hl 0 rfl) ?_
  refine va_new (ci := 0) (fs := [.null, .int 0, .int 0]) (C := RX0) (T := TX0) (N := 3) hx hb hts inX0 tyX0 tyX0_ok hown (hts (.classLink RX5 32 RX0) (List.mem_of_getElem? (i := 15) rfl)) (hts (.instantiable RX0 3) (List.mem_of_getElem? (i := 16) rfl)) (hts (.initialized RX0) (List.mem_of_getElem? (i := 17) rfl)) hK.1 hP hD hS hA rfl (fun j hj => by exact dflt_X0 j hj) (Nat.le_of_ble_eq_true rfl) (Nat.le_of_ble_eq_true rfl) dX5_init_60 (fun q6 H hP hD hS => ?_)
  refine W.widen (k := 58) (n := 1442) (Nat.le_of_ble_eq_true rfl) (Nat.le_of_ble_eq_true rfl) ?_
  refine lv_dup hx hb dX5_init_63 rfl ?_
  refine cIx (pre := ((((([(h0, .inr (5, [.ref (u0 0), .ref (u1 0), .ref (u2 0), .ref (u3 0), .ref (u4 0), .null, .null, .int 0]))] ++ (nwW cI u0 net0)) ++ (nwW cI u1 net0)) ++ (nwW cI u2 net0)) ++ (nwW cI u3 net0)) ++ (rtW cI u4 txt0))) (As := []) (rest := [.ref q6, .ref h0]) S (c_X0_init l D cI cN q6 _) (cwI 0 hts gX5_init_X0_init rfl rfl rfl (hts (.initialized RX0) (List.mem_of_getElem? (i := 17) rfl)) (hts (.methodLink RX5 34 yX0_init) (List.mem_of_getElem? (i := 63) rfl)) (hts (.instanceMethod yX0_init) (List.mem_of_getElem? (i := 64) rfl)) rfl (by decide +kernel) ⟨Nat.le_of_ble_eq_true rfl, Nat.le_of_ble_eq_true rfl⟩) hK hO hP hD hS hA rfl hl.1 rfl (Nat.le_of_ble_eq_true rfl) dX5_init_64 ⟨Nat.le_of_ble_eq_true rfl, Nat.le_of_ble_eq_true rfl⟩ (fun u5 H locs hpp hP hD hS => ?_)
  refine W.widen (k := 111) (n := 2814) (Nat.le_of_ble_eq_true rfl) (Nat.le_of_ble_eq_true rfl) ?_
  rw [← hpp]
  refine gputF (D := D) (ci := 5) (v := .ref (u5.1 0)) (ty := .object "ClosExchange$History") (C := RX5) (T := TX5) (N := 8) (wf := (((((([(h0, .inr (5, [.ref (u0 0), .ref (u1 0), .ref (u2 0), .ref (u3 0), .ref (u4 0), .ref (u5.1 0), .null, .int 0]))] ++ (nwW cI u0 net0)) ++ (nwW cI u1 net0)) ++ (nwW cI u2 net0)) ++ (nwW cI u3 net0)) ++ (rtW cI u4 txt0)) ++ (hiW cI cN u5.1 u5.2 his0))) hx hb hts inX5 tyX5 tyX5_ok nmX5 hown hK.1 hP hD hS 0 rfl rfl 5 (by decide) (hts (.fieldLink RX5 35 "ClosExchange" "history" "LClosExchange$History;") (List.mem_of_getElem? (i := 18) rfl)) (fun _ h9 => h9) rfl hname rfl (by decide +kernel) rfl rfl (Nat.le_of_ble_eq_true rfl) dX5_init_67 rfl (fun H locs hP hD hS => ?_)
  refine lv_aload_n hx hb dX5_init_70 rfl (lv_at hl 0 rfl) ?_
  refine va_new (ci := 2) (fs := [.null, .int 0, .int 0, .int 0, .int 0, .int 0]) (C := RX2) (T := TX2) (N := 6) hx hb hts inX2 tyX2 tyX2_ok hown (hts (.classLink RX5 39 RX2) (List.mem_of_getElem? (i := 19) rfl)) (hts (.instantiable RX2 6) (List.mem_of_getElem? (i := 20) rfl)) (hts (.initialized RX2) (List.mem_of_getElem? (i := 21) rfl)) hK.1 hP hD hS hA rfl (fun j hj => by exact dflt_X2 j hj) (Nat.le_of_ble_eq_true rfl) (Nat.le_of_ble_eq_true rfl) dX5_init_71 (fun q7 H hP hD hS => ?_)
  refine W.widen (k := 112) (n := 2820) (Nat.le_of_ble_eq_true rfl) (Nat.le_of_ble_eq_true rfl) ?_
  refine lv_dup hx hb dX5_init_74 rfl ?_
  refine cIx (pre := (((((([(h0, .inr (5, [.ref (u0 0), .ref (u1 0), .ref (u2 0), .ref (u3 0), .ref (u4 0), .ref (u5.1 0), .null, .int 0]))] ++ (nwW cI u0 net0)) ++ (nwW cI u1 net0)) ++ (nwW cI u2 net0)) ++ (nwW cI u3 net0)) ++ (rtW cI u4 txt0)) ++ (hiW cI cN u5.1 u5.2 his0))) (As := []) (rest := [.ref q7, .ref h0]) S (c_X2_init l D cI cN q7 _) (cwI 0 hts gX5_init_X2_init rfl rfl rfl (hts (.initialized RX2) (List.mem_of_getElem? (i := 21) rfl)) (hts (.methodLink RX5 41 yX2_init) (List.mem_of_getElem? (i := 70) rfl)) (hts (.instanceMethod yX2_init) (List.mem_of_getElem? (i := 71) rfl)) rfl (by decide +kernel) ⟨Nat.le_of_ble_eq_true rfl, Nat.le_of_ble_eq_true rfl⟩) hK hO hP hD hS hA rfl hl.1 rfl (Nat.le_of_ble_eq_true rfl) dX5_init_75 ⟨Nat.le_of_ble_eq_true rfl, Nat.le_of_ble_eq_true rfl⟩ (fun u6 H locs hpp hP hD hS => ?_)
  refine W.widen (k := 114) (n := 2881) (Nat.le_of_ble_eq_true rfl) (Nat.le_of_ble_eq_true rfl) ?_
  rw [← hpp]
  refine gputF (D := D) (ci := 5) (v := .ref (u6 0)) (ty := .object "ClosExchange$OrderText") (C := RX5) (T := TX5) (N := 8) (wf := ((((((([(h0, .inr (5, [.ref (u0 0), .ref (u1 0), .ref (u2 0), .ref (u3 0), .ref (u4 0), .ref (u5.1 0), .ref (u6 0), .int 0]))] ++ (nwW cI u0 net0)) ++ (nwW cI u1 net0)) ++ (nwW cI u2 net0)) ++ (nwW cI u3 net0)) ++ (rtW cI u4 txt0)) ++ (hiW cI cN u5.1 u5.2 his0)) ++ (txW cI u6 txt0))) hx hb hts inX5 tyX5 tyX5_ok nmX5 hown hK.1 hP hD hS 0 rfl rfl 6 (by decide) (hts (.fieldLink RX5 42 "ClosExchange" "text" "LClosExchange$OrderText;") (List.mem_of_getElem? (i := 22) rfl)) (fun _ h9 => h9) rfl hname rfl (by decide +kernel) rfl rfl (Nat.le_of_ble_eq_true rfl) dX5_init_78 rfl (fun H locs hP hD hS => ?_)
  refine lv_aload_n hx hb dX5_init_81 rfl (lv_at hl 0 rfl) ?_
  refine lv_iconst (v := (0 : Int32)) hx hb dX5_init_82 kc_iconst_0 ?_
  refine gput (D := D) (ci := 5) (v := .int (0 : Int32)) (ty := .boolean) (C := RX5) (T := TX5) (N := 8) (wf := ((((((([(h0, .inr (5, [.ref (u0 0), .ref (u1 0), .ref (u2 0), .ref (u3 0), .ref (u4 0), .ref (u5.1 0), .ref (u6 0), .int (0 : Int32)]))] ++ (nwW cI u0 net0)) ++ (nwW cI u1 net0)) ++ (nwW cI u2 net0)) ++ (nwW cI u3 net0)) ++ (rtW cI u4 txt0)) ++ (hiW cI cN u5.1 u5.2 his0)) ++ (txW cI u6 txt0))) hx hb hts inX5 tyX5 tyX5_ok nmX5 hown hK.1 hP hD hS 0 rfl rfl 7 (by decide) (hts (.fieldLink RX5 46 "ClosExchange" "kept" "Z") (List.mem_of_getElem? (i := 23) rfl)) (fun _ h9 => h9) rfl (by decide +kernel) rfl rfl (Nat.le_of_ble_eq_true rfl) dX5_init_83 rfl (fun H locs hP hD hS => ?_)
  have hP9 : va_P D vwCl (ceW cI cN h0 (fun i => [u0, u1, u2, u3, u4, u5.1, u6].getD i u0) u5.2 txt0 his0 txt0 net0 net0 txt0 net0 net0) H := P_mono hP (fun q hq => ord8 hq)
  have hD9 : va_D A (ceW cI cN h0 (fun i => [u0, u1, u2, u3, u4, u5.1, u6].getD i u0) u5.2 txt0 his0 txt0 net0 net0 txt0 net0 net0) := D_perm hD (fun q hq => ord8 hq) (fun c => by
    unfold ceW
    simp only [List.map_append]
    exact cnt8 c)
  exact hret ((fun i => [u0, u1, u2, u3, u4, u5.1, u6].getD i u0), u5.2) H locs ls _ trivial dX5_init_86 hP9 hD9 hS
