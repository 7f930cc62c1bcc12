abbrev rm_L_isAhead : Room := { frames := 7, cells := 0, slots := 0, locals := 175 }
set_option maxRecDepth 100000 in
set_option maxHeartbeats 4000000 in
theorem w_L_isAhead_401 {p : Program} {l : Launch} {e : Env} {s : State} {m : MethodId} {args : Array Value} {below : List Frame} {meth : Method} {c : Code} {Q : State → Prop} {D : va_G} {cI cN : ClassId} {A : Nat → Prop} {ka a2 a3 : Nat} {h : Nat → Nat} {hq : Nat → Nat → Nat} {u : Nat → Nat} {qo : Nat → Nat} {t : Nat → Nat} {q : Nat → Nat} (S : CallFix p m c cL_isAhead 15 s args wsL_isAhead RL) (hK : KN D cI cN s) (hA : ∀ q : Nat, s.heap.size ≤ q → A q) {kx : OS} {hi : HS} {x : OS} {o : OS} {n : OS} {x1 : Int32} {x2 : Int32} {x8 : Int32} {r0 : Int32} {hi' : HS} {o' : OS} {r' : OS} {n' : OS} (hret : ∀ (H : Heap) (locs : List Loc) (ls : Array Slot) (pc : Nat), decode cL_isAhead pc = .ok (.ireturn, 1) → narrow .boolean (.int r0) = .int r0 → va_P D vwCl ((cxW ka (q 0) (qo 0) a2 a3 (t 0) (h 0) (u 0) (kx.1 7)) ++ ((hiW cI cN h hq hi') ++ ((txW cI u x) ++ ((nwW cI qo o') ++ ((rtW cI t r') ++ (nwW cI q n')))))) H → va_D A ((cxW ka (q 0) (qo 0) a2 a3 (t 0) (h 0) (u 0) (kx.1 7)) ++ ((hiW cI cN h hq hi') ++ ((txW cI u x) ++ ((nwW cI qo o') ++ ((rtW cI t r') ++ (nwW cI q n')))))) → va_S A s.heap H locs → W p l e (headSpec wsL_isAhead rm_L_isAhead).room s m args below meth c H locs 0 0 Q (F0 m pc ls [.int r0])) : ∀ (k : Nat) (x12 : Int32) (x13 : Int32) (r : OS), fL_isAhead_401 kx hi x o n x1 x2 x8 k x12 x13 r = some (r0, hi', o', r', n') → ∀ (H : Heap) (locs : List Loc) (ls : Array Slot), va_P D vwCl ((cxW ka (q 0) (qo 0) a2 a3 (t 0) (h 0) (u 0) (kx.1 7)) ++ ((hiW cI cN h hq hi) ++ ((txW cI u x) ++ ((nwW cI qo o) ++ ((rtW cI t r) ++ (nwW cI q n)))))) H → va_D A ((cxW ka (q 0) (qo 0) a2 a3 (t 0) (h 0) (u 0) (kx.1 7)) ++ ((hiW cI cN h hq hi) ++ ((txW cI u x) ++ ((nwW cI qo o) ++ ((rtW cI t r) ++ (nwW cI q n)))))) → va_S A s.heap H locs → lv_has ls 15 [(0, .ref ka), (1, .int x1), (2, .int x2), (8, .int x8), (12, .int x12), (13, .int x13)] → W p l e (headSpec wsL_isAhead rm_L_isAhead).room s m args below meth c H locs 0 0 Q (F0 m 401 ls []) := by
  obtain ⟨hx, hb, hml, hown, hts⟩ := id S
  intro k
  induction k with
  | zero => intro x12 x13 r hf; rw [fL_isAhead_401_z] at hf; cases hf
  | succ k ih =>
    intro x12 x13 r hf H locs ls hP hD hS hl
    rw [fL_isAhead_401_s] at hf
    refine lv_iload hx hb dL_isAhead_401 (lv_at hl 5 rfl) ?_
    refine lv_iload hx hb dL_isAhead_403 (lv_at hl 3 rfl) ?_
    refine lv_iconst (v := (2 : Int32)) hx hb dL_isAhead_405 kc_iconst_2 ?_
    refine lv_iadd hx hb dL_isAhead_406 ?_
    refine lv_icmp_ge (tgt := 469) hx hb dL_isAhead_407 (by decide) (fun c37 => ?_) (fun c37 => ?_)
    · have hf := it_t hf c37
      refine lv_iload hx hb dL_isAhead_469 (lv_at hl 4 rfl) ?_
      obtain ⟨c38, hf⟩ := it_g hf
      have e0 : x12 = r0 := congrArg (fun z => z.1) (Option.some.inj hf)
      have e1 : hi = hi' := congrArg (fun z => z.2.1) (Option.some.inj hf)
      have e2 : o = o' := congrArg (fun z => z.2.2.1) (Option.some.inj hf)
      have e3 : r = r' := congrArg (fun z => z.2.2.2.1) (Option.some.inj hf)
      have e4 : n = n' := congrArg (fun z => z.2.2.2.2) (Option.some.inj hf)
      subst e0
      subst e1
      subst e2
      subst e3
      subst e4
      exact hret H locs ls _ dL_isAhead_471 (nb_bool c38) hP hD hS
    · have hf := it_f hf c37
      refine lv_iload hx hb dL_isAhead_410 (lv_at hl 4 rfl) ?_
      refine lv_if_eq (tgt := 469) hx hb dL_isAhead_412 (by decide) (fun c39 => ?_) (fun c39 => ?_)
      · have hf := it_t hf c39
        refine lv_iload hx hb dL_isAhead_469 (lv_at hl 4 rfl) ?_
        obtain ⟨c40, hf⟩ := it_g hf
        have e0 : x12 = r0 := congrArg (fun z => z.1) (Option.some.inj hf)
        have e1 : hi = hi' := congrArg (fun z => z.2.1) (Option.some.inj hf)
        have e2 : o = o' := congrArg (fun z => z.2.2.1) (Option.some.inj hf)
        have e3 : r = r' := congrArg (fun z => z.2.2.2.1) (Option.some.inj hf)
        have e4 : n = n' := congrArg (fun z => z.2.2.2.2) (Option.some.inj hf)
        subst e0
        subst e1
        subst e2
        subst e3
        subst e4
        exact hret H locs ls _ dL_isAhead_471 (nb_bool c40) hP hD hS
      · have hf := it_f hf c39
        refine lv_aload_n hx hb dL_isAhead_415 rfl (lv_at hl 0 rfl) ?_
        refine lv_iload_n hx hb dL_isAhead_416 rfl (lv_at hl 1 rfl) ?_
        refine lv_iload_n hx hb dL_isAhead_417 rfl (lv_at hl 2 rfl) ?_
        refine lv_iload hx hb dL_isAhead_418 (lv_at hl 5 rfl) ?_
        obtain ⟨v41, hv41, hf⟩ := it_b hf
        refine cBi (As := [.int x1, .int x2, .int x13]) (rest := []) (q0 := 0) (ci := 5) [(true, (cxW ka (q 0) (qo 0) a2 a3 (t 0) (h 0) (u 0) (kx.1 7)), (cxW ka (q 0) (qo 0) a2 a3 (t 0) (h 0) (u 0) (kx.1 7))), (false, (hiW cI cN h hq hi), (hiW cI cN h hq hi)), (false, (txW cI u x), (txW cI u x)), (false, (nwW cI qo o), (nwW cI qo o)), (true, (rtW cI t r), (rtW cI t v41.2)), (true, (nwW cI q n), (nwW cI q n))] ⟨ad_cex, (fun h => Bool.noConfusion h), rfl, (fun _ => rfl), rfl, (fun _ => rfl), rfl, (fun _ => rfl), ad_rtr, (fun h => Bool.noConfusion h), ad_net, (fun h => Bool.noConfusion h), trivial⟩ S (c_X5_chainCall l D cI cN ka (qo 0) a2 a3 (h 0) (u 0) t q _ kx r n x1 x2 x13 v41.1 v41.2 hv41) (cwV 3 hts gL_isAhead_X5_chainCall rfl rfl rfl (by decide +kernel) ⟨Nat.le_of_ble_eq_true rfl, Nat.le_of_ble_eq_true rfl⟩) hK hP hD hS hA rfl rfl rfl hl.1 rfl (Nat.le_of_ble_eq_true rfl) dL_isAhead_420 ⟨Nat.zero_le _, Nat.zero_le _⟩ (fun H locs hP hD hS => ?_)
        refine lv_istore (lv' := [(14, .int v41.1), (0, .ref ka), (1, .int x1), (2, .int x2), (8, .int x8), (12, .int x12), (13, .int x13)]) hx hb dL_isAhead_423 hl (by decide) rfl (fun ls hl => ?_)
        refine lv_iload hx hb dL_isAhead_425 (lv_at hl 6 rfl) ?_
        refine lv_iload hx hb dL_isAhead_427 (lv_at hl 4 rfl) ?_
        refine lv_icmp_ge (tgt := 449) hx hb dL_isAhead_429 (by decide) (fun c42 => ?_) (fun c42 => ?_)
        · have hf := it_t hf c42
          refine lv_iload hx hb dL_isAhead_449 (lv_at hl 0 rfl) ?_
          refine lv_bipush (v := (-6 : Int32)) hx hb dL_isAhead_451 kc_bipush_m6 ?_
          refine lv_icmp_ne (tgt := 460) hx hb dL_isAhead_453 (by decide) (fun c43 => ?_) (fun c43 => ?_)
          · have hf := it_f hf c43
            refine lv_iconst (v := (0 : Int32)) hx hb dL_isAhead_460 kc_iconst_0 ?_
            refine lv_istore (lv' := [(12, .int (0 : Int32)), (14, .int v41.1), (0, .ref ka), (1, .int x1), (2, .int x2), (8, .int x8), (13, .int x13)]) hx hb dL_isAhead_461 hl (by decide) rfl (fun ls hl => ?_)
            refine lv_iinc (v := (x13 + (1 : Int32))) (lv' := [(13, .int (x13 + (1 : Int32))), (12, .int (0 : Int32)), (14, .int v41.1), (0, .ref ka), (1, .int x1), (2, .int x2), (8, .int x8)]) hx hb dL_isAhead_463 hl (k := 6) rfl rfl (by decide) rfl (fun ls hl => ?_)
            refine lv_goto (tgt := 401) hx hb dL_isAhead_466 (by decide) ?_
            exact ih _ _ _ hf H locs ls hP hD hS (lv_sub hl [3, 4, 5, 6, 1, 0] rfl)
          · have hf := it_t hf c43
            refine lv_iconst (v := (1 : Int32)) hx hb dL_isAhead_456 kc_iconst_1 ?_
            refine lv_goto (tgt := 461) hx hb dL_isAhead_457 (by decide) ?_
            refine lv_istore (lv' := [(12, .int (1 : Int32)), (14, .int v41.1), (0, .ref ka), (1, .int x1), (2, .int x2), (8, .int x8), (13, .int x13)]) hx hb dL_isAhead_461 hl (by decide) rfl (fun ls hl => ?_)
            refine lv_iinc (v := (x13 + (1 : Int32))) (lv' := [(13, .int (x13 + (1 : Int32))), (12, .int (1 : Int32)), (14, .int v41.1), (0, .ref ka), (1, .int x1), (2, .int x2), (8, .int x8)]) hx hb dL_isAhead_463 hl (k := 6) rfl rfl (by decide) rfl (fun ls hl => ?_)
            refine lv_goto (tgt := 401) hx hb dL_isAhead_466 (by decide) ?_
            exact ih _ _ _ hf H locs ls hP hD hS (lv_sub hl [3, 4, 5, 6, 1, 0] rfl)
        · have hf := it_f hf c42
          refine lv_aload_n hx hb dL_isAhead_432 rfl (lv_at hl 1 rfl) ?_
          refine lv_iload hx hb dL_isAhead_433 (lv_at hl 0 rfl) ?_
          obtain ⟨v44, hv44, hf⟩ := it_b hf
          refine cQi (As := [.int v41.1]) (rest := []) (q0 := 0) (ci := 5) S (c_X5_inletOf l D cI cN ka (qo 0) a2 a3 (t 0) (h 0) (u 0) q _ kx n v41.1 v44 hv44) (cwV 1 hts gL_isAhead_X5_inletOf rfl rfl rfl (by decide +kernel) ⟨Nat.le_of_ble_eq_true rfl, Nat.le_of_ble_eq_true rfl⟩) hK hP hS hA (P_sel [(true, (cxW ka (q 0) (qo 0) a2 a3 (t 0) (h 0) (u 0) (kx.1 7)), (cxW ka (q 0) (qo 0) a2 a3 (t 0) (h 0) (u 0) (kx.1 7))), (false, (hiW cI cN h hq hi), (hiW cI cN h hq hi)), (false, (txW cI u x), (txW cI u x)), (false, (nwW cI qo o), (nwW cI qo o)), (false, (rtW cI t v41.2), (rtW cI t v41.2)), (true, (nwW cI q n), (nwW cI q n))] hP) rfl rfl rfl hl.1 rfl (Nat.le_of_ble_eq_true rfl) dL_isAhead_435 ⟨Nat.zero_le _, Nat.zero_le _⟩ (fun H locs hP hS => ?_)
          refine lv_if_lt (tgt := 445) hx hb dL_isAhead_438 (by decide) (fun c45 => ?_) (fun c45 => ?_)
          · have hf := it_t hf c45
            refine lv_iconst (v := (0 : Int32)) hx hb dL_isAhead_445 kc_iconst_0 ?_
            refine lv_goto (tgt := 461) hx hb dL_isAhead_446 (by decide) ?_
            refine lv_istore (lv' := [(12, .int (0 : Int32)), (14, .int v41.1), (0, .ref ka), (1, .int x1), (2, .int x2), (8, .int x8), (13, .int x13)]) hx hb dL_isAhead_461 hl (by decide) rfl (fun ls hl => ?_)
            refine lv_iinc (v := (x13 + (1 : Int32))) (lv' := [(13, .int (x13 + (1 : Int32))), (12, .int (0 : Int32)), (14, .int v41.1), (0, .ref ka), (1, .int x1), (2, .int x2), (8, .int x8)]) hx hb dL_isAhead_463 hl (k := 6) rfl rfl (by decide) rfl (fun ls hl => ?_)
            refine lv_goto (tgt := 401) hx hb dL_isAhead_466 (by decide) ?_
            exact ih _ _ _ hf H locs ls hP hD hS (lv_sub hl [3, 4, 5, 6, 1, 0] rfl)
          · have hf := it_f hf c45
            refine lv_iconst (v := (1 : Int32)) hx hb dL_isAhead_441 kc_iconst_1 ?_
            refine lv_goto (tgt := 461) hx hb dL_isAhead_442 (by decide) ?_
            refine lv_istore (lv' := [(12, .int (1 : Int32)), (14, .int v41.1), (0, .ref ka), (1, .int x1), (2, .int x2), (8, .int x8), (13, .int x13)]) hx hb dL_isAhead_461 hl (by decide) rfl (fun ls hl => ?_)
            refine lv_iinc (v := (x13 + (1 : Int32))) (lv' := [(13, .int (x13 + (1 : Int32))), (12, .int (1 : Int32)), (14, .int v41.1), (0, .ref ka), (1, .int x1), (2, .int x2), (8, .int x8)]) hx hb dL_isAhead_463 hl (k := 6) rfl rfl (by decide) rfl (fun ls hl => ?_)
            refine lv_goto (tgt := 401) hx hb dL_isAhead_466 (by decide) ?_
            exact ih _ _ _ hf H locs ls hP hD hS (lv_sub hl [3, 4, 5, 6, 1, 0] rfl)
set_option maxRecDepth 100000 in
set_option maxHeartbeats 4000000 in
theorem w_L_isAhead_0 {p : Program} {l : Launch} {e : Env} {s : State} {m : MethodId} {args : Array Value} {below : List Frame} {meth : Method} {c : Code} {Q : State → Prop} {D : va_G} {cI cN : ClassId} {A : Nat → Prop} {ka a2 a3 : Nat} {h : Nat → Nat} {hq : Nat → Nat → Nat} {u : Nat → Nat} {qo : Nat → Nat} {t : Nat → Nat} {q : Nat → Nat} (S : CallFix p m c cL_isAhead 15 s args wsL_isAhead RL) (hK : KN D cI cN s) (hA : ∀ q : Nat, s.heap.size ≤ q → A q) {kx : OS} {hi : HS} {x : OS} {o : OS} {r : OS} {n : OS} {x1 : Int32} {x2 : Int32} {r0 : Int32} {hi' : HS} {o' : OS} {r' : OS} {n' : OS} (hret : ∀ (H : Heap) (locs : List Loc) (ls : Array Slot) (pc : Nat), decode cL_isAhead pc = .ok (.ireturn, 1) → narrow .boolean (.int r0) = .int r0 → va_P D vwCl ((cxW ka (q 0) (qo 0) a2 a3 (t 0) (h 0) (u 0) (kx.1 7)) ++ ((hiW cI cN h hq hi') ++ ((txW cI u x) ++ ((nwW cI qo o') ++ ((rtW cI t r') ++ (nwW cI q n')))))) H → va_D A ((cxW ka (q 0) (qo 0) a2 a3 (t 0) (h 0) (u 0) (kx.1 7)) ++ ((hiW cI cN h hq hi') ++ ((txW cI u x) ++ ((nwW cI qo o') ++ ((rtW cI t r') ++ (nwW cI q n')))))) → va_S A s.heap H locs → W p l e (headSpec wsL_isAhead rm_L_isAhead).room s m args below meth c H locs 0 0 Q (F0 m pc ls [.int r0])) (hf : fL_isAhead kx hi x o r n x1 x2 = some (r0, hi', o', r', n')) (H : Heap) (locs : List Loc) (ls : Array Slot) (hP : va_P D vwCl ((cxW ka (q 0) (qo 0) a2 a3 (t 0) (h 0) (u 0) (kx.1 7)) ++ ((hiW cI cN h hq hi) ++ ((txW cI u x) ++ ((nwW cI qo o) ++ ((rtW cI t r) ++ (nwW cI q n)))))) H) (hD : va_D A ((cxW ka (q 0) (qo 0) a2 a3 (t 0) (h 0) (u 0) (kx.1 7)) ++ ((hiW cI cN h hq hi) ++ ((txW cI u x) ++ ((nwW cI qo o) ++ ((rtW cI t r) ++ (nwW cI q n))))))) (hS : va_S A s.heap H locs) (hl : lv_has ls 15 [(0, .ref ka), (1, .int x1), (2, .int x2)]) : W p l e (headSpec wsL_isAhead rm_L_isAhead).room s m args below meth c H locs 0 0 Q (F0 m 0 ls []) := by
  obtain ⟨hx, hb, hml, hown, hts⟩ := id S
  unfold fL_isAhead at hf
  refine lv_aload_n hx hb dL_isAhead_0 rfl (lv_at hl 0 rfl) ?_
  obtain ⟨v1, hv1, hf⟩ := it_b hf
  refine cTl (As := [.ref ka]) (rest := []) S (c_L_told l D cI cN ka (qo 0) a2 a3 (t 0) h hq u q _ kx hi x n v1 hv1) (va_cwS 1 hts gL_isAhead_L_told rfl rfl rfl (by decide +kernel) ⟨Nat.le_of_ble_eq_true rfl, Nat.le_of_ble_eq_true rfl⟩) hK hP hS hA (P_sel [(true, (cxW ka (q 0) (qo 0) a2 a3 (t 0) (h 0) (u 0) (kx.1 7)), (cxW ka (q 0) (qo 0) a2 a3 (t 0) (h 0) (u 0) (kx.1 7))), (true, (hiW cI cN h hq hi), (hiW cI cN h hq hi)), (true, (txW cI u x), (txW cI u x)), (false, (nwW cI qo o), (nwW cI qo o)), (false, (rtW cI t r), (rtW cI t r)), (true, (nwW cI q n), (nwW cI q n))] hP) rfl hl.1 rfl (Nat.le_of_ble_eq_true rfl) dL_isAhead_1 ⟨Nat.zero_le _, Nat.zero_le _⟩ (fun H locs hP hS => ?_)
  refine lv_lstore_n (lv' := [(3, .long v1), (0, .ref ka), (1, .int x1), (2, .int x2)]) hx hb dL_isAhead_4 rfl hl (by decide) rfl (fun ls hl => ?_)
  refine lv_aload_n hx hb dL_isAhead_5 rfl (lv_at hl 1 rfl) ?_
  refine lv_iload_n hx hb dL_isAhead_6 rfl (lv_at hl 2 rfl) ?_
  obtain ⟨v2, hv2, hf⟩ := it_b hf
  refine cTl (As := [.ref ka, .int x1]) (rest := []) S (c_L_ends l D cI cN ka (qo 0) a2 a3 (t 0) h hq u q _ kx hi x n x1 v2 hv2) (va_cwS 2 hts gL_isAhead_L_ends rfl rfl rfl (by decide +kernel) ⟨Nat.le_of_ble_eq_true rfl, Nat.le_of_ble_eq_true rfl⟩) hK hP hS hA (P_sel [(true, (cxW ka (q 0) (qo 0) a2 a3 (t 0) (h 0) (u 0) (kx.1 7)), (cxW ka (q 0) (qo 0) a2 a3 (t 0) (h 0) (u 0) (kx.1 7))), (true, (hiW cI cN h hq hi), (hiW cI cN h hq hi)), (true, (txW cI u x), (txW cI u x)), (false, (nwW cI qo o), (nwW cI qo o)), (false, (rtW cI t r), (rtW cI t r)), (true, (nwW cI q n), (nwW cI q n))] hP) rfl hl.1 rfl (Nat.le_of_ble_eq_true rfl) dL_isAhead_7 ⟨Nat.zero_le _, Nat.zero_le _⟩ (fun H locs hP hS => ?_)
  refine lv_lstore (lv' := [(5, .long v2), (3, .long v1), (0, .ref ka), (1, .int x1), (2, .int x2)]) hx hb dL_isAhead_10 hl (by decide) rfl (fun ls hl => ?_)
  refine lv_aload_n hx hb dL_isAhead_12 rfl (lv_at hl 2 rfl) ?_
  refine lv_iconst (v := (1 : Int32)) hx hb dL_isAhead_13 kc_iconst_1 ?_
  obtain ⟨v3, hv3, hf⟩ := it_b hf
  refine cQi (As := [.int (1 : Int32)]) (rest := []) (q0 := 0) (ci := 5) S (c_X5_total l D cI cN ka (qo 0) a2 a3 (t 0) h hq u q _ kx hi x n (1 : Int32) v3 hv3) (cwV 1 hts gL_isAhead_X5_total rfl rfl rfl (by decide +kernel) ⟨Nat.le_of_ble_eq_true rfl, Nat.le_of_ble_eq_true rfl⟩) hK hP hS hA (P_sel [(true, (cxW ka (q 0) (qo 0) a2 a3 (t 0) (h 0) (u 0) (kx.1 7)), (cxW ka (q 0) (qo 0) a2 a3 (t 0) (h 0) (u 0) (kx.1 7))), (true, (hiW cI cN h hq hi), (hiW cI cN h hq hi)), (true, (txW cI u x), (txW cI u x)), (false, (nwW cI qo o), (nwW cI qo o)), (false, (rtW cI t r), (rtW cI t r)), (true, (nwW cI q n), (nwW cI q n))] hP) rfl rfl rfl hl.1 rfl (Nat.le_of_ble_eq_true rfl) dL_isAhead_14 ⟨Nat.zero_le _, Nat.zero_le _⟩ (fun H locs hP hS => ?_)
  refine lv_istore (lv' := [(7, .int v3), (5, .long v2), (3, .long v1), (0, .ref ka), (1, .int x1), (2, .int x2)]) hx hb dL_isAhead_17 hl (by decide) rfl (fun ls hl => ?_)
  refine lv_aload_n hx hb dL_isAhead_19 rfl (lv_at hl 3 rfl) ?_
  refine lv_iload_n hx hb dL_isAhead_20 rfl (lv_at hl 4 rfl) ?_
  refine lv_iload_n hx hb dL_isAhead_21 rfl (lv_at hl 5 rfl) ?_
  obtain ⟨v4, hv4, hf⟩ := it_b hf
  refine cBi (As := [.int x1, .int x2]) (rest := []) (q0 := 0) (ci := 5) [(true, (cxW ka (q 0) (qo 0) a2 a3 (t 0) (h 0) (u 0) (kx.1 7)), (cxW ka (q 0) (qo 0) a2 a3 (t 0) (h 0) (u 0) (kx.1 7))), (false, (hiW cI cN h hq hi), (hiW cI cN h hq hi)), (false, (txW cI u x), (txW cI u x)), (false, (nwW cI qo o), (nwW cI qo o)), (true, (rtW cI t r), (rtW cI t v4.2)), (true, (nwW cI q n), (nwW cI q n))] ⟨ad_cex, (fun h => Bool.noConfusion h), rfl, (fun _ => rfl), rfl, (fun _ => rfl), rfl, (fun _ => rfl), ad_rtr, (fun h => Bool.noConfusion h), ad_net, (fun h => Bool.noConfusion h), trivial⟩ S (c_X5_wouldMove l D cI cN ka (qo 0) a2 a3 (h 0) (u 0) t q _ kx r n x1 x2 v4.1 v4.2 hv4) (cwV 2 hts gL_isAhead_X5_wouldMove rfl rfl rfl (by decide +kernel) ⟨Nat.le_of_ble_eq_true rfl, Nat.le_of_ble_eq_true rfl⟩) hK hP hD hS hA rfl rfl rfl hl.1 rfl (Nat.le_of_ble_eq_true rfl) dL_isAhead_22 ⟨Nat.zero_le _, Nat.zero_le _⟩ (fun H locs hP hD hS => ?_)
  refine lv_istore (lv' := [(8, .int v4.1), (7, .int v3), (5, .long v2), (3, .long v1), (0, .ref ka), (1, .int x1), (2, .int x2)]) hx hb dL_isAhead_25 hl (by decide) rfl (fun ls hl => ?_)
  refine lv_aload_n hx hb dL_isAhead_27 rfl (lv_at hl 4 rfl) ?_
  refine lv_iload_n hx hb dL_isAhead_28 rfl (lv_at hl 5 rfl) ?_
  refine lv_iload_n hx hb dL_isAhead_29 rfl (lv_at hl 6 rfl) ?_
  obtain ⟨v5, hv5, hf⟩ := it_b hf
  refine cQi (As := [.int x1, .int x2]) (rest := []) (q0 := 0) (ci := 5) S (c_X5_reason l D cI cN ka (qo 0) a2 a3 (t 0) (h 0) (u 0) q _ kx n x1 x2 v5 hv5) (cwV 2 hts gL_isAhead_X5_reason rfl rfl rfl (by decide +kernel) ⟨Nat.le_of_ble_eq_true rfl, Nat.le_of_ble_eq_true rfl⟩) hK hP hS hA (P_sel [(true, (cxW ka (q 0) (qo 0) a2 a3 (t 0) (h 0) (u 0) (kx.1 7)), (cxW ka (q 0) (qo 0) a2 a3 (t 0) (h 0) (u 0) (kx.1 7))), (false, (hiW cI cN h hq hi), (hiW cI cN h hq hi)), (false, (txW cI u x), (txW cI u x)), (false, (nwW cI qo o), (nwW cI qo o)), (false, (rtW cI t v4.2), (rtW cI t v4.2)), (true, (nwW cI q n), (nwW cI q n))] hP) rfl rfl rfl hl.1 rfl (Nat.le_of_ble_eq_true rfl) dL_isAhead_30 ⟨Nat.zero_le _, Nat.zero_le _⟩ (fun H locs hP hS => ?_)
  refine lv_istore (lv' := [(9, .int v5), (8, .int v4.1), (7, .int v3), (5, .long v2), (3, .long v1), (0, .ref ka), (1, .int x1), (2, .int x2)]) hx hb dL_isAhead_33 hl (by decide) rfl (fun ls hl => ?_)
  refine lv_aload_n hx hb dL_isAhead_35 rfl (lv_at hl 5 rfl) ?_
  refine lv_bipush (v := (9 : Int32)) hx hb dL_isAhead_36 kc_bipush_9 ?_
  obtain ⟨v6, hv6, hf⟩ := it_b hf
  refine cQi (As := [.int (9 : Int32)]) (rest := []) (q0 := 0) (ci := 5) S (c_X5_total l D cI cN ka (qo 0) a2 a3 (t 0) h hq u q _ kx hi x n (9 : Int32) v6 hv6) (cwV 1 hts gL_isAhead_X5_total rfl rfl rfl (by decide +kernel) ⟨Nat.le_of_ble_eq_true rfl, Nat.le_of_ble_eq_true rfl⟩) hK hP hS hA (P_sel [(true, (cxW ka (q 0) (qo 0) a2 a3 (t 0) (h 0) (u 0) (kx.1 7)), (cxW ka (q 0) (qo 0) a2 a3 (t 0) (h 0) (u 0) (kx.1 7))), (true, (hiW cI cN h hq hi), (hiW cI cN h hq hi)), (true, (txW cI u x), (txW cI u x)), (false, (nwW cI qo o), (nwW cI qo o)), (false, (rtW cI t v4.2), (rtW cI t v4.2)), (true, (nwW cI q n), (nwW cI q n))] hP) rfl rfl rfl hl.1 rfl (Nat.le_of_ble_eq_true rfl) dL_isAhead_38 ⟨Nat.zero_le _, Nat.zero_le _⟩ (fun H locs hP hS => ?_)
  refine lv_istore (lv' := [(10, .int v6), (9, .int v5), (8, .int v4.1), (7, .int v3), (5, .long v2), (3, .long v1), (0, .ref ka), (1, .int x1), (2, .int x2)]) hx hb dL_isAhead_41 hl (by decide) rfl (fun ls hl => ?_)
  refine lv_aload_n hx hb dL_isAhead_43 rfl (lv_at hl 6 rfl) ?_
  refine lv_iload_n hx hb dL_isAhead_44 rfl (lv_at hl 7 rfl) ?_
  refine lv_iload_n hx hb dL_isAhead_45 rfl (lv_at hl 8 rfl) ?_
  obtain ⟨v7, hv7, hf⟩ := it_b hf
  refine cBi (As := [.int x1, .int x2]) (rest := []) (q0 := 0) (ci := 5) [(true, (cxW ka (q 0) (qo 0) a2 a3 (t 0) (h 0) (u 0) (kx.1 7)), (cxW ka (q 0) (qo 0) a2 a3 (t 0) (h 0) (u 0) (kx.1 7))), (true, (hiW cI cN h hq hi), (hiW cI cN h hq v7.2.1)), (false, (txW cI u x), (txW cI u x)), (true, (nwW cI qo o), (nwW cI qo v7.2.2.1)), (true, (rtW cI t v4.2), (rtW cI t v7.2.2.2.1)), (true, (nwW cI q n), (nwW cI q v7.2.2.2.2))] ⟨ad_cex, (fun h => Bool.noConfusion h), ad_his, (fun h => Bool.noConfusion h), rfl, (fun _ => rfl), ad_net, (fun h => Bool.noConfusion h), ad_rtr, (fun h => Bool.noConfusion h), ad_net, (fun h => Bool.noConfusion h), trivial⟩ S (c_X5_connect l D cI cN ka a2 a3 (u 0) h hq qo t q _ kx hi o v4.2 n x1 x2 v7.1 v7.2.1 v7.2.2.1 v7.2.2.2.1 v7.2.2.2.2 hv7) (cwV 2 hts gL_isAhead_X5_connect rfl rfl rfl (by decide +kernel) ⟨Nat.le_of_ble_eq_true rfl, Nat.le_of_ble_eq_true rfl⟩) hK hP hD hS hA rfl rfl rfl hl.1 rfl (Nat.le_of_ble_eq_true rfl) dL_isAhead_46 ⟨Nat.zero_le _, Nat.zero_le _⟩ (fun H locs hP hD hS => ?_)
  refine lv_istore (lv' := [(11, .int v7.1), (10, .int v6), (9, .int v5), (8, .int v4.1), (7, .int v3), (5, .long v2), (3, .long v1), (0, .ref ka), (1, .int x1), (2, .int x2)]) hx hb dL_isAhead_49 hl (by decide) rfl (fun ls hl => ?_)
  refine lv_iload hx hb dL_isAhead_51 (lv_at hl 0 rfl) ?_
  refine lv_if_ge (tgt := 253) hx hb dL_isAhead_53 (by decide) (fun c8 => ?_) (fun c8 => ?_)
  · have hf := it_t hf c8
    refine lv_iload hx hb dL_isAhead_253 (lv_at hl 3 rfl) ?_
    obtain ⟨v21, hg, hf⟩ := it_b hf
    have hj : ∀ (H : Heap) (locs : List Loc) (ls : Array Slot), va_P D vwCl ((cxW ka (q 0) (qo 0) a2 a3 (t 0) (h 0) (u 0) (kx.1 7)) ++ ((hiW cI cN h hq v7.2.1) ++ ((txW cI u x) ++ ((nwW cI qo v7.2.2.1) ++ ((rtW cI t v7.2.2.2.1) ++ (nwW cI q v7.2.2.2.2)))))) H → va_D A ((cxW ka (q 0) (qo 0) a2 a3 (t 0) (h 0) (u 0) (kx.1 7)) ++ ((hiW cI cN h hq v7.2.1) ++ ((txW cI u x) ++ ((nwW cI qo v7.2.2.1) ++ ((rtW cI t v7.2.2.2.1) ++ (nwW cI q v7.2.2.2.2)))))) → va_S A s.heap H locs → lv_has ls 15 [(0, .ref ka), (1, .int x1), (2, .int x2), (3, .long v1), (7, .int v3), (8, .int v4.1)] → W p l e (headSpec wsL_isAhead rm_L_isAhead).room s m args below meth c H locs 0 0 Q (F0 m 330 ls [.int v21]) := by
      intro H locs ls hP hD hS hl
      refine lv_istore (lv' := [(12, .int v21), (0, .ref ka), (1, .int x1), (2, .int x2), (3, .long v1), (7, .int v3), (8, .int v4.1)]) hx hb dL_isAhead_330 hl (by decide) rfl (fun ls hl => ?_)
      refine lv_iload hx hb dL_isAhead_332 (lv_at hl 0 rfl) ?_
      obtain ⟨v36, hg, hf⟩ := it_b hf
      have hj : ∀ (H : Heap) (locs : List Loc) (ls : Array Slot), va_P D vwCl ((cxW ka (q 0) (qo 0) a2 a3 (t 0) (h 0) (u 0) (kx.1 7)) ++ ((hiW cI cN h hq v36.2.1) ++ ((txW cI u x) ++ ((nwW cI qo v7.2.2.1) ++ ((rtW cI t v7.2.2.2.1) ++ (nwW cI q v36.2.2)))))) H → va_D A ((cxW ka (q 0) (qo 0) a2 a3 (t 0) (h 0) (u 0) (kx.1 7)) ++ ((hiW cI cN h hq v36.2.1) ++ ((txW cI u x) ++ ((nwW cI qo v7.2.2.1) ++ ((rtW cI t v7.2.2.2.1) ++ (nwW cI q v36.2.2)))))) → va_S A s.heap H locs → lv_has ls 15 [(0, .ref ka), (1, .int x1), (2, .int x2), (8, .int v4.1)] → W p l e (headSpec wsL_isAhead rm_L_isAhead).room s m args below meth c H locs 0 0 Q (F0 m 396 ls [.int v36.1]) := by
        intro H locs ls hP hD hS hl
        refine lv_istore (lv' := [(12, .int v36.1), (0, .ref ka), (1, .int x1), (2, .int x2), (8, .int v4.1)]) hx hb dL_isAhead_396 hl (by decide) rfl (fun ls hl => ?_)
        refine lv_iconst (v := (0 : Int32)) hx hb dL_isAhead_398 kc_iconst_0 ?_
        refine lv_istore (lv' := [(13, .int (0 : Int32)), (12, .int v36.1), (0, .ref ka), (1, .int x1), (2, .int x2), (8, .int v4.1)]) hx hb dL_isAhead_399 hl (by decide) rfl (fun ls hl => ?_)
        exact w_L_isAhead_401 S hK hA hret _ _ _ _ hf H locs ls hP hD hS (lv_sub hl [2, 3, 4, 5, 1, 0] rfl)
      have hf := hg
      refine lv_if_eq (tgt := 395) hx hb dL_isAhead_334 (by decide) (fun c22 => ?_) (fun c22 => ?_)
      · have hf := it_t hf c22
        refine lv_iconst (v := (0 : Int32)) hx hb dL_isAhead_395 kc_iconst_0 ?_
        have e0 := Option.some.inj hf
        subst e0
        exact hj H locs ls hP hD hS (lv_sub hl [1, 2, 3, 6] rfl)
      · have hf := it_f hf c22
        refine lv_aload_n hx hb dL_isAhead_337 rfl (lv_at hl 1 rfl) ?_
        obtain ⟨v23, hv23, hf⟩ := it_b hf
        refine cBi (As := []) (rest := []) (q0 := 0) (ci := 5) [(true, (cxW ka (q 0) (qo 0) a2 a3 (t 0) (h 0) (u 0) (kx.1 7)), (cxW ka (q 0) (qo 0) a2 a3 (t 0) (h 0) (u 0) (kx.1 7))), (true, (hiW cI cN h hq v7.2.1), (hiW cI cN h hq v23.2.1)), (false, (txW cI u x), (txW cI u x)), (false, (nwW cI qo v7.2.2.1), (nwW cI qo v7.2.2.1)), (false, (rtW cI t v7.2.2.2.1), (rtW cI t v7.2.2.2.1)), (true, (nwW cI q v7.2.2.2.2), (nwW cI q v23.2.2))] ⟨ad_cex, (fun h => Bool.noConfusion h), ad_his, (fun h => Bool.noConfusion h), rfl, (fun _ => rfl), rfl, (fun _ => rfl), rfl, (fun _ => rfl), ad_net, (fun h => Bool.noConfusion h), trivial⟩ S (c_X5_undo l D cI cN ka (qo 0) a2 a3 (t 0) (u 0) h hq q _ kx v7.2.1 v7.2.2.2.2 v23.1 v23.2.1 v23.2.2 hv23) (cwV 0 hts gL_isAhead_X5_undo rfl rfl rfl (by decide +kernel) ⟨Nat.le_of_ble_eq_true rfl, Nat.le_of_ble_eq_true rfl⟩) hK hP hD hS hA rfl rfl rfl hl.1 rfl (Nat.le_of_ble_eq_true rfl) dL_isAhead_338 ⟨Nat.zero_le _, Nat.zero_le _⟩ (fun H locs hP hD hS => ?_)
        refine lv_if_lt (tgt := 395) hx hb dL_isAhead_341 (by decide) (fun c24 => ?_) (fun c24 => ?_)
        · have hf := it_t hf c24
          refine lv_iconst (v := (0 : Int32)) hx hb dL_isAhead_395 kc_iconst_0 ?_
          have e0 := Option.some.inj hf
          subst e0
          exact hj H locs ls hP hD hS (lv_sub hl [1, 2, 3, 6] rfl)
        · have hf := it_f hf c24
          refine lv_aload_n hx hb dL_isAhead_344 rfl (lv_at hl 1 rfl) ?_
          obtain ⟨v25, hv25, hf⟩ := it_b hf
          refine cTl (As := [.ref ka]) (rest := []) S (c_L_told l D cI cN ka (qo 0) a2 a3 (t 0) h hq u q _ kx v23.2.1 x v23.2.2 v25 hv25) (va_cwS 1 hts gL_isAhead_L_told rfl rfl rfl (by decide +kernel) ⟨Nat.le_of_ble_eq_true rfl, Nat.le_of_ble_eq_true rfl⟩) hK hP hS hA (P_sel [(true, (cxW ka (q 0) (qo 0) a2 a3 (t 0) (h 0) (u 0) (kx.1 7)), (cxW ka (q 0) (qo 0) a2 a3 (t 0) (h 0) (u 0) (kx.1 7))), (true, (hiW cI cN h hq v23.2.1), (hiW cI cN h hq v23.2.1)), (true, (txW cI u x), (txW cI u x)), (false, (nwW cI qo v7.2.2.1), (nwW cI qo v7.2.2.1)), (false, (rtW cI t v7.2.2.2.1), (rtW cI t v7.2.2.2.1)), (true, (nwW cI q v23.2.2), (nwW cI q v23.2.2))] hP) rfl hl.1 rfl (Nat.le_of_ble_eq_true rfl) dL_isAhead_345 ⟨Nat.zero_le _, Nat.zero_le _⟩ (fun H locs hP hS => ?_)
          refine lv_lload_n hx hb dL_isAhead_348 rfl (lv_at hl 4 rfl) ?_
          refine W.lcmp hx hb dL_isAhead_349 ?_
          refine lv_if_ne (tgt := 395) hx hb dL_isAhead_350 (by decide) (fun c26 => ?_) (fun c26 => ?_)
          · have hf := it_f hf c26
            refine lv_iconst (v := (0 : Int32)) hx hb dL_isAhead_395 kc_iconst_0 ?_
            have e0 := Option.some.inj hf
            subst e0
            exact hj H locs ls hP hD hS (lv_sub hl [1, 2, 3, 6] rfl)
          · have hf := it_t hf c26
            refine lv_aload_n hx hb dL_isAhead_353 rfl (lv_at hl 1 rfl) ?_
            refine lv_iload_n hx hb dL_isAhead_354 rfl (lv_at hl 2 rfl) ?_
            refine lv_iload hx hb dL_isAhead_355 (lv_at hl 5 rfl) ?_
            obtain ⟨c27, hf⟩ := it_g hf
            refine lv_idiv hx hb dL_isAhead_357 c27 ?_
            obtain ⟨v28, hv28, hf⟩ := it_b hf
            refine cQi (As := [.int (x1 / v3)]) (rest := []) (q0 := 0) (ci := 5) S (c_X5_freeForFirst l D cI cN ka (qo 0) a2 a3 (t 0) (h 0) (u 0) q _ kx v23.2.2 (x1 / v3) v28 hv28) (cwV 1 hts gL_isAhead_X5_freeForFirst rfl rfl rfl (by decide +kernel) ⟨Nat.le_of_ble_eq_true rfl, Nat.le_of_ble_eq_true rfl⟩) hK hP hS hA (P_sel [(true, (cxW ka (q 0) (qo 0) a2 a3 (t 0) (h 0) (u 0) (kx.1 7)), (cxW ka (q 0) (qo 0) a2 a3 (t 0) (h 0) (u 0) (kx.1 7))), (false, (hiW cI cN h hq v23.2.1), (hiW cI cN h hq v23.2.1)), (false, (txW cI u x), (txW cI u x)), (false, (nwW cI qo v7.2.2.1), (nwW cI qo v7.2.2.1)), (false, (rtW cI t v7.2.2.2.1), (rtW cI t v7.2.2.2.1)), (true, (nwW cI q v23.2.2), (nwW cI q v23.2.2))] hP) rfl rfl rfl hl.1 rfl (Nat.le_of_ble_eq_true rfl) dL_isAhead_358 ⟨Nat.zero_le _, Nat.zero_le _⟩ (fun H locs hP hS => ?_)
            refine lv_aload_n hx hb dL_isAhead_361 rfl (lv_at hl 1 rfl) ?_
            refine lv_iload_n hx hb dL_isAhead_362 rfl (lv_at hl 3 rfl) ?_
            refine lv_iload hx hb dL_isAhead_363 (lv_at hl 5 rfl) ?_
            obtain ⟨c29, hf⟩ := it_g hf
            refine lv_idiv hx hb dL_isAhead_365 c29 ?_
            obtain ⟨v30, hv30, hf⟩ := it_b hf
            refine cQi (As := [.int (x2 / v3)]) (rest := [.int v28]) (q0 := 0) (ci := 5) S (c_X5_freeForLast l D cI cN ka (qo 0) a2 a3 (t 0) (h 0) (u 0) q _ kx v23.2.2 (x2 / v3) v30 hv30) (cwV 1 hts gL_isAhead_X5_freeForLast rfl rfl rfl (by decide +kernel) ⟨Nat.le_of_ble_eq_true rfl, Nat.le_of_ble_eq_true rfl⟩) hK hP hS hA (P_sel [(true, (cxW ka (q 0) (qo 0) a2 a3 (t 0) (h 0) (u 0) (kx.1 7)), (cxW ka (q 0) (qo 0) a2 a3 (t 0) (h 0) (u 0) (kx.1 7))), (false, (hiW cI cN h hq v23.2.1), (hiW cI cN h hq v23.2.1)), (false, (txW cI u x), (txW cI u x)), (false, (nwW cI qo v7.2.2.1), (nwW cI qo v7.2.2.1)), (false, (rtW cI t v7.2.2.2.1), (rtW cI t v7.2.2.2.1)), (true, (nwW cI q v23.2.2), (nwW cI q v23.2.2))] hP) rfl rfl rfl hl.1 rfl (Nat.le_of_ble_eq_true rfl) dL_isAhead_366 ⟨Nat.zero_le _, Nat.zero_le _⟩ (fun H locs hP hS => ?_)
            refine lv_iand hx hb dL_isAhead_369 ?_
            obtain ⟨v32, hg, hf⟩ := it_j hf
            have hj : ∀ (H : Heap) (locs : List Loc) (ls : Array Slot), va_P D vwCl ((cxW ka (q 0) (qo 0) a2 a3 (t 0) (h 0) (u 0) (kx.1 7)) ++ ((hiW cI cN h hq v23.2.1) ++ ((txW cI u x) ++ ((nwW cI qo v7.2.2.1) ++ ((rtW cI t v7.2.2.2.1) ++ (nwW cI q v23.2.2)))))) H → va_D A ((cxW ka (q 0) (qo 0) a2 a3 (t 0) (h 0) (u 0) (kx.1 7)) ++ ((hiW cI cN h hq v23.2.1) ++ ((txW cI u x) ++ ((nwW cI qo v7.2.2.1) ++ ((rtW cI t v7.2.2.2.1) ++ (nwW cI q v23.2.2)))))) → va_S A s.heap H locs → lv_has ls 15 [(0, .ref ka), (1, .int x1), (2, .int x2), (8, .int v4.1)] → W p l e (headSpec wsL_isAhead rm_L_isAhead).room s m args below meth c H locs 0 0 Q (F0 m 378 ls [.int v32]) := by
              intro H locs ls hP hD hS hl
              refine lv_iload hx hb dL_isAhead_378 (lv_at hl 3 rfl) ?_
              obtain ⟨v34, hg, hf⟩ := it_j hf
              have hj : ∀ (H : Heap) (locs : List Loc) (ls : Array Slot), va_P D vwCl ((cxW ka (q 0) (qo 0) a2 a3 (t 0) (h 0) (u 0) (kx.1 7)) ++ ((hiW cI cN h hq v23.2.1) ++ ((txW cI u x) ++ ((nwW cI qo v7.2.2.1) ++ ((rtW cI t v7.2.2.2.1) ++ (nwW cI q v23.2.2)))))) H → va_D A ((cxW ka (q 0) (qo 0) a2 a3 (t 0) (h 0) (u 0) (kx.1 7)) ++ ((hiW cI cN h hq v23.2.1) ++ ((txW cI u x) ++ ((nwW cI qo v7.2.2.1) ++ ((rtW cI t v7.2.2.2.1) ++ (nwW cI q v23.2.2)))))) → va_S A s.heap H locs → lv_has ls 15 [(0, .ref ka), (1, .int x1), (2, .int x2), (8, .int v4.1)] → W p l e (headSpec wsL_isAhead rm_L_isAhead).room s m args below meth c H locs 0 0 Q (F0 m 388 ls [.int v34, .int v32]) := by
                intro H locs ls hP hD hS hl
                refine lv_icmp_ne (tgt := 395) hx hb dL_isAhead_388 (by decide) (fun c35 => ?_) (fun c35 => ?_)
                · have hf := it_f hf c35
                  refine lv_iconst (v := (0 : Int32)) hx hb dL_isAhead_395 kc_iconst_0 ?_
                  have e0 := Option.some.inj hf
                  subst e0
                  exact hj H locs ls hP hD hS (lv_sub hl [0, 1, 2, 3] rfl)
                · have hf := it_t hf c35
                  refine lv_iconst (v := (1 : Int32)) hx hb dL_isAhead_391 kc_iconst_1 ?_
                  refine lv_goto (tgt := 396) hx hb dL_isAhead_392 (by decide) ?_
                  have e0 := Option.some.inj hf
                  subst e0
                  exact hj H locs ls hP hD hS (lv_sub hl [0, 1, 2, 3] rfl)
              have hf := hg
              refine lv_if_ne (tgt := 387) hx hb dL_isAhead_380 (by decide) (fun c33 => ?_) (fun c33 => ?_)
              · have hf := it_f hf c33
                refine lv_iconst (v := (0 : Int32)) hx hb dL_isAhead_387 kc_iconst_0 ?_
                have e0 := hf
                subst e0
                exact hj H locs ls hP hD hS (lv_sub hl [0, 1, 2, 3] rfl)
              · have hf := it_t hf c33
                refine lv_iconst (v := (1 : Int32)) hx hb dL_isAhead_383 kc_iconst_1 ?_
                refine lv_goto (tgt := 388) hx hb dL_isAhead_384 (by decide) ?_
                have e0 := hf
                subst e0
                exact hj H locs ls hP hD hS (lv_sub hl [0, 1, 2, 3] rfl)
            have hf := hg
            refine lv_if_eq (tgt := 377) hx hb dL_isAhead_370 (by decide) (fun c31 => ?_) (fun c31 => ?_)
            · have hf := it_t hf c31
              refine lv_iconst (v := (0 : Int32)) hx hb dL_isAhead_377 kc_iconst_0 ?_
              have e0 := hf
              subst e0
              exact hj H locs ls hP hD hS (lv_sub hl [1, 2, 3, 6] rfl)
            · have hf := it_f hf c31
              refine lv_iconst (v := (1 : Int32)) hx hb dL_isAhead_373 kc_iconst_1 ?_
              refine lv_goto (tgt := 378) hx hb dL_isAhead_374 (by decide) ?_
              have e0 := hf
              subst e0
              exact hj H locs ls hP hD hS (lv_sub hl [1, 2, 3, 6] rfl)
    have hf := hg
    refine lv_if_lt (tgt := 329) hx hb dL_isAhead_255 (by decide) (fun c9 => ?_) (fun c9 => ?_)
    · have hf := it_t hf c9
      refine lv_iconst (v := (0 : Int32)) hx hb dL_isAhead_329 kc_iconst_0 ?_
      have e0 := Option.some.inj hf
      subst e0
      exact hj H locs ls hP hD hS (lv_sub hl [7, 8, 9, 6, 4, 3] rfl)
    · have hf := it_f hf c9
      refine lv_iload hx hb dL_isAhead_258 (lv_at hl 2 rfl) ?_
      refine lv_iload hx hb dL_isAhead_260 (lv_at hl 3 rfl) ?_
      obtain ⟨v11, hg, hf⟩ := it_j hf
      have hj : ∀ (H : Heap) (locs : List Loc) (ls : Array Slot), va_P D vwCl ((cxW ka (q 0) (qo 0) a2 a3 (t 0) (h 0) (u 0) (kx.1 7)) ++ ((hiW cI cN h hq v7.2.1) ++ ((txW cI u x) ++ ((nwW cI qo v7.2.2.1) ++ ((rtW cI t v7.2.2.2.1) ++ (nwW cI q v7.2.2.2.2)))))) H → va_D A ((cxW ka (q 0) (qo 0) a2 a3 (t 0) (h 0) (u 0) (kx.1 7)) ++ ((hiW cI cN h hq v7.2.1) ++ ((txW cI u x) ++ ((nwW cI qo v7.2.2.1) ++ ((rtW cI t v7.2.2.2.1) ++ (nwW cI q v7.2.2.2.2)))))) → va_S A s.heap H locs → lv_has ls 15 [(0, .ref ka), (1, .int x1), (2, .int x2), (3, .long v1), (5, .long v2), (7, .int v3), (8, .int v4.1), (10, .int v6), (11, .int v7.1)] → W p l e (headSpec wsL_isAhead rm_L_isAhead).room s m args below meth c H locs 0 0 Q (F0 m 270 ls [.int v11, .int v5]) := by
        intro H locs ls hP hD hS hl
        refine lv_icmp_ne (tgt := 329) hx hb dL_isAhead_270 (by decide) (fun c12 => ?_) (fun c12 => ?_)
        · have hf := it_f hf c12
          refine lv_iconst (v := (0 : Int32)) hx hb dL_isAhead_329 kc_iconst_0 ?_
          have e0 := Option.some.inj hf
          subst e0
          exact hj H locs ls hP hD hS (lv_sub hl [0, 1, 2, 3, 5, 6] rfl)
        · have hf := it_t hf c12
          refine lv_aload_n hx hb dL_isAhead_273 rfl (lv_at hl 0 rfl) ?_
          refine lv_bipush (v := (9 : Int32)) hx hb dL_isAhead_274 kc_bipush_9 ?_
          obtain ⟨v13, hv13, hf⟩ := it_b hf
          refine cQi (As := [.int (9 : Int32)]) (rest := []) (q0 := 0) (ci := 5) S (c_X5_total l D cI cN ka (qo 0) a2 a3 (t 0) h hq u q _ kx v7.2.1 x v7.2.2.2.2 (9 : Int32) v13 hv13) (cwV 1 hts gL_isAhead_X5_total rfl rfl rfl (by decide +kernel) ⟨Nat.le_of_ble_eq_true rfl, Nat.le_of_ble_eq_true rfl⟩) hK hP hS hA (P_sel [(true, (cxW ka (q 0) (qo 0) a2 a3 (t 0) (h 0) (u 0) (kx.1 7)), (cxW ka (q 0) (qo 0) a2 a3 (t 0) (h 0) (u 0) (kx.1 7))), (true, (hiW cI cN h hq v7.2.1), (hiW cI cN h hq v7.2.1)), (true, (txW cI u x), (txW cI u x)), (false, (nwW cI qo v7.2.2.1), (nwW cI qo v7.2.2.1)), (false, (rtW cI t v7.2.2.2.1), (rtW cI t v7.2.2.2.1)), (true, (nwW cI q v7.2.2.2.2), (nwW cI q v7.2.2.2.2))] hP) rfl rfl rfl hl.1 rfl (Nat.le_of_ble_eq_true rfl) dL_isAhead_276 ⟨Nat.zero_le _, Nat.zero_le _⟩ (fun H locs hP hS => ?_)
          refine lv_iload hx hb dL_isAhead_279 (lv_at hl 7 rfl) ?_
          refine lv_iload hx hb dL_isAhead_281 (lv_at hl 6 rfl) ?_
          refine lv_iadd hx hb dL_isAhead_283 ?_
          refine lv_icmp_ne (tgt := 329) hx hb dL_isAhead_284 (by decide) (fun c14 => ?_) (fun c14 => ?_)
          · have hf := it_f hf c14
            refine lv_iconst (v := (0 : Int32)) hx hb dL_isAhead_329 kc_iconst_0 ?_
            have e0 := Option.some.inj hf
            subst e0
            exact hj H locs ls hP hD hS (lv_sub hl [0, 1, 2, 3, 5, 6] rfl)
          · have hf := it_t hf c14
            refine lv_aload_n hx hb dL_isAhead_287 rfl (lv_at hl 0 rfl) ?_
            refine lv_iload_n hx hb dL_isAhead_288 rfl (lv_at hl 1 rfl) ?_
            obtain ⟨v15, hv15, hf⟩ := it_b hf
            refine cTl (As := [.ref ka, .int x1]) (rest := []) S (c_L_ends l D cI cN ka (qo 0) a2 a3 (t 0) h hq u q _ kx v7.2.1 x v7.2.2.2.2 x1 v15 hv15) (va_cwS 2 hts gL_isAhead_L_ends rfl rfl rfl (by decide +kernel) ⟨Nat.le_of_ble_eq_true rfl, Nat.le_of_ble_eq_true rfl⟩) hK hP hS hA (P_sel [(true, (cxW ka (q 0) (qo 0) a2 a3 (t 0) (h 0) (u 0) (kx.1 7)), (cxW ka (q 0) (qo 0) a2 a3 (t 0) (h 0) (u 0) (kx.1 7))), (true, (hiW cI cN h hq v7.2.1), (hiW cI cN h hq v7.2.1)), (true, (txW cI u x), (txW cI u x)), (false, (nwW cI qo v7.2.2.1), (nwW cI qo v7.2.2.1)), (false, (rtW cI t v7.2.2.2.1), (rtW cI t v7.2.2.2.1)), (true, (nwW cI q v7.2.2.2.2), (nwW cI q v7.2.2.2.2))] hP) rfl hl.1 rfl (Nat.le_of_ble_eq_true rfl) dL_isAhead_289 ⟨Nat.zero_le _, Nat.zero_le _⟩ (fun H locs hP hS => ?_)
            refine lv_lload hx hb dL_isAhead_292 (lv_at hl 4 rfl) ?_
            refine W.lcmp hx hb dL_isAhead_294 ?_
            refine lv_if_ne (tgt := 329) hx hb dL_isAhead_295 (by decide) (fun c16 => ?_) (fun c16 => ?_)
            · have hf := it_f hf c16
              refine lv_iconst (v := (0 : Int32)) hx hb dL_isAhead_329 kc_iconst_0 ?_
              have e0 := Option.some.inj hf
              subst e0
              exact hj H locs ls hP hD hS (lv_sub hl [0, 1, 2, 3, 5, 6] rfl)
            · have hf := it_t hf c16
              refine lv_aload_n hx hb dL_isAhead_298 rfl (lv_at hl 0 rfl) ?_
              refine lv_aload_n hx hb dL_isAhead_299 rfl (lv_at hl 0 rfl) ?_
              refine lv_iload_n hx hb dL_isAhead_300 rfl (lv_at hl 1 rfl) ?_
              refine cQi (As := [.int x1]) (rest := [.ref ka]) (q0 := 0) (ci := 5) S (c_X5_callOfInlet l D cI cN ka (qo 0) a2 a3 (t 0) (h 0) (u 0) q _ kx v7.2.2.2.2 x1 (fX5_callOfInlet kx v7.2.2.2.2 x1) rfl) (cwV 1 hts gL_isAhead_X5_callOfInlet rfl rfl rfl (by decide +kernel) ⟨Nat.le_of_ble_eq_true rfl, Nat.le_of_ble_eq_true rfl⟩) hK hP hS hA (P_sel [(true, (cxW ka (q 0) (qo 0) a2 a3 (t 0) (h 0) (u 0) (kx.1 7)), (cxW ka (q 0) (qo 0) a2 a3 (t 0) (h 0) (u 0) (kx.1 7))), (false, (hiW cI cN h hq v7.2.1), (hiW cI cN h hq v7.2.1)), (false, (txW cI u x), (txW cI u x)), (false, (nwW cI qo v7.2.2.1), (nwW cI qo v7.2.2.1)), (false, (rtW cI t v7.2.2.2.1), (rtW cI t v7.2.2.2.1)), (true, (nwW cI q v7.2.2.2.2), (nwW cI q v7.2.2.2.2))] hP) rfl rfl rfl hl.1 rfl (Nat.le_of_ble_eq_true rfl) dL_isAhead_301 ⟨Nat.zero_le _, Nat.zero_le _⟩ (fun H locs hP hS => ?_)
              obtain ⟨v17, hv17, hf⟩ := it_b hf
              refine cQi (As := [.int (fX5_callOfInlet kx v7.2.2.2.2 x1)]) (rest := []) (q0 := 0) (ci := 5) S (c_X5_middleOf l D cI cN ka (qo 0) a2 a3 (t 0) (h 0) (u 0) q _ kx v7.2.2.2.2 (fX5_callOfInlet kx v7.2.2.2.2 x1) v17 hv17) (cwV 1 hts gL_isAhead_X5_middleOf rfl rfl rfl (by decide +kernel) ⟨Nat.le_of_ble_eq_true rfl, Nat.le_of_ble_eq_true rfl⟩) hK hP hS hA (P_sel [(true, (cxW ka (q 0) (qo 0) a2 a3 (t 0) (h 0) (u 0) (kx.1 7)), (cxW ka (q 0) (qo 0) a2 a3 (t 0) (h 0) (u 0) (kx.1 7))), (false, (hiW cI cN h hq v7.2.1), (hiW cI cN h hq v7.2.1)), (false, (txW cI u x), (txW cI u x)), (false, (nwW cI qo v7.2.2.1), (nwW cI qo v7.2.2.1)), (false, (rtW cI t v7.2.2.2.1), (rtW cI t v7.2.2.2.1)), (true, (nwW cI q v7.2.2.2.2), (nwW cI q v7.2.2.2.2))] hP) rfl rfl rfl hl.1 rfl (Nat.le_of_ble_eq_true rfl) dL_isAhead_304 ⟨Nat.zero_le _, Nat.zero_le _⟩ (fun H locs hP hS => ?_)
              refine lv_iload hx hb dL_isAhead_307 (lv_at hl 8 rfl) ?_
              refine lv_icmp_ne (tgt := 329) hx hb dL_isAhead_309 (by decide) (fun c18 => ?_) (fun c18 => ?_)
              · have hf := it_f hf c18
                refine lv_iconst (v := (0 : Int32)) hx hb dL_isAhead_329 kc_iconst_0 ?_
                have e0 := Option.some.inj hf
                subst e0
                exact hj H locs ls hP hD hS (lv_sub hl [0, 1, 2, 3, 5, 6] rfl)
              · have hf := it_t hf c18
                refine lv_aload_n hx hb dL_isAhead_312 rfl (lv_at hl 0 rfl) ?_
                refine lv_aload_n hx hb dL_isAhead_313 rfl (lv_at hl 0 rfl) ?_
                refine lv_iload_n hx hb dL_isAhead_314 rfl (lv_at hl 1 rfl) ?_
                refine cQi (As := [.int x1]) (rest := [.ref ka]) (q0 := 0) (ci := 5) S (c_X5_callOfInlet l D cI cN ka (qo 0) a2 a3 (t 0) (h 0) (u 0) q _ kx v7.2.2.2.2 x1 (fX5_callOfInlet kx v7.2.2.2.2 x1) rfl) (cwV 1 hts gL_isAhead_X5_callOfInlet rfl rfl rfl (by decide +kernel) ⟨Nat.le_of_ble_eq_true rfl, Nat.le_of_ble_eq_true rfl⟩) hK hP hS hA (P_sel [(true, (cxW ka (q 0) (qo 0) a2 a3 (t 0) (h 0) (u 0) (kx.1 7)), (cxW ka (q 0) (qo 0) a2 a3 (t 0) (h 0) (u 0) (kx.1 7))), (false, (hiW cI cN h hq v7.2.1), (hiW cI cN h hq v7.2.1)), (false, (txW cI u x), (txW cI u x)), (false, (nwW cI qo v7.2.2.1), (nwW cI qo v7.2.2.1)), (false, (rtW cI t v7.2.2.2.1), (rtW cI t v7.2.2.2.1)), (true, (nwW cI q v7.2.2.2.2), (nwW cI q v7.2.2.2.2))] hP) rfl rfl rfl hl.1 rfl (Nat.le_of_ble_eq_true rfl) dL_isAhead_315 ⟨Nat.zero_le _, Nat.zero_le _⟩ (fun H locs hP hS => ?_)
                obtain ⟨v19, hv19, hf⟩ := it_b hf
                refine cQi (As := [.int (fX5_callOfInlet kx v7.2.2.2.2 x1)]) (rest := []) (q0 := 0) (ci := 5) S (c_X5_outletOf l D cI cN ka (qo 0) a2 a3 (t 0) (h 0) (u 0) q _ kx v7.2.2.2.2 (fX5_callOfInlet kx v7.2.2.2.2 x1) v19 hv19) (cwV 1 hts gL_isAhead_X5_outletOf rfl rfl rfl (by decide +kernel) ⟨Nat.le_of_ble_eq_true rfl, Nat.le_of_ble_eq_true rfl⟩) hK hP hS hA (P_sel [(true, (cxW ka (q 0) (qo 0) a2 a3 (t 0) (h 0) (u 0) (kx.1 7)), (cxW ka (q 0) (qo 0) a2 a3 (t 0) (h 0) (u 0) (kx.1 7))), (false, (hiW cI cN h hq v7.2.1), (hiW cI cN h hq v7.2.1)), (false, (txW cI u x), (txW cI u x)), (false, (nwW cI qo v7.2.2.1), (nwW cI qo v7.2.2.1)), (false, (rtW cI t v7.2.2.2.1), (rtW cI t v7.2.2.2.1)), (true, (nwW cI q v7.2.2.2.2), (nwW cI q v7.2.2.2.2))] hP) rfl rfl rfl hl.1 rfl (Nat.le_of_ble_eq_true rfl) dL_isAhead_318 ⟨Nat.zero_le _, Nat.zero_le _⟩ (fun H locs hP hS => ?_)
                refine lv_iload_n hx hb dL_isAhead_321 rfl (lv_at hl 2 rfl) ?_
                refine lv_icmp_ne (tgt := 329) hx hb dL_isAhead_322 (by decide) (fun c20 => ?_) (fun c20 => ?_)
                · have hf := it_f hf c20
                  refine lv_iconst (v := (0 : Int32)) hx hb dL_isAhead_329 kc_iconst_0 ?_
                  have e0 := Option.some.inj hf
                  subst e0
                  exact hj H locs ls hP hD hS (lv_sub hl [0, 1, 2, 3, 5, 6] rfl)
                · have hf := it_t hf c20
                  refine lv_iconst (v := (1 : Int32)) hx hb dL_isAhead_325 kc_iconst_1 ?_
                  refine lv_goto (tgt := 330) hx hb dL_isAhead_326 (by decide) ?_
                  have e0 := Option.some.inj hf
                  subst e0
                  exact hj H locs ls hP hD hS (lv_sub hl [0, 1, 2, 3, 5, 6] rfl)
      have hf := hg
      refine lv_if_le (tgt := 269) hx hb dL_isAhead_262 (by decide) (fun c10 => ?_) (fun c10 => ?_)
      · have hf := it_t hf c10
        refine lv_iconst (v := (0 : Int32)) hx hb dL_isAhead_269 kc_iconst_0 ?_
        have e0 := hf
        subst e0
        exact hj H locs ls hP hD hS (lv_sub hl [7, 8, 9, 6, 5, 4, 3, 1, 0] rfl)
      · have hf := it_f hf c10
        refine lv_iconst (v := (1 : Int32)) hx hb dL_isAhead_265 kc_iconst_1 ?_
        refine lv_goto (tgt := 270) hx hb dL_isAhead_266 (by decide) ?_
        have e0 := hf
        subst e0
        exact hj H locs ls hP hD hS (lv_sub hl [7, 8, 9, 6, 5, 4, 3, 1, 0] rfl)
  · have hf := it_f hf c8
    refine lv_iload hx hb dL_isAhead_56 (lv_at hl 0 rfl) ?_
    refine lv_iconst (v := (-1 : Int32)) hx hb dL_isAhead_58 kc_iconst_m1 ?_
    obtain ⟨v53, hg, hf⟩ := it_j hf
    have hj : ∀ (H : Heap) (locs : List Loc) (ls : Array Slot), va_P D vwCl ((cxW ka (q 0) (qo 0) a2 a3 (t 0) (h 0) (u 0) (kx.1 7)) ++ ((hiW cI cN h hq v7.2.1) ++ ((txW cI u x) ++ ((nwW cI qo v7.2.2.1) ++ ((rtW cI t v7.2.2.2.1) ++ (nwW cI q v7.2.2.2.2)))))) H → va_D A ((cxW ka (q 0) (qo 0) a2 a3 (t 0) (h 0) (u 0) (kx.1 7)) ++ ((hiW cI cN h hq v7.2.1) ++ ((txW cI u x) ++ ((nwW cI qo v7.2.2.1) ++ ((rtW cI t v7.2.2.2.1) ++ (nwW cI q v7.2.2.2.2)))))) → va_S A s.heap H locs → lv_has ls 15 [(0, .ref ka), (1, .int x1), (2, .int x2), (3, .long v1), (7, .int v3), (8, .int v4.1), (9, .int v5), (11, .int v7.1)] → W p l e (headSpec wsL_isAhead rm_L_isAhead).room s m args below meth c H locs 0 0 Q (F0 m 121 ls [.int v53]) := by
      intro H locs ls hP hD hS hl
      refine lv_istore (lv' := [(12, .int v53), (0, .ref ka), (1, .int x1), (2, .int x2), (3, .long v1), (7, .int v3), (8, .int v4.1), (9, .int v5), (11, .int v7.1)]) hx hb dL_isAhead_121 hl (by decide) rfl (fun ls hl => ?_)
      refine lv_iload hx hb dL_isAhead_123 (lv_at hl 8 rfl) ?_
      refine lv_bipush (v := (-4 : Int32)) hx hb dL_isAhead_125 kc_bipush_m4 ?_
      obtain ⟨v60, hg, hf⟩ := it_b hf
      have hj : ∀ (H : Heap) (locs : List Loc) (ls : Array Slot), va_P D vwCl ((cxW ka (q 0) (qo 0) a2 a3 (t 0) (h 0) (u 0) (kx.1 7)) ++ ((hiW cI cN h hq v7.2.1) ++ ((txW cI u x) ++ ((nwW cI qo v7.2.2.1) ++ ((rtW cI t v7.2.2.2.1) ++ (nwW cI q v7.2.2.2.2)))))) H → va_D A ((cxW ka (q 0) (qo 0) a2 a3 (t 0) (h 0) (u 0) (kx.1 7)) ++ ((hiW cI cN h hq v7.2.1) ++ ((txW cI u x) ++ ((nwW cI qo v7.2.2.1) ++ ((rtW cI t v7.2.2.2.1) ++ (nwW cI q v7.2.2.2.2)))))) → va_S A s.heap H locs → lv_has ls 15 [(0, .ref ka), (1, .int x1), (2, .int x2), (3, .long v1), (7, .int v3), (8, .int v4.1), (9, .int v5), (11, .int v7.1), (12, .int v53)] → W p l e (headSpec wsL_isAhead rm_L_isAhead).room s m args below meth c H locs 0 0 Q (F0 m 160 ls [.int v60]) := by
        intro H locs ls hP hD hS hl
        refine lv_istore (lv' := [(13, .int v60), (0, .ref ka), (1, .int x1), (2, .int x2), (3, .long v1), (7, .int v3), (8, .int v4.1), (9, .int v5), (11, .int v7.1), (12, .int v53)]) hx hb dL_isAhead_160 hl (by decide) rfl (fun ls hl => ?_)
        refine lv_iload hx hb dL_isAhead_162 (lv_at hl 8 rfl) ?_
        refine lv_bipush (v := (-4 : Int32)) hx hb dL_isAhead_164 kc_bipush_m4 ?_
        obtain ⟨v69, hg, hf⟩ := it_b hf
        have hj : ∀ (H : Heap) (locs : List Loc) (ls : Array Slot), va_P D vwCl ((cxW ka (q 0) (qo 0) a2 a3 (t 0) (h 0) (u 0) (kx.1 7)) ++ ((hiW cI cN h hq v7.2.1) ++ ((txW cI u x) ++ ((nwW cI qo v7.2.2.1) ++ ((rtW cI t v7.2.2.2.1) ++ (nwW cI q v7.2.2.2.2)))))) H → va_D A ((cxW ka (q 0) (qo 0) a2 a3 (t 0) (h 0) (u 0) (kx.1 7)) ++ ((hiW cI cN h hq v7.2.1) ++ ((txW cI u x) ++ ((nwW cI qo v7.2.2.1) ++ ((rtW cI t v7.2.2.2.1) ++ (nwW cI q v7.2.2.2.2)))))) → va_S A s.heap H locs → lv_has ls 15 [(0, .ref ka), (1, .int x1), (2, .int x2), (3, .long v1), (8, .int v4.1), (11, .int v7.1), (12, .int v53), (13, .int v60)] → W p l e (headSpec wsL_isAhead rm_L_isAhead).room s m args below meth c H locs 0 0 Q (F0 m 202 ls [.int v69]) := by
          intro H locs ls hP hD hS hl
          refine lv_istore (lv' := [(14, .int v69), (0, .ref ka), (1, .int x1), (2, .int x2), (3, .long v1), (8, .int v4.1), (11, .int v7.1), (12, .int v53), (13, .int v60)]) hx hb dL_isAhead_202 hl (by decide) rfl (fun ls hl => ?_)
          refine lv_iload hx hb dL_isAhead_204 (lv_at hl 5 rfl) ?_
          refine lv_iload hx hb dL_isAhead_206 (lv_at hl 6 rfl) ?_
          refine lv_icmp_ne (tgt := 251) hx hb dL_isAhead_208 (by decide) (fun c70 => ?_) (fun c70 => ?_)
          · have hf := it_f hf c70
            refine lv_iconst (v := (0 : Int32)) hx hb dL_isAhead_251 kc_iconst_0 ?_
            have e0 : (0 : Int32) = r0 := congrArg (fun z => z.1) (Option.some.inj hf)
            have e1 : v7.2.1 = hi' := congrArg (fun z => z.2.1) (Option.some.inj hf)
            have e2 : v7.2.2.1 = o' := congrArg (fun z => z.2.2.1) (Option.some.inj hf)
            have e3 : v7.2.2.2.1 = r' := congrArg (fun z => z.2.2.2.1) (Option.some.inj hf)
            have e4 : v7.2.2.2.2 = n' := congrArg (fun z => z.2.2.2.2) (Option.some.inj hf)
            subst e0
            subst e1
            subst e2
            subst e3
            subst e4
            exact hret H locs ls _ dL_isAhead_252 (by first | rfl | (split <;> rfl) | (split <;> (first | rfl | (split <;> rfl))) | assumption) hP hD hS
          · have hf := it_t hf c70
            refine lv_iload hx hb dL_isAhead_211 (lv_at hl 7 rfl) ?_
            refine lv_if_eq (tgt := 251) hx hb dL_isAhead_213 (by decide) (fun c71 => ?_) (fun c71 => ?_)
            · have hf := it_t hf c71
              refine lv_iconst (v := (0 : Int32)) hx hb dL_isAhead_251 kc_iconst_0 ?_
              have e0 : (0 : Int32) = r0 := congrArg (fun z => z.1) (Option.some.inj hf)
              have e1 : v7.2.1 = hi' := congrArg (fun z => z.2.1) (Option.some.inj hf)
              have e2 : v7.2.2.1 = o' := congrArg (fun z => z.2.2.1) (Option.some.inj hf)
              have e3 : v7.2.2.2.1 = r' := congrArg (fun z => z.2.2.2.1) (Option.some.inj hf)
              have e4 : v7.2.2.2.2 = n' := congrArg (fun z => z.2.2.2.2) (Option.some.inj hf)
              subst e0
              subst e1
              subst e2
              subst e3
              subst e4
              exact hret H locs ls _ dL_isAhead_252 (by first | rfl | (split <;> rfl) | (split <;> (first | rfl | (split <;> rfl))) | assumption) hP hD hS
            · have hf := it_f hf c71
              refine lv_iload hx hb dL_isAhead_216 (lv_at hl 8 rfl) ?_
              refine lv_if_eq (tgt := 251) hx hb dL_isAhead_218 (by decide) (fun c72 => ?_) (fun c72 => ?_)
              · have hf := it_t hf c72
                refine lv_iconst (v := (0 : Int32)) hx hb dL_isAhead_251 kc_iconst_0 ?_
                have e0 : (0 : Int32) = r0 := congrArg (fun z => z.1) (Option.some.inj hf)
                have e1 : v7.2.1 = hi' := congrArg (fun z => z.2.1) (Option.some.inj hf)
                have e2 : v7.2.2.1 = o' := congrArg (fun z => z.2.2.1) (Option.some.inj hf)
                have e3 : v7.2.2.2.1 = r' := congrArg (fun z => z.2.2.2.1) (Option.some.inj hf)
                have e4 : v7.2.2.2.2 = n' := congrArg (fun z => z.2.2.2.2) (Option.some.inj hf)
                subst e0
                subst e1
                subst e2
                subst e3
                subst e4
                exact hret H locs ls _ dL_isAhead_252 (by first | rfl | (split <;> rfl) | (split <;> (first | rfl | (split <;> rfl))) | assumption) hP hD hS
              · have hf := it_f hf c72
                refine lv_iload hx hb dL_isAhead_221 (lv_at hl 0 rfl) ?_
                refine lv_if_eq (tgt := 251) hx hb dL_isAhead_223 (by decide) (fun c73 => ?_) (fun c73 => ?_)
                · have hf := it_t hf c73
                  refine lv_iconst (v := (0 : Int32)) hx hb dL_isAhead_251 kc_iconst_0 ?_
                  have e0 : (0 : Int32) = r0 := congrArg (fun z => z.1) (Option.some.inj hf)
                  have e1 : v7.2.1 = hi' := congrArg (fun z => z.2.1) (Option.some.inj hf)
                  have e2 : v7.2.2.1 = o' := congrArg (fun z => z.2.2.1) (Option.some.inj hf)
                  have e3 : v7.2.2.2.1 = r' := congrArg (fun z => z.2.2.2.1) (Option.some.inj hf)
                  have e4 : v7.2.2.2.2 = n' := congrArg (fun z => z.2.2.2.2) (Option.some.inj hf)
                  subst e0
                  subst e1
                  subst e2
                  subst e3
                  subst e4
                  exact hret H locs ls _ dL_isAhead_252 (by first | rfl | (split <;> rfl) | (split <;> (first | rfl | (split <;> rfl))) | assumption) hP hD hS
                · have hf := it_f hf c73
                  refine lv_aload_n hx hb dL_isAhead_226 rfl (lv_at hl 1 rfl) ?_
                  obtain ⟨v74, hv74, hf⟩ := it_b hf
                  refine cTl (As := [.ref ka]) (rest := []) S (c_L_told l D cI cN ka (qo 0) a2 a3 (t 0) h hq u q _ kx v7.2.1 x v7.2.2.2.2 v74 hv74) (va_cwS 1 hts gL_isAhead_L_told rfl rfl rfl (by decide +kernel) ⟨Nat.le_of_ble_eq_true rfl, Nat.le_of_ble_eq_true rfl⟩) hK hP hS hA (P_sel [(true, (cxW ka (q 0) (qo 0) a2 a3 (t 0) (h 0) (u 0) (kx.1 7)), (cxW ka (q 0) (qo 0) a2 a3 (t 0) (h 0) (u 0) (kx.1 7))), (true, (hiW cI cN h hq v7.2.1), (hiW cI cN h hq v7.2.1)), (true, (txW cI u x), (txW cI u x)), (false, (nwW cI qo v7.2.2.1), (nwW cI qo v7.2.2.1)), (false, (rtW cI t v7.2.2.2.1), (rtW cI t v7.2.2.2.1)), (true, (nwW cI q v7.2.2.2.2), (nwW cI q v7.2.2.2.2))] hP) rfl hl.1 rfl (Nat.le_of_ble_eq_true rfl) dL_isAhead_227 ⟨Nat.zero_le _, Nat.zero_le _⟩ (fun H locs hP hS => ?_)
                  refine lv_lload_n hx hb dL_isAhead_230 rfl (lv_at hl 4 rfl) ?_
                  refine W.lcmp hx hb dL_isAhead_231 ?_
                  refine lv_if_ne (tgt := 251) hx hb dL_isAhead_232 (by decide) (fun c75 => ?_) (fun c75 => ?_)
                  · have hf := it_f hf c75
                    refine lv_iconst (v := (0 : Int32)) hx hb dL_isAhead_251 kc_iconst_0 ?_
                    have e0 : (0 : Int32) = r0 := congrArg (fun z => z.1) (Option.some.inj hf)
                    have e1 : v7.2.1 = hi' := congrArg (fun z => z.2.1) (Option.some.inj hf)
                    have e2 : v7.2.2.1 = o' := congrArg (fun z => z.2.2.1) (Option.some.inj hf)
                    have e3 : v7.2.2.2.1 = r' := congrArg (fun z => z.2.2.2.1) (Option.some.inj hf)
                    have e4 : v7.2.2.2.2 = n' := congrArg (fun z => z.2.2.2.2) (Option.some.inj hf)
                    subst e0
                    subst e1
                    subst e2
                    subst e3
                    subst e4
                    exact hret H locs ls _ dL_isAhead_252 (by first | rfl | (split <;> rfl) | (split <;> (first | rfl | (split <;> rfl))) | assumption) hP hD hS
                  · have hf := it_t hf c75
                    refine lv_aload_n hx hb dL_isAhead_235 rfl (lv_at hl 1 rfl) ?_
                    refine lv_iload_n hx hb dL_isAhead_236 rfl (lv_at hl 2 rfl) ?_
                    refine lv_iload_n hx hb dL_isAhead_237 rfl (lv_at hl 3 rfl) ?_
                    refine lv_iconst (v := (0 : Int32)) hx hb dL_isAhead_238 kc_iconst_0 ?_
                    obtain ⟨v76, hv76, hf⟩ := it_b hf
                    refine cBi (As := [.int x1, .int x2, .int (0 : Int32)]) (rest := []) (q0 := 0) (ci := 5) [(true, (cxW ka (q 0) (qo 0) a2 a3 (t 0) (h 0) (u 0) (kx.1 7)), (cxW ka (q 0) (qo 0) a2 a3 (t 0) (h 0) (u 0) (kx.1 7))), (false, (hiW cI cN h hq v7.2.1), (hiW cI cN h hq v7.2.1)), (false, (txW cI u x), (txW cI u x)), (false, (nwW cI qo v7.2.2.1), (nwW cI qo v7.2.2.1)), (true, (rtW cI t v7.2.2.2.1), (rtW cI t v76.2)), (true, (nwW cI q v7.2.2.2.2), (nwW cI q v7.2.2.2.2))] ⟨ad_cex, (fun h => Bool.noConfusion h), rfl, (fun _ => rfl), rfl, (fun _ => rfl), rfl, (fun _ => rfl), ad_rtr, (fun h => Bool.noConfusion h), ad_net, (fun h => Bool.noConfusion h), trivial⟩ S (c_X5_chainCall l D cI cN ka (qo 0) a2 a3 (h 0) (u 0) t q _ kx v7.2.2.2.1 v7.2.2.2.2 x1 x2 (0 : Int32) v76.1 v76.2 hv76) (cwV 3 hts gL_isAhead_X5_chainCall rfl rfl rfl (by decide +kernel) ⟨Nat.le_of_ble_eq_true rfl, Nat.le_of_ble_eq_true rfl⟩) hK hP hD hS hA rfl rfl rfl hl.1 rfl (Nat.le_of_ble_eq_true rfl) dL_isAhead_239 ⟨Nat.zero_le _, Nat.zero_le _⟩ (fun H locs hP hD hS => ?_)
                    refine lv_iload hx hb dL_isAhead_242 (lv_at hl 6 rfl) ?_
                    refine lv_icmp_ne (tgt := 251) hx hb dL_isAhead_244 (by decide) (fun c77 => ?_) (fun c77 => ?_)
                    · have hf := it_f hf c77
                      refine lv_iconst (v := (0 : Int32)) hx hb dL_isAhead_251 kc_iconst_0 ?_
                      have e0 : (0 : Int32) = r0 := congrArg (fun z => z.1) (Option.some.inj hf)
                      have e1 : v7.2.1 = hi' := congrArg (fun z => z.2.1) (Option.some.inj hf)
                      have e2 : v7.2.2.1 = o' := congrArg (fun z => z.2.2.1) (Option.some.inj hf)
                      have e3 : v76.2 = r' := congrArg (fun z => z.2.2.2.1) (Option.some.inj hf)
                      have e4 : v7.2.2.2.2 = n' := congrArg (fun z => z.2.2.2.2) (Option.some.inj hf)
                      subst e0
                      subst e1
                      subst e2
                      subst e3
                      subst e4
                      exact hret H locs ls _ dL_isAhead_252 (by first | rfl | (split <;> rfl) | (split <;> (first | rfl | (split <;> rfl))) | assumption) hP hD hS
                    · have hf := it_t hf c77
                      refine lv_iconst (v := (1 : Int32)) hx hb dL_isAhead_247 kc_iconst_1 ?_
                      refine lv_goto (tgt := 252) hx hb dL_isAhead_248 (by decide) ?_
                      have e0 : (1 : Int32) = r0 := congrArg (fun z => z.1) (Option.some.inj hf)
                      have e1 : v7.2.1 = hi' := congrArg (fun z => z.2.1) (Option.some.inj hf)
                      have e2 : v7.2.2.1 = o' := congrArg (fun z => z.2.2.1) (Option.some.inj hf)
                      have e3 : v76.2 = r' := congrArg (fun z => z.2.2.2.1) (Option.some.inj hf)
                      have e4 : v7.2.2.2.2 = n' := congrArg (fun z => z.2.2.2.2) (Option.some.inj hf)
                      subst e0
                      subst e1
                      subst e2
                      subst e3
                      subst e4
                      exact hret H locs ls _ dL_isAhead_252 (by first | rfl | (split <;> rfl) | (split <;> (first | rfl | (split <;> rfl))) | assumption) hP hD hS
        have hf := hg
        refine lv_icmp_ne (tgt := 197) hx hb dL_isAhead_166 (by decide) (fun c61 => ?_) (fun c61 => ?_)
        · have hf := it_f hf c61
          refine lv_iconst (v := (1 : Int32)) hx hb dL_isAhead_197 kc_iconst_1 ?_
          refine lv_goto (tgt := 202) hx hb dL_isAhead_198 (by decide) ?_
          have e0 := Option.some.inj hf
          subst e0
          exact hj H locs ls hP hD hS (lv_sub hl [1, 2, 3, 4, 6, 8, 9, 0] rfl)
        · have hf := it_t hf c61
          refine lv_iload hx hb dL_isAhead_169 (lv_at hl 7 rfl) ?_
          refine lv_iconst (v := (4 : Int32)) hx hb dL_isAhead_171 kc_iconst_4 ?_
          obtain ⟨v67, hg, hf⟩ := it_b hf
          have hj : ∀ (H : Heap) (locs : List Loc) (ls : Array Slot), va_P D vwCl ((cxW ka (q 0) (qo 0) a2 a3 (t 0) (h 0) (u 0) (kx.1 7)) ++ ((hiW cI cN h hq v7.2.1) ++ ((txW cI u x) ++ ((nwW cI qo v7.2.2.1) ++ ((rtW cI t v7.2.2.2.1) ++ (nwW cI q v7.2.2.2.2)))))) H → va_D A ((cxW ka (q 0) (qo 0) a2 a3 (t 0) (h 0) (u 0) (kx.1 7)) ++ ((hiW cI cN h hq v7.2.1) ++ ((txW cI u x) ++ ((nwW cI qo v7.2.2.1) ++ ((rtW cI t v7.2.2.2.1) ++ (nwW cI q v7.2.2.2.2)))))) → va_S A s.heap H locs → lv_has ls 15 [(0, .ref ka), (1, .int x1), (2, .int x2), (3, .long v1), (8, .int v4.1), (11, .int v7.1), (12, .int v53), (13, .int v60)] → W p l e (headSpec wsL_isAhead rm_L_isAhead).room s m args below meth c H locs 0 0 Q (F0 m 194 ls [.int v67]) := by
            intro H locs ls hP hD hS hl
            refine lv_if_ne (tgt := 201) hx hb dL_isAhead_194 (by decide) (fun c68 => ?_) (fun c68 => ?_)
            · have hf := it_f hf c68
              refine lv_iconst (v := (0 : Int32)) hx hb dL_isAhead_201 kc_iconst_0 ?_
              have e0 := Option.some.inj hf
              subst e0
              exact hj H locs ls hP hD hS (lv_sub hl [0, 1, 2, 3, 4, 5, 6, 7] rfl)
            · have hf := it_t hf c68
              refine lv_iconst (v := (1 : Int32)) hx hb dL_isAhead_197 kc_iconst_1 ?_
              refine lv_goto (tgt := 202) hx hb dL_isAhead_198 (by decide) ?_
              have e0 := Option.some.inj hf
              subst e0
              exact hj H locs ls hP hD hS (lv_sub hl [0, 1, 2, 3, 4, 5, 6, 7] rfl)
          have hf := hg
          refine lv_icmp_ne (tgt := 186) hx hb dL_isAhead_172 (by decide) (fun c62 => ?_) (fun c62 => ?_)
          · have hf := it_f hf c62
            refine lv_aload_n hx hb dL_isAhead_186 rfl (lv_at hl 1 rfl) ?_
            refine lv_iload_n hx hb dL_isAhead_187 rfl (lv_at hl 3 rfl) ?_
            refine lv_iload hx hb dL_isAhead_188 (lv_at hl 5 rfl) ?_
            obtain ⟨c63, hf⟩ := it_g hf
            refine lv_idiv hx hb dL_isAhead_190 c63 ?_
            obtain ⟨v64, hv64, hf⟩ := it_b hf
            refine cQi (As := [.int (x2 / v3)]) (rest := []) (q0 := 0) (ci := 5) S (c_X5_freeForLast l D cI cN ka (qo 0) a2 a3 (t 0) (h 0) (u 0) q _ kx v7.2.2.2.2 (x2 / v3) v64 hv64) (cwV 1 hts gL_isAhead_X5_freeForLast rfl rfl rfl (by decide +kernel) ⟨Nat.le_of_ble_eq_true rfl, Nat.le_of_ble_eq_true rfl⟩) hK hP hS hA (P_sel [(true, (cxW ka (q 0) (qo 0) a2 a3 (t 0) (h 0) (u 0) (kx.1 7)), (cxW ka (q 0) (qo 0) a2 a3 (t 0) (h 0) (u 0) (kx.1 7))), (false, (hiW cI cN h hq v7.2.1), (hiW cI cN h hq v7.2.1)), (false, (txW cI u x), (txW cI u x)), (false, (nwW cI qo v7.2.2.1), (nwW cI qo v7.2.2.1)), (false, (rtW cI t v7.2.2.2.1), (rtW cI t v7.2.2.2.1)), (true, (nwW cI q v7.2.2.2.2), (nwW cI q v7.2.2.2.2))] hP) rfl rfl rfl hl.1 rfl (Nat.le_of_ble_eq_true rfl) dL_isAhead_191 ⟨Nat.zero_le _, Nat.zero_le _⟩ (fun H locs hP hS => ?_)
            have e0 := Option.some.inj hf
            subst e0
            exact hj H locs ls hP hD hS (lv_sub hl [1, 2, 3, 4, 6, 8, 9, 0] rfl)
          · have hf := it_t hf c62
            refine lv_aload_n hx hb dL_isAhead_175 rfl (lv_at hl 1 rfl) ?_
            refine lv_iload_n hx hb dL_isAhead_176 rfl (lv_at hl 2 rfl) ?_
            refine lv_iload hx hb dL_isAhead_177 (lv_at hl 5 rfl) ?_
            obtain ⟨c65, hf⟩ := it_g hf
            refine lv_idiv hx hb dL_isAhead_179 c65 ?_
            obtain ⟨v66, hv66, hf⟩ := it_b hf
            refine cQi (As := [.int (x1 / v3)]) (rest := []) (q0 := 0) (ci := 5) S (c_X5_freeForFirst l D cI cN ka (qo 0) a2 a3 (t 0) (h 0) (u 0) q _ kx v7.2.2.2.2 (x1 / v3) v66 hv66) (cwV 1 hts gL_isAhead_X5_freeForFirst rfl rfl rfl (by decide +kernel) ⟨Nat.le_of_ble_eq_true rfl, Nat.le_of_ble_eq_true rfl⟩) hK hP hS hA (P_sel [(true, (cxW ka (q 0) (qo 0) a2 a3 (t 0) (h 0) (u 0) (kx.1 7)), (cxW ka (q 0) (qo 0) a2 a3 (t 0) (h 0) (u 0) (kx.1 7))), (false, (hiW cI cN h hq v7.2.1), (hiW cI cN h hq v7.2.1)), (false, (txW cI u x), (txW cI u x)), (false, (nwW cI qo v7.2.2.1), (nwW cI qo v7.2.2.1)), (false, (rtW cI t v7.2.2.2.1), (rtW cI t v7.2.2.2.1)), (true, (nwW cI q v7.2.2.2.2), (nwW cI q v7.2.2.2.2))] hP) rfl rfl rfl hl.1 rfl (Nat.le_of_ble_eq_true rfl) dL_isAhead_180 ⟨Nat.zero_le _, Nat.zero_le _⟩ (fun H locs hP hS => ?_)
            refine lv_goto (tgt := 194) hx hb dL_isAhead_183 (by decide) ?_
            have e0 := Option.some.inj hf
            subst e0
            exact hj H locs ls hP hD hS (lv_sub hl [1, 2, 3, 4, 6, 8, 9, 0] rfl)
      have hf := hg
      refine lv_icmp_ne (tgt := 155) hx hb dL_isAhead_127 (by decide) (fun c54 => ?_) (fun c54 => ?_)
      · have hf := it_f hf c54
        refine lv_iconst (v := (1 : Int32)) hx hb dL_isAhead_155 kc_iconst_1 ?_
        refine lv_goto (tgt := 160) hx hb dL_isAhead_156 (by decide) ?_
        have e0 := Option.some.inj hf
        subst e0
        exact hj H locs ls hP hD hS (lv_sub hl [1, 2, 3, 4, 5, 6, 7, 8, 0] rfl)
      · have hf := it_t hf c54
        refine lv_aload_n hx hb dL_isAhead_130 rfl (lv_at hl 1 rfl) ?_
        refine cQi (As := []) (rest := []) (q0 := 0) (ci := 5) S (c_X5_inService l D cI cN ka (qo 0) a2 a3 (t 0) (h 0) (u 0) q _ kx v7.2.2.2.2 (fX5_inService kx v7.2.2.2.2) rfl) (cwV 0 hts gL_isAhead_X5_inService rfl rfl rfl (by decide +kernel) ⟨Nat.le_of_ble_eq_true rfl, Nat.le_of_ble_eq_true rfl⟩) hK hP hS hA (P_sel [(true, (cxW ka (q 0) (qo 0) a2 a3 (t 0) (h 0) (u 0) (kx.1 7)), (cxW ka (q 0) (qo 0) a2 a3 (t 0) (h 0) (u 0) (kx.1 7))), (false, (hiW cI cN h hq v7.2.1), (hiW cI cN h hq v7.2.1)), (false, (txW cI u x), (txW cI u x)), (false, (nwW cI qo v7.2.2.1), (nwW cI qo v7.2.2.1)), (false, (rtW cI t v7.2.2.2.1), (rtW cI t v7.2.2.2.1)), (true, (nwW cI q v7.2.2.2.2), (nwW cI q v7.2.2.2.2))] hP) rfl rfl rfl hl.1 rfl (Nat.le_of_ble_eq_true rfl) dL_isAhead_131 ⟨Nat.zero_le _, Nat.zero_le _⟩ (fun H locs hP hS => ?_)
        obtain ⟨v55, hv55, hf⟩ := it_b hf
        refine cTi (As := [.int (fX5_inService kx v7.2.2.2.2)]) (rest := []) S (c_L_bits l D cI cN _ (fX5_inService kx v7.2.2.2.2) v55 hv55) (va_cwS 1 hts gL_isAhead_L_bits rfl rfl rfl (by decide +kernel) ⟨Nat.le_of_ble_eq_true rfl, Nat.le_of_ble_eq_true rfl⟩) hK hP hS hA (P_nil hP) rfl hl.1 rfl (Nat.le_of_ble_eq_true rfl) dL_isAhead_134 ⟨Nat.zero_le _, Nat.zero_le _⟩ (fun H locs hP hS => ?_)
        refine lv_aload_n hx hb dL_isAhead_137 rfl (lv_at hl 1 rfl) ?_
        refine lv_iconst (v := (2 : Int32)) hx hb dL_isAhead_138 kc_iconst_2 ?_
        obtain ⟨v56, hv56, hf⟩ := it_b hf
        refine cQi (As := [.int (2 : Int32)]) (rest := [.int v55]) (q0 := 0) (ci := 5) S (c_X5_total l D cI cN ka (qo 0) a2 a3 (t 0) h hq u q _ kx v7.2.1 x v7.2.2.2.2 (2 : Int32) v56 hv56) (cwV 1 hts gL_isAhead_X5_total rfl rfl rfl (by decide +kernel) ⟨Nat.le_of_ble_eq_true rfl, Nat.le_of_ble_eq_true rfl⟩) hK hP hS hA (P_sel [(true, (cxW ka (q 0) (qo 0) a2 a3 (t 0) (h 0) (u 0) (kx.1 7)), (cxW ka (q 0) (qo 0) a2 a3 (t 0) (h 0) (u 0) (kx.1 7))), (true, (hiW cI cN h hq v7.2.1), (hiW cI cN h hq v7.2.1)), (true, (txW cI u x), (txW cI u x)), (false, (nwW cI qo v7.2.2.1), (nwW cI qo v7.2.2.1)), (false, (rtW cI t v7.2.2.2.1), (rtW cI t v7.2.2.2.1)), (true, (nwW cI q v7.2.2.2.2), (nwW cI q v7.2.2.2.2))] hP) rfl rfl rfl hl.1 rfl (Nat.le_of_ble_eq_true rfl) dL_isAhead_139 ⟨Nat.zero_le _, Nat.zero_le _⟩ (fun H locs hP hS => ?_)
        refine lv_icmp_lt (tgt := 155) hx hb dL_isAhead_142 (by decide) (fun c57 => ?_) (fun c57 => ?_)
        · have hf := it_t hf c57
          refine lv_iconst (v := (1 : Int32)) hx hb dL_isAhead_155 kc_iconst_1 ?_
          refine lv_goto (tgt := 160) hx hb dL_isAhead_156 (by decide) ?_
          have e0 := Option.some.inj hf
          subst e0
          exact hj H locs ls hP hD hS (lv_sub hl [1, 2, 3, 4, 5, 6, 7, 8, 0] rfl)
        · have hf := it_f hf c57
          refine lv_aload_n hx hb dL_isAhead_145 rfl (lv_at hl 1 rfl) ?_
          refine lv_iconst (v := (2 : Int32)) hx hb dL_isAhead_146 kc_iconst_2 ?_
          obtain ⟨v58, hv58, hf⟩ := it_b hf
          refine cQi (As := [.int (2 : Int32)]) (rest := []) (q0 := 0) (ci := 5) S (c_X5_total l D cI cN ka (qo 0) a2 a3 (t 0) h hq u q _ kx v7.2.1 x v7.2.2.2.2 (2 : Int32) v58 hv58) (cwV 1 hts gL_isAhead_X5_total rfl rfl rfl (by decide +kernel) ⟨Nat.le_of_ble_eq_true rfl, Nat.le_of_ble_eq_true rfl⟩) hK hP hS hA (P_sel [(true, (cxW ka (q 0) (qo 0) a2 a3 (t 0) (h 0) (u 0) (kx.1 7)), (cxW ka (q 0) (qo 0) a2 a3 (t 0) (h 0) (u 0) (kx.1 7))), (true, (hiW cI cN h hq v7.2.1), (hiW cI cN h hq v7.2.1)), (true, (txW cI u x), (txW cI u x)), (false, (nwW cI qo v7.2.2.1), (nwW cI qo v7.2.2.1)), (false, (rtW cI t v7.2.2.2.1), (rtW cI t v7.2.2.2.1)), (true, (nwW cI q v7.2.2.2.2), (nwW cI q v7.2.2.2.2))] hP) rfl rfl rfl hl.1 rfl (Nat.le_of_ble_eq_true rfl) dL_isAhead_147 ⟨Nat.zero_le _, Nat.zero_le _⟩ (fun H locs hP hS => ?_)
          refine lv_iload hx hb dL_isAhead_150 (lv_at hl 5 rfl) ?_
          refine lv_icmp_ge (tgt := 159) hx hb dL_isAhead_152 (by decide) (fun c59 => ?_) (fun c59 => ?_)
          · have hf := it_t hf c59
            refine lv_iconst (v := (0 : Int32)) hx hb dL_isAhead_159 kc_iconst_0 ?_
            have e0 := Option.some.inj hf
            subst e0
            exact hj H locs ls hP hD hS (lv_sub hl [1, 2, 3, 4, 5, 6, 7, 8, 0] rfl)
          · have hf := it_f hf c59
            refine lv_iconst (v := (1 : Int32)) hx hb dL_isAhead_155 kc_iconst_1 ?_
            refine lv_goto (tgt := 160) hx hb dL_isAhead_156 (by decide) ?_
            have e0 := Option.some.inj hf
            subst e0
            exact hj H locs ls hP hD hS (lv_sub hl [1, 2, 3, 4, 5, 6, 7, 8, 0] rfl)
    have hf := hg
    refine lv_icmp_ne (tgt := 77) hx hb dL_isAhead_59 (by decide) (fun c46 => ?_) (fun c46 => ?_)
    · have hf := it_f hf c46
      refine lv_iload hx hb dL_isAhead_77 (lv_at hl 0 rfl) ?_
      refine lv_bipush (v := (-3 : Int32)) hx hb dL_isAhead_79 kc_bipush_m3 ?_
      refine lv_icmp_ne (tgt := 104) hx hb dL_isAhead_81 (by decide) (fun c47 => ?_) (fun c47 => ?_)
      · have hf := it_f hf c47
        refine lv_iload hx hb dL_isAhead_104 (lv_at hl 2 rfl) ?_
        refine lv_iconst (v := (4 : Int32)) hx hb dL_isAhead_106 kc_iconst_4 ?_
        refine lv_icmp_eq (tgt := 116) hx hb dL_isAhead_107 (by decide) (fun c48 => ?_) (fun c48 => ?_)
        · have hf := it_t hf c48
          refine lv_iconst (v := (1 : Int32)) hx hb dL_isAhead_116 kc_iconst_1 ?_
          refine lv_goto (tgt := 121) hx hb dL_isAhead_117 (by decide) ?_
          have e0 := hf
          subst e0
          exact hj H locs ls hP hD hS (lv_sub hl [7, 8, 9, 6, 4, 3, 2, 0] rfl)
        · have hf := it_f hf c48
          refine lv_iload hx hb dL_isAhead_110 (lv_at hl 2 rfl) ?_
          refine lv_iconst (v := (5 : Int32)) hx hb dL_isAhead_112 kc_iconst_5 ?_
          refine lv_icmp_ne (tgt := 120) hx hb dL_isAhead_113 (by decide) (fun c49 => ?_) (fun c49 => ?_)
          · have hf := it_f hf c49
            refine lv_iconst (v := (0 : Int32)) hx hb dL_isAhead_120 kc_iconst_0 ?_
            have e0 := hf
            subst e0
            exact hj H locs ls hP hD hS (lv_sub hl [7, 8, 9, 6, 4, 3, 2, 0] rfl)
          · have hf := it_t hf c49
            refine lv_iconst (v := (1 : Int32)) hx hb dL_isAhead_116 kc_iconst_1 ?_
            refine lv_goto (tgt := 121) hx hb dL_isAhead_117 (by decide) ?_
            have e0 := hf
            subst e0
            exact hj H locs ls hP hD hS (lv_sub hl [7, 8, 9, 6, 4, 3, 2, 0] rfl)
      · have hf := it_t hf c47
        refine lv_iload hx hb dL_isAhead_84 (lv_at hl 2 rfl) ?_
        refine lv_iconst (v := (2 : Int32)) hx hb dL_isAhead_86 kc_iconst_2 ?_
        refine lv_icmp_eq (tgt := 96) hx hb dL_isAhead_87 (by decide) (fun c50 => ?_) (fun c50 => ?_)
        · have hf := it_t hf c50
          refine lv_iconst (v := (1 : Int32)) hx hb dL_isAhead_96 kc_iconst_1 ?_
          refine lv_goto (tgt := 121) hx hb dL_isAhead_97 (by decide) ?_
          have e0 := hf
          subst e0
          exact hj H locs ls hP hD hS (lv_sub hl [7, 8, 9, 6, 4, 3, 2, 0] rfl)
        · have hf := it_f hf c50
          refine lv_iload hx hb dL_isAhead_90 (lv_at hl 2 rfl) ?_
          refine lv_iconst (v := (3 : Int32)) hx hb dL_isAhead_92 kc_iconst_3 ?_
          refine lv_icmp_ne (tgt := 100) hx hb dL_isAhead_93 (by decide) (fun c51 => ?_) (fun c51 => ?_)
          · have hf := it_f hf c51
            refine lv_iconst (v := (0 : Int32)) hx hb dL_isAhead_100 kc_iconst_0 ?_
            refine lv_goto (tgt := 121) hx hb dL_isAhead_101 (by decide) ?_
            have e0 := hf
            subst e0
            exact hj H locs ls hP hD hS (lv_sub hl [7, 8, 9, 6, 4, 3, 2, 0] rfl)
          · have hf := it_t hf c51
            refine lv_iconst (v := (1 : Int32)) hx hb dL_isAhead_96 kc_iconst_1 ?_
            refine lv_goto (tgt := 121) hx hb dL_isAhead_97 (by decide) ?_
            have e0 := hf
            subst e0
            exact hj H locs ls hP hD hS (lv_sub hl [7, 8, 9, 6, 4, 3, 2, 0] rfl)
    · have hf := it_t hf c46
      refine lv_iload hx hb dL_isAhead_62 (lv_at hl 2 rfl) ?_
      refine lv_iload hx hb dL_isAhead_64 (lv_at hl 0 rfl) ?_
      refine lv_icmp_ne (tgt := 73) hx hb dL_isAhead_66 (by decide) (fun c52 => ?_) (fun c52 => ?_)
      · have hf := it_f hf c52
        refine lv_iconst (v := (0 : Int32)) hx hb dL_isAhead_73 kc_iconst_0 ?_
        refine lv_goto (tgt := 121) hx hb dL_isAhead_74 (by decide) ?_
        have e0 := hf
        subst e0
        exact hj H locs ls hP hD hS (lv_sub hl [7, 8, 9, 6, 4, 3, 2, 0] rfl)
      · have hf := it_t hf c52
        refine lv_iconst (v := (1 : Int32)) hx hb dL_isAhead_69 kc_iconst_1 ?_
        refine lv_goto (tgt := 121) hx hb dL_isAhead_70 (by decide) ?_
        have e0 := hf
        subst e0
        exact hj H locs ls hP hD hS (lv_sub hl [7, 8, 9, 6, 4, 3, 2, 0] rfl)
set_option maxRecDepth 100000 in
theorem c_L_isAhead (l : Launch) (D : va_G) (cI cN : ClassId) (ka a2 a3 : Nat) (h : Nat → Nat) (hq : Nat → Nat → Nat) (u : Nat → Nat) (qo : Nat → Nat) (t : Nat → Nat) (q : Nat → Nat) (sz : Nat) (kx : OS) (hi : HS) (x : OS) (o : OS) (r : OS) (n : OS) (x1 : Int32) (x2 : Int32) (r0 : Int32) (hi' : HS) (o' : OS) (r' : OS) (n' : OS) (hf : fL_isAhead kx hi x o r n x1 x2 = some (r0, hi', o', r', n')) : CtI l D cI cN yL_isAhead wsL_isAhead rm_L_isAhead 0 0 [.ref ka, .int x1, .int x2] ((cxW ka (q 0) (qo 0) a2 a3 (t 0) (h 0) (u 0) (kx.1 7)) ++ ((hiW cI cN h hq hi) ++ ((txW cI u x) ++ ((nwW cI qo o) ++ ((rtW cI t r) ++ (nwW cI q n)))))) sz r0 ((cxW ka (q 0) (qo 0) a2 a3 (t 0) (h 0) (u 0) (kx.1 7)) ++ ((hiW cI cN h hq hi') ++ ((txW cI u x) ++ ((nwW cI qo o') ++ ((rtW cI t r') ++ (nwW cI q n')))))) := by
  refine mW (cc := cL_isAhead) (maxL := 15) (ty := .boolean) (by decide) rfl rfl (Nat.le_of_ble_eq_true rfl) ?_
  intro p e s m args below meth c Q A S hK hP hD hS hA hret ls hl
  exact w_L_isAhead_0 S hK hA hret hf _ _ _ hP hD hS (lv_sub (show lv_has ls 15 [(0, .ref ka), (1, .int x1), (2, .int x2)] from hl) [0, 1, 2] rfl)
abbrev rm_L_isReached : Room := { frames := 3, cells := 0, slots := 0, locals := 70 }
set_option maxRecDepth 100000 in
set_option maxHeartbeats 4000000 in
theorem w_L_isReached_21 {p : Program} {l : Launch} {e : Env} {s : State} {m : MethodId} {args : Array Value} {below : List Frame} {meth : Method} {c : Code} {Q : State → Prop} {D : va_G} {cI cN : ClassId} {ka a1 a2 a3 a4 : Nat} {h : Nat → Nat} {hq : Nat → Nat → Nat} {u : Nat → Nat} {q : Nat → Nat} (S : CallFix p m c cL_isReached 5 s args wsL_isReached RL) (hK : KN D cI cN s) {kx : OS} {hi : HS} {x : OS} {n : OS} {x1 : Int32} {x3 : Int32} {r0 : Int32} (hret : ∀ (H : Heap) (locs : List Loc) (ls : Array Slot) (pc : Nat), decode cL_isReached pc = .ok (.ireturn, 1) → narrow .boolean (.int r0) = .int r0 → va_S (nwA s.heap.size) s.heap H locs → W p l e (headSpec wsL_isReached rm_L_isReached).room s m args below meth c H locs 0 0 Q (F0 m pc ls [.int r0])) : ∀ (k : Nat) (x2 : Int32) (x4 : Int32), fL_isReached_21 kx hi x n x1 x3 k x2 x4 = some r0 → ∀ (H : Heap) (locs : List Loc) (ls : Array Slot), va_P D vwCl ((cxW ka (q 0) a1 a2 a3 a4 (h 0) (u 0) (kx.1 7)) ++ ((hiW cI cN h hq hi) ++ ((txW cI u x) ++ (nwW cI q n)))) H → va_S (nwA s.heap.size) s.heap H locs → lv_has ls 5 [(0, .ref ka), (1, .int x1), (2, .int x2), (3, .int x3), (4, .int x4)] → W p l e (headSpec wsL_isReached rm_L_isReached).room s m args below meth c H locs 0 0 Q (F0 m 21 ls []) := by
  obtain ⟨hx, hb, hml, hown, hts⟩ := id S
  have hA : ∀ q : Nat, s.heap.size ≤ q → nwA s.heap.size q := fun _ h => h
  intro k
  induction k with
  | zero => intro x2 x4 hf; rw [fL_isReached_21_z] at hf; cases hf
  | succ k ih =>
    intro x2 x4 hf H locs ls hP hS hl
    rw [fL_isReached_21_s] at hf
    refine lv_iload hx hb dL_isReached_21 (lv_at hl 4 rfl) ?_
    refine lv_aload_n hx hb dL_isReached_23 rfl (lv_at hl 0 rfl) ?_
    refine lv_iconst (v := (0 : Int32)) hx hb dL_isReached_24 kc_iconst_0 ?_
    obtain ⟨v3, hv3, hf⟩ := it_b hf
    refine cQi (As := [.int (0 : Int32)]) (rest := [.int x4]) (q0 := 0) (ci := 5) S (c_X5_total l D cI cN ka a1 a2 a3 a4 h hq u q _ kx hi x n (0 : Int32) v3 hv3) (cwV 1 hts gL_isReached_X5_total rfl rfl rfl (by decide +kernel) ⟨Nat.le_of_ble_eq_true rfl, Nat.le_of_ble_eq_true rfl⟩) hK hP hS hA hP rfl rfl rfl hl.1 rfl (Nat.le_of_ble_eq_true rfl) dL_isReached_25 ⟨Nat.zero_le _, Nat.zero_le _⟩ (fun H locs hP hS => ?_)
    refine lv_aload_n hx hb dL_isReached_28 rfl (lv_at hl 0 rfl) ?_
    refine lv_iconst (v := (1 : Int32)) hx hb dL_isReached_29 kc_iconst_1 ?_
    obtain ⟨v4, hv4, hf⟩ := it_b hf
    refine cQi (As := [.int (1 : Int32)]) (rest := [.int v3, .int x4]) (q0 := 0) (ci := 5) S (c_X5_total l D cI cN ka a1 a2 a3 a4 h hq u q _ kx hi x n (1 : Int32) v4 hv4) (cwV 1 hts gL_isReached_X5_total rfl rfl rfl (by decide +kernel) ⟨Nat.le_of_ble_eq_true rfl, Nat.le_of_ble_eq_true rfl⟩) hK hP hS hA hP rfl rfl rfl hl.1 rfl (Nat.le_of_ble_eq_true rfl) dL_isReached_30 ⟨Nat.zero_le _, Nat.zero_le _⟩ (fun H locs hP hS => ?_)
    refine lv_imul hx hb dL_isReached_33 ?_
    refine lv_icmp_ge (tgt := 61) hx hb dL_isReached_34 (by decide) (fun c5 => ?_) (fun c5 => ?_)
    · have hf := it_t hf c5
      refine lv_iload_n hx hb dL_isReached_61 rfl (lv_at hl 3 rfl) ?_
      refine lv_if_eq (tgt := 87) hx hb dL_isReached_62 (by decide) (fun c6 => ?_) (fun c6 => ?_)
      · have hf := it_t hf c6
        refine lv_aload_n hx hb dL_isReached_87 rfl (lv_at hl 0 rfl) ?_
        refine lv_iload_n hx hb dL_isReached_88 rfl (lv_at hl 1 rfl) ?_
        obtain ⟨v7, hv7, hf⟩ := it_b hf
        refine cQi (As := [.int x1]) (rest := []) (q0 := 0) (ci := 5) S (c_X5_reachable l D cI cN ka a1 a2 a3 a4 (h 0) (u 0) q _ kx n x1 v7 hv7) (cwV 1 hts gL_isReached_X5_reachable rfl rfl rfl (by decide +kernel) ⟨Nat.le_of_ble_eq_true rfl, Nat.le_of_ble_eq_true rfl⟩) hK hP hS hA (P_sel [(true, (cxW ka (q 0) a1 a2 a3 a4 (h 0) (u 0) (kx.1 7)), (cxW ka (q 0) a1 a2 a3 a4 (h 0) (u 0) (kx.1 7))), (false, (hiW cI cN h hq hi), (hiW cI cN h hq hi)), (false, (txW cI u x), (txW cI u x)), (true, (nwW cI q n), (nwW cI q n))] hP) rfl rfl rfl hl.1 rfl (Nat.le_of_ble_eq_true rfl) dL_isReached_89 ⟨Nat.zero_le _, Nat.zero_le _⟩ (fun H locs hP hS => ?_)
        refine lv_iload_n hx hb dL_isReached_92 rfl (lv_at hl 2 rfl) ?_
        refine lv_icmp_ne (tgt := 100) hx hb dL_isReached_93 (by decide) (fun c8 => ?_) (fun c8 => ?_)
        · have hf := it_f hf c8
          refine lv_iconst (v := (0 : Int32)) hx hb dL_isReached_100 kc_iconst_0 ?_
          have e0 : (0 : Int32) = r0 := (Option.some.inj hf)
          subst e0
          exact hret H locs ls _ dL_isReached_101 (by first | rfl | (split <;> rfl) | (split <;> (first | rfl | (split <;> rfl))) | assumption) hS
        · have hf := it_t hf c8
          refine lv_iconst (v := (1 : Int32)) hx hb dL_isReached_96 kc_iconst_1 ?_
          refine lv_goto (tgt := 101) hx hb dL_isReached_97 (by decide) ?_
          have e0 : (1 : Int32) = r0 := (Option.some.inj hf)
          subst e0
          exact hret H locs ls _ dL_isReached_101 (by first | rfl | (split <;> rfl) | (split <;> (first | rfl | (split <;> rfl))) | assumption) hS
      · have hf := it_f hf c6
        refine lv_iload_n hx hb dL_isReached_65 rfl (lv_at hl 2 rfl) ?_
        refine lv_if_ne (tgt := 83) hx hb dL_isReached_66 (by decide) (fun c9 => ?_) (fun c9 => ?_)
        · have hf := it_f hf c9
          refine lv_iconst (v := (0 : Int32)) hx hb dL_isReached_83 kc_iconst_0 ?_
          refine lv_goto (tgt := 101) hx hb dL_isReached_84 (by decide) ?_
          have e0 : (0 : Int32) = r0 := (Option.some.inj hf)
          subst e0
          exact hret H locs ls _ dL_isReached_101 (by first | rfl | (split <;> rfl) | (split <;> (first | rfl | (split <;> rfl))) | assumption) hS
        · have hf := it_t hf c9
          refine lv_aload_n hx hb dL_isReached_69 rfl (lv_at hl 0 rfl) ?_
          refine lv_iload_n hx hb dL_isReached_70 rfl (lv_at hl 1 rfl) ?_
          obtain ⟨v10, hv10, hf⟩ := it_b hf
          refine cQi (As := [.int x1]) (rest := []) (q0 := 0) (ci := 5) S (c_X5_reachable l D cI cN ka a1 a2 a3 a4 (h 0) (u 0) q _ kx n x1 v10 hv10) (cwV 1 hts gL_isReached_X5_reachable rfl rfl rfl (by decide +kernel) ⟨Nat.le_of_ble_eq_true rfl, Nat.le_of_ble_eq_true rfl⟩) hK hP hS hA (P_sel [(true, (cxW ka (q 0) a1 a2 a3 a4 (h 0) (u 0) (kx.1 7)), (cxW ka (q 0) a1 a2 a3 a4 (h 0) (u 0) (kx.1 7))), (false, (hiW cI cN h hq hi), (hiW cI cN h hq hi)), (false, (txW cI u x), (txW cI u x)), (true, (nwW cI q n), (nwW cI q n))] hP) rfl rfl rfl hl.1 rfl (Nat.le_of_ble_eq_true rfl) dL_isReached_71 ⟨Nat.zero_le _, Nat.zero_le _⟩ (fun H locs hP hS => ?_)
          refine lv_bipush (v := (-3 : Int32)) hx hb dL_isReached_74 kc_bipush_m3 ?_
          refine lv_icmp_ne (tgt := 83) hx hb dL_isReached_76 (by decide) (fun c11 => ?_) (fun c11 => ?_)
          · have hf := it_f hf c11
            refine lv_iconst (v := (0 : Int32)) hx hb dL_isReached_83 kc_iconst_0 ?_
            refine lv_goto (tgt := 101) hx hb dL_isReached_84 (by decide) ?_
            have e0 : (0 : Int32) = r0 := (Option.some.inj hf)
            subst e0
            exact hret H locs ls _ dL_isReached_101 (by first | rfl | (split <;> rfl) | (split <;> (first | rfl | (split <;> rfl))) | assumption) hS
          · have hf := it_t hf c11
            refine lv_iconst (v := (1 : Int32)) hx hb dL_isReached_79 kc_iconst_1 ?_
            refine lv_goto (tgt := 101) hx hb dL_isReached_80 (by decide) ?_
            have e0 : (1 : Int32) = r0 := (Option.some.inj hf)
            subst e0
            exact hret H locs ls _ dL_isReached_101 (by first | rfl | (split <;> rfl) | (split <;> (first | rfl | (split <;> rfl))) | assumption) hS
    · have hf := it_f hf c5
      refine lv_iload_n hx hb dL_isReached_37 rfl (lv_at hl 2 rfl) ?_
      refine lv_aload_n hx hb dL_isReached_38 rfl (lv_at hl 0 rfl) ?_
      refine lv_iload_n hx hb dL_isReached_39 rfl (lv_at hl 1 rfl) ?_
      refine lv_iload hx hb dL_isReached_40 (lv_at hl 4 rfl) ?_
      obtain ⟨v12, hv12, hf⟩ := it_b hf
      refine cQi (As := [.int x1, .int x4]) (rest := [.int x2]) (q0 := 0) (ci := 5) S (c_X5_reason l D cI cN ka a1 a2 a3 a4 (h 0) (u 0) q _ kx n x1 x4 v12 hv12) (cwV 2 hts gL_isReached_X5_reason rfl rfl rfl (by decide +kernel) ⟨Nat.le_of_ble_eq_true rfl, Nat.le_of_ble_eq_true rfl⟩) hK hP hS hA (P_sel [(true, (cxW ka (q 0) a1 a2 a3 a4 (h 0) (u 0) (kx.1 7)), (cxW ka (q 0) a1 a2 a3 a4 (h 0) (u 0) (kx.1 7))), (false, (hiW cI cN h hq hi), (hiW cI cN h hq hi)), (false, (txW cI u x), (txW cI u x)), (true, (nwW cI q n), (nwW cI q n))] hP) rfl rfl rfl hl.1 rfl (Nat.le_of_ble_eq_true rfl) dL_isReached_42 ⟨Nat.zero_le _, Nat.zero_le _⟩ (fun H locs hP hS => ?_)
      refine lv_if_ne (tgt := 52) hx hb dL_isReached_45 (by decide) (fun c13 => ?_) (fun c13 => ?_)
      · have hf := it_f hf c13
        refine lv_iconst (v := (0 : Int32)) hx hb dL_isReached_52 kc_iconst_0 ?_
        refine lv_iadd hx hb dL_isReached_53 ?_
        refine lv_istore_n (lv' := [(2, .int (x2 + (0 : Int32))), (0, .ref ka), (1, .int x1), (3, .int x3), (4, .int x4)]) hx hb dL_isReached_54 rfl hl (by decide) rfl (fun ls hl => ?_)
        refine lv_iinc (v := (x4 + (1 : Int32))) (lv' := [(4, .int (x4 + (1 : Int32))), (2, .int (x2 + (0 : Int32))), (0, .ref ka), (1, .int x1), (3, .int x3)]) hx hb dL_isReached_55 hl (k := 4) rfl rfl (by decide) rfl (fun ls hl => ?_)
        refine lv_goto (tgt := 21) hx hb dL_isReached_58 (by decide) ?_
        exact ih _ _ hf H locs ls hP hS (lv_sub hl [2, 3, 1, 4, 0] rfl)
      · have hf := it_t hf c13
        refine lv_iconst (v := (1 : Int32)) hx hb dL_isReached_48 kc_iconst_1 ?_
        refine lv_goto (tgt := 53) hx hb dL_isReached_49 (by decide) ?_
        refine lv_iadd hx hb dL_isReached_53 ?_
        refine lv_istore_n (lv' := [(2, .int (x2 + (1 : Int32))), (0, .ref ka), (1, .int x1), (3, .int x3), (4, .int x4)]) hx hb dL_isReached_54 rfl hl (by decide) rfl (fun ls hl => ?_)
        refine lv_iinc (v := (x4 + (1 : Int32))) (lv' := [(4, .int (x4 + (1 : Int32))), (2, .int (x2 + (1 : Int32))), (0, .ref ka), (1, .int x1), (3, .int x3)]) hx hb dL_isReached_55 hl (k := 4) rfl rfl (by decide) rfl (fun ls hl => ?_)
        refine lv_goto (tgt := 21) hx hb dL_isReached_58 (by decide) ?_
        exact ih _ _ hf H locs ls hP hS (lv_sub hl [2, 3, 1, 4, 0] rfl)
set_option maxRecDepth 100000 in
set_option maxHeartbeats 4000000 in
theorem w_L_isReached_0 {p : Program} {l : Launch} {e : Env} {s : State} {m : MethodId} {args : Array Value} {below : List Frame} {meth : Method} {c : Code} {Q : State → Prop} {D : va_G} {cI cN : ClassId} {ka a1 a2 a3 a4 : Nat} {h : Nat → Nat} {hq : Nat → Nat → Nat} {u : Nat → Nat} {q : Nat → Nat} (S : CallFix p m c cL_isReached 5 s args wsL_isReached RL) (hK : KN D cI cN s) {kx : OS} {hi : HS} {x : OS} {n : OS} {x1 : Int32} {r0 : Int32} (hret : ∀ (H : Heap) (locs : List Loc) (ls : Array Slot) (pc : Nat), decode cL_isReached pc = .ok (.ireturn, 1) → narrow .boolean (.int r0) = .int r0 → va_S (nwA s.heap.size) s.heap H locs → W p l e (headSpec wsL_isReached rm_L_isReached).room s m args below meth c H locs 0 0 Q (F0 m pc ls [.int r0])) (hf : fL_isReached kx hi x n x1 = some r0) (H : Heap) (locs : List Loc) (ls : Array Slot) (hP : va_P D vwCl ((cxW ka (q 0) a1 a2 a3 a4 (h 0) (u 0) (kx.1 7)) ++ ((hiW cI cN h hq hi) ++ ((txW cI u x) ++ (nwW cI q n)))) H) (hS : va_S (nwA s.heap.size) s.heap H locs) (hl : lv_has ls 5 [(0, .ref ka), (1, .int x1)]) : W p l e (headSpec wsL_isReached rm_L_isReached).room s m args below meth c H locs 0 0 Q (F0 m 0 ls []) := by
  obtain ⟨hx, hb, hml, hown, hts⟩ := id S
  have hA : ∀ q : Nat, s.heap.size ≤ q → nwA s.heap.size q := fun _ h => h
  unfold fL_isReached at hf
  refine lv_iconst (v := (0 : Int32)) hx hb dL_isReached_0 kc_iconst_0 ?_
  refine lv_istore_n (lv' := [(2, .int (0 : Int32)), (0, .ref ka), (1, .int x1)]) hx hb dL_isReached_1 rfl hl (by decide) rfl (fun ls hl => ?_)
  refine lv_aload_n hx hb dL_isReached_2 rfl (lv_at hl 1 rfl) ?_
  refine lv_iload_n hx hb dL_isReached_3 rfl (lv_at hl 2 rfl) ?_
  refine cQi (As := [.int x1]) (rest := []) (q0 := 0) (ci := 5) S (c_X5_callOfInlet l D cI cN ka a1 a2 a3 a4 (h 0) (u 0) q _ kx n x1 (fX5_callOfInlet kx n x1) rfl) (cwV 1 hts gL_isReached_X5_callOfInlet rfl rfl rfl (by decide +kernel) ⟨Nat.le_of_ble_eq_true rfl, Nat.le_of_ble_eq_true rfl⟩) hK hP hS hA (P_sel [(true, (cxW ka (q 0) a1 a2 a3 a4 (h 0) (u 0) (kx.1 7)), (cxW ka (q 0) a1 a2 a3 a4 (h 0) (u 0) (kx.1 7))), (false, (hiW cI cN h hq hi), (hiW cI cN h hq hi)), (false, (txW cI u x), (txW cI u x)), (true, (nwW cI q n), (nwW cI q n))] hP) rfl rfl rfl hl.1 rfl (Nat.le_of_ble_eq_true rfl) dL_isReached_4 ⟨Nat.zero_le _, Nat.zero_le _⟩ (fun H locs hP hS => ?_)
  refine lv_bipush (v := (-6 : Int32)) hx hb dL_isReached_7 kc_bipush_m6 ?_
  obtain ⟨v2, hg, hf⟩ := it_j hf
  have hj : ∀ (H : Heap) (locs : List Loc) (ls : Array Slot), va_P D vwCl ((cxW ka (q 0) a1 a2 a3 a4 (h 0) (u 0) (kx.1 7)) ++ ((hiW cI cN h hq hi) ++ ((txW cI u x) ++ (nwW cI q n)))) H → va_S (nwA s.heap.size) s.heap H locs → lv_has ls 5 [(0, .ref ka), (1, .int x1), (2, .int (0 : Int32))] → W p l e (headSpec wsL_isReached rm_L_isReached).room s m args below meth c H locs 0 0 Q (F0 m 17 ls [.int v2]) := by
    intro H locs ls hP hS hl
    refine lv_istore_n (lv' := [(3, .int v2), (0, .ref ka), (1, .int x1), (2, .int (0 : Int32))]) hx hb dL_isReached_17 rfl hl (by decide) rfl (fun ls hl => ?_)
    refine lv_iconst (v := (0 : Int32)) hx hb dL_isReached_18 kc_iconst_0 ?_
    refine lv_istore (lv' := [(4, .int (0 : Int32)), (3, .int v2), (0, .ref ka), (1, .int x1), (2, .int (0 : Int32))]) hx hb dL_isReached_19 hl (by decide) rfl (fun ls hl => ?_)
    exact w_L_isReached_21 S hK hret _ _ _ hf H locs ls hP hS (lv_sub hl [2, 3, 4, 1, 0] rfl)
  have hf := hg
  refine lv_icmp_eq (tgt := 16) hx hb dL_isReached_9 (by decide) (fun c1 => ?_) (fun c1 => ?_)
  · have hf := it_t hf c1
    refine lv_iconst (v := (0 : Int32)) hx hb dL_isReached_16 kc_iconst_0 ?_
    have e0 := hf
    subst e0
    exact hj H locs ls hP hS (lv_sub hl [1, 2, 0] rfl)
  · have hf := it_f hf c1
    refine lv_iconst (v := (1 : Int32)) hx hb dL_isReached_12 kc_iconst_1 ?_
    refine lv_goto (tgt := 17) hx hb dL_isReached_13 (by decide) ?_
    have e0 := hf
    subst e0
    exact hj H locs ls hP hS (lv_sub hl [1, 2, 0] rfl)
set_option maxRecDepth 100000 in
theorem c_L_isReached (l : Launch) (D : va_G) (cI cN : ClassId) (ka a1 a2 a3 a4 : Nat) (h : Nat → Nat) (hq : Nat → Nat → Nat) (u : Nat → Nat) (q : Nat → Nat) (sz : Nat) (kx : OS) (hi : HS) (x : OS) (n : OS) (x1 : Int32) (r0 : Int32) (hf : fL_isReached kx hi x n x1 = some r0) : CtP l D cI cN yL_isReached wsL_isReached rm_L_isReached [.ref ka, .int x1] ((cxW ka (q 0) a1 a2 a3 a4 (h 0) (u 0) (kx.1 7)) ++ ((hiW cI cN h hq hi) ++ ((txW cI u x) ++ (nwW cI q n)))) sz r0 := by
  refine mP (cc := cL_isReached) (maxL := 5) (ty := .boolean) (by decide) rfl rfl (Nat.le_of_ble_eq_true rfl) ?_
  intro p e s m args below meth c Q S hK hP hS hret ls hl
  exact w_L_isReached_0 S hK hret hf _ _ _ hP hS (lv_sub (show lv_has ls 5 [(0, .ref ka), (1, .int x1)] from hl) [0, 1] rfl)
