abbrev rm_X5_setUp : Room := { frames := 5, cells := 0, slots := 0, locals := 122 }
theorem in_X5_setUp_X5 : ∀ w ∈ u_ws RX5 TX5 8, w ∈ wsX5_setUp := fun w h => List.mem_cons_of_mem _ (List.mem_append_left _ (List.mem_append_left _ (List.mem_append_left _ (List.mem_append_right _ h))))
set_option maxRecDepth 100000 in
set_option maxHeartbeats 4000000 in
theorem w_X5_setUp_0 {p : Program} {l : Launch} {e : Env} {s : State} {m : MethodId} {args : Array Value} {below : List Frame} {meth : Method} {c : Code} {Q : State → Prop} {D : va_G} {cI cN : ClassId} {A : Nat → Prop} {ka a1 a2 a3 a4 a6 : Nat} {h : Nat → Nat} {hq : Nat → Nat → Nat} {q : Nat → Nat} (S : CallFix p m c cX5_setUp 4 s args wsX5_setUp RX5) (hK : KN D cI cN s) (hA : ∀ q : Nat, s.heap.size ≤ q → A q) {kx : OS} {hi : HS} {n : OS} {x1 : Int32} {x2 : Int32} {x3 : Int32} {r0 : Int32} {hi' : HS} {n' : OS} (hret : ∀ (H : Heap) (locs : List Loc) (ls : Array Slot) (pc : Nat), decode cX5_setUp pc = .ok (.ireturn, 1) → narrow .int (.int r0) = .int r0 → va_P D vwCl ((cxW ka (q 0) a1 a2 a3 a4 (h 0) a6 (kx.1 7)) ++ ((hiW cI cN h hq hi') ++ (nwW cI q n'))) H → va_D A ((cxW ka (q 0) a1 a2 a3 a4 (h 0) a6 (kx.1 7)) ++ ((hiW cI cN h hq hi') ++ (nwW cI q n'))) → va_S A s.heap H locs → W p l e (headSpec wsX5_setUp rm_X5_setUp).room s m args below meth c H locs 0 0 Q (F0 m pc ls [.int r0])) (hf : fX5_setUp kx hi n x1 x2 x3 = some (r0, hi', n')) (H : Heap) (locs : List Loc) (ls : Array Slot) (hP : va_P D vwCl ((cxW ka (q 0) a1 a2 a3 a4 (h 0) a6 (kx.1 7)) ++ ((hiW cI cN h hq hi) ++ (nwW cI q n))) H) (hD : va_D A ((cxW ka (q 0) a1 a2 a3 a4 (h 0) a6 (kx.1 7)) ++ ((hiW cI cN h hq hi) ++ (nwW cI q n)))) (hS : va_S A s.heap H locs) (hl : lv_has ls 4 [(0, .ref ka), (1, .int x1), (2, .int x2), (3, .int x3)]) : W p l e (headSpec wsX5_setUp rm_X5_setUp).room s m args below meth c H locs 0 0 Q (F0 m 0 ls []) := by
  obtain ⟨hx, hb, hml, hown, hts⟩ := id S
  have inX5 := in_X5_setUp_X5
  unfold fX5_setUp at hf
  refine lv_iload_n hx hb dX5_setUp_0 rfl (lv_at hl 1 rfl) ?_
  refine lv_iconst (v := (2 : Int32)) hx hb dX5_setUp_1 kc_iconst_2 ?_
  refine lv_bipush (v := (8 : Int32)) hx hb dX5_setUp_2 kc_bipush_8 ?_
  refine cSi (As := [.int x1, .int (2 : Int32), .int (8 : Int32)]) (rest := []) S (c_X5_within l D cI cN _ x1 (2 : Int32) (8 : Int32) (fX5_within x1 (2 : Int32) (8 : Int32)) rfl) (va_cwS 3 hts gX5_setUp_X5_within rfl rfl rfl (by decide +kernel) ⟨Nat.le_of_ble_eq_true rfl, Nat.le_of_ble_eq_true rfl⟩) hK hP hS hA [] rfl rfl hl.1 rfl (Nat.le_of_ble_eq_true rfl) dX5_setUp_4 ⟨Nat.zero_le _, Nat.zero_le _⟩ (fun H locs hP hS => ?_)
  refine lv_if_eq (tgt := 30) hx hb dX5_setUp_7 (by decide) (fun c1 => ?_) (fun c1 => ?_)
  · have hf := it_t hf c1
    refine lv_bipush (v := (-2 : Int32)) hx hb dX5_setUp_30 kc_bipush_m2 ?_
    have e0 : (-2 : Int32) = r0 := congrArg (fun z => z.1) (Option.some.inj hf)
    have e1 : hi = hi' := congrArg (fun z => z.2.1) (Option.some.inj hf)
    have e2 : n = n' := congrArg (fun z => z.2.2) (Option.some.inj hf)
    subst e0
    subst e1
    subst e2
    exact hret H locs ls _ dX5_setUp_32 rfl hP hD hS
  · have hf := it_f hf c1
    refine lv_iload_n hx hb dX5_setUp_10 rfl (lv_at hl 2 rfl) ?_
    refine lv_iconst (v := (1 : Int32)) hx hb dX5_setUp_11 kc_iconst_1 ?_
    refine lv_bipush (v := (6 : Int32)) hx hb dX5_setUp_12 kc_bipush_6 ?_
    refine cSi (As := [.int x2, .int (1 : Int32), .int (6 : Int32)]) (rest := []) S (c_X5_within l D cI cN _ x2 (1 : Int32) (6 : Int32) (fX5_within x2 (1 : Int32) (6 : Int32)) rfl) (va_cwS 3 hts gX5_setUp_X5_within rfl rfl rfl (by decide +kernel) ⟨Nat.le_of_ble_eq_true rfl, Nat.le_of_ble_eq_true rfl⟩) hK hP hS hA [] rfl rfl hl.1 rfl (Nat.le_of_ble_eq_true rfl) dX5_setUp_14 ⟨Nat.zero_le _, Nat.zero_le _⟩ (fun H locs hP hS => ?_)
    refine lv_if_eq (tgt := 30) hx hb dX5_setUp_17 (by decide) (fun c2 => ?_) (fun c2 => ?_)
    · have hf := it_t hf c2
      refine lv_bipush (v := (-2 : Int32)) hx hb dX5_setUp_30 kc_bipush_m2 ?_
      have e0 : (-2 : Int32) = r0 := congrArg (fun z => z.1) (Option.some.inj hf)
      have e1 : hi = hi' := congrArg (fun z => z.2.1) (Option.some.inj hf)
      have e2 : n = n' := congrArg (fun z => z.2.2) (Option.some.inj hf)
      subst e0
      subst e1
      subst e2
      exact hret H locs ls _ dX5_setUp_32 rfl hP hD hS
    · have hf := it_f hf c2
      refine lv_iload_n hx hb dX5_setUp_20 rfl (lv_at hl 3 rfl) ?_
      refine lv_iconst (v := (1 : Int32)) hx hb dX5_setUp_21 kc_iconst_1 ?_
      refine lv_bipush (v := (8 : Int32)) hx hb dX5_setUp_22 kc_bipush_8 ?_
      refine cSi (As := [.int x3, .int (1 : Int32), .int (8 : Int32)]) (rest := []) S (c_X5_within l D cI cN _ x3 (1 : Int32) (8 : Int32) (fX5_within x3 (1 : Int32) (8 : Int32)) rfl) (va_cwS 3 hts gX5_setUp_X5_within rfl rfl rfl (by decide +kernel) ⟨Nat.le_of_ble_eq_true rfl, Nat.le_of_ble_eq_true rfl⟩) hK hP hS hA [] rfl rfl hl.1 rfl (Nat.le_of_ble_eq_true rfl) dX5_setUp_24 ⟨Nat.zero_le _, Nat.zero_le _⟩ (fun H locs hP hS => ?_)
      refine lv_if_ne (tgt := 33) hx hb dX5_setUp_27 (by decide) (fun c3 => ?_) (fun c3 => ?_)
      · have hf := it_f hf c3
        refine lv_aload_n hx hb dX5_setUp_33 rfl (lv_at hl 0 rfl) ?_
        refine va_get (D := D) (ci := 5) (v := .ref (h 0)) (C := RX5) (T := TX5) (N := 8) hx hb hts inX5 hown hK.1 hP 0 rfl rfl 5 (by decide) (hts (.fieldLink RX5 35 "ClosExchange" "history" "LClosExchange$History;") (List.mem_of_getElem? (i := 1) rfl)) (fun _ h9 => h9) rfl dX5_setUp_34 ?_
        refine lv_aload_n hx hb dX5_setUp_37 rfl (lv_at hl 0 rfl) ?_
        refine va_get (D := D) (ci := 5) (v := .ref (q 0)) (C := RX5) (T := TX5) (N := 8) hx hb hts inX5 hown hK.1 hP 0 rfl rfl 0 (by decide) (hts (.fieldLink RX5 12 "ClosExchange" "network" "LClosExchange$Network;") (List.mem_of_getElem? (i := 2) rfl)) (fun _ h9 => h9) rfl dX5_setUp_38 ?_
        obtain ⟨v4, hv4, hf⟩ := it_b hf
        refine cBv (As := [.ref (q 0)]) (rest := []) (q0 := 1) (ci := 0) [(false, (cxW ka (q 0) a1 a2 a3 a4 (h 0) a6 (kx.1 7)), (cxW ka (q 0) a1 a2 a3 a4 (h 0) a6 (kx.1 7))), (true, (hiW cI cN h hq hi), (hiW cI cN h hq v4)), (true, (nwW cI q n), (nwW cI q n))] ⟨rfl, (fun _ => rfl), ad_his, (fun h => Bool.noConfusion h), ad_net, (fun h => Bool.noConfusion h), trivial⟩ S (c_X0_push l D cI cN h hq q _ hi n v4 hv4) (cwV 1 hts gX5_setUp_X0_push rfl rfl rfl (by decide +kernel) ⟨Nat.le_of_ble_eq_true rfl, Nat.le_of_ble_eq_true rfl⟩) hK hP hD hS hA rfl rfl rfl hl.1 rfl (Nat.le_of_ble_eq_true rfl) dX5_setUp_41 ⟨Nat.zero_le _, Nat.zero_le _⟩ (fun H locs hP hD hS => ?_)
        refine lv_aload_n hx hb dX5_setUp_44 rfl (lv_at hl 0 rfl) ?_
        refine va_get (D := D) (ci := 5) (v := .ref (q 0)) (C := RX5) (T := TX5) (N := 8) hx hb hts inX5 hown hK.1 hP 0 rfl rfl 0 (by decide) (hts (.fieldLink RX5 12 "ClosExchange" "network" "LClosExchange$Network;") (List.mem_of_getElem? (i := 2) rfl)) (fun _ h9 => h9) rfl dX5_setUp_45 ?_
        refine lv_iload_n hx hb dX5_setUp_48 rfl (lv_at hl 1 rfl) ?_
        refine lv_iload_n hx hb dX5_setUp_49 rfl (lv_at hl 2 rfl) ?_
        refine lv_iload_n hx hb dX5_setUp_50 rfl (lv_at hl 3 rfl) ?_
        obtain ⟨v5, hv5, hf⟩ := it_b hf
        refine cBi (As := [.int x1, .int x2, .int x3]) (rest := []) (q0 := 55) (ci := 1) [(false, (cxW ka (q 0) a1 a2 a3 a4 (h 0) a6 (kx.1 7)), (cxW ka (q 0) a1 a2 a3 a4 (h 0) a6 (kx.1 7))), (false, (hiW cI cN h hq v4), (hiW cI cN h hq v4)), (true, (nwW cI q n), (nwW cI q v5.2))] ⟨rfl, (fun _ => rfl), rfl, (fun _ => rfl), ad_net, (fun h => Bool.noConfusion h), trivial⟩ S (c_X1_rebuild l D cI cN q _ n x1 x2 x3 v5.1 v5.2 hv5) (cwV 3 hts gX5_setUp_X1_rebuild rfl rfl rfl (by decide +kernel) ⟨Nat.le_of_ble_eq_true rfl, Nat.le_of_ble_eq_true rfl⟩) hK hP hD hS hA rfl rfl rfl hl.1 rfl (Nat.le_of_ble_eq_true rfl) dX5_setUp_51 ⟨Nat.zero_le _, Nat.zero_le _⟩ (fun H locs hP hD hS => ?_)
        have e0 : v5.1 = r0 := congrArg (fun z => z.1) (Option.some.inj hf)
        have e1 : v4 = hi' := congrArg (fun z => z.2.1) (Option.some.inj hf)
        have e2 : v5.2 = n' := congrArg (fun z => z.2.2) (Option.some.inj hf)
        subst e0
        subst e1
        subst e2
        exact hret H locs ls _ dX5_setUp_54 rfl hP hD hS
      · have hf := it_t hf c3
        refine lv_bipush (v := (-2 : Int32)) hx hb dX5_setUp_30 kc_bipush_m2 ?_
        have e0 : (-2 : Int32) = r0 := congrArg (fun z => z.1) (Option.some.inj hf)
        have e1 : hi = hi' := congrArg (fun z => z.2.1) (Option.some.inj hf)
        have e2 : n = n' := congrArg (fun z => z.2.2) (Option.some.inj hf)
        subst e0
        subst e1
        subst e2
        exact hret H locs ls _ dX5_setUp_32 rfl hP hD hS
set_option maxRecDepth 100000 in
theorem c_X5_setUp (l : Launch) (D : va_G) (cI cN : ClassId) (ka a1 a2 a3 a4 a6 : Nat) (h : Nat → Nat) (hq : Nat → Nat → Nat) (q : Nat → Nat) (sz : Nat) (kx : OS) (hi : HS) (n : OS) (x1 : Int32) (x2 : Int32) (x3 : Int32) (r0 : Int32) (hi' : HS) (n' : OS) (hf : fX5_setUp kx hi n x1 x2 x3 = some (r0, hi', n')) : CtI l D cI cN yX5_setUp wsX5_setUp rm_X5_setUp 0 0 [.ref ka, .int x1, .int x2, .int x3] ((cxW ka (q 0) a1 a2 a3 a4 (h 0) a6 (kx.1 7)) ++ ((hiW cI cN h hq hi) ++ (nwW cI q n))) sz r0 ((cxW ka (q 0) a1 a2 a3 a4 (h 0) a6 (kx.1 7)) ++ ((hiW cI cN h hq hi') ++ (nwW cI q n'))) := by
  refine mW (cc := cX5_setUp) (maxL := 4) (ty := .int) (by decide) rfl rfl (Nat.le_of_ble_eq_true rfl) ?_
  intro p e s m args below meth c Q A S hK hP hD hS hA hret ls hl
  exact w_X5_setUp_0 S hK hA hret hf _ _ _ hP hD hS (lv_sub (show lv_has ls 4 [(0, .ref ka), (1, .int x1), (2, .int x2), (3, .int x3)] from hl) [0, 1, 2, 3] rfl)
abbrev rm_X5_setChoiceRule : Room := { frames := 5, cells := 0, slots := 0, locals := 122 }
theorem in_X5_setChoiceRule_X1 : ∀ w ∈ u_ws RX1 TX1 16, w ∈ wsX5_setChoiceRule := fun w h => List.mem_cons_of_mem _ (List.mem_append_left _ (List.mem_append_left _ (List.mem_append_right _ h)))
theorem in_X5_setChoiceRule_X5 : ∀ w ∈ u_ws RX5 TX5 8, w ∈ wsX5_setChoiceRule := fun w h => List.mem_cons_of_mem _ (List.mem_append_left _ (List.mem_append_left _ (List.mem_append_left _ (List.mem_append_right _ h))))
set_option maxRecDepth 100000 in
set_option maxHeartbeats 4000000 in
theorem w_X5_setChoiceRule_0 {p : Program} {l : Launch} {e : Env} {s : State} {m : MethodId} {args : Array Value} {below : List Frame} {meth : Method} {c : Code} {Q : State → Prop} {D : va_G} {cI cN : ClassId} {A : Nat → Prop} {ka a1 a2 a3 a4 a6 : Nat} {h : Nat → Nat} {hq : Nat → Nat → Nat} {q : Nat → Nat} (S : CallFix p m c cX5_setChoiceRule 3 s args wsX5_setChoiceRule RX5) (hK : KN D cI cN s) (hA : ∀ q : Nat, s.heap.size ≤ q → A q) {kx : OS} {hi : HS} {n : OS} {x1 : Int32} {r0 : Int32} {hi' : HS} {n' : OS} (hret : ∀ (H : Heap) (locs : List Loc) (ls : Array Slot) (pc : Nat), decode cX5_setChoiceRule pc = .ok (.ireturn, 1) → narrow .int (.int r0) = .int r0 → va_P D vwCl ((cxW ka (q 0) a1 a2 a3 a4 (h 0) a6 (kx.1 7)) ++ ((hiW cI cN h hq hi') ++ (nwW cI q n'))) H → va_D A ((cxW ka (q 0) a1 a2 a3 a4 (h 0) a6 (kx.1 7)) ++ ((hiW cI cN h hq hi') ++ (nwW cI q n'))) → va_S A s.heap H locs → W p l e (headSpec wsX5_setChoiceRule rm_X5_setChoiceRule).room s m args below meth c H locs 0 0 Q (F0 m pc ls [.int r0])) (hf : fX5_setChoiceRule kx hi n x1 = some (r0, hi', n')) (H : Heap) (locs : List Loc) (ls : Array Slot) (hP : va_P D vwCl ((cxW ka (q 0) a1 a2 a3 a4 (h 0) a6 (kx.1 7)) ++ ((hiW cI cN h hq hi) ++ (nwW cI q n))) H) (hD : va_D A ((cxW ka (q 0) a1 a2 a3 a4 (h 0) a6 (kx.1 7)) ++ ((hiW cI cN h hq hi) ++ (nwW cI q n)))) (hS : va_S A s.heap H locs) (hl : lv_has ls 3 [(0, .ref ka), (1, .int x1)]) : W p l e (headSpec wsX5_setChoiceRule rm_X5_setChoiceRule).room s m args below meth c H locs 0 0 Q (F0 m 0 ls []) := by
  obtain ⟨hx, hb, hml, hown, hts⟩ := id S
  have inX1 := in_X5_setChoiceRule_X1
  have inX5 := in_X5_setChoiceRule_X5
  unfold fX5_setChoiceRule at hf
  refine lv_iload_n hx hb dX5_setChoiceRule_0 rfl (lv_at hl 1 rfl) ?_
  refine lv_iconst (v := (0 : Int32)) hx hb dX5_setChoiceRule_1 kc_iconst_0 ?_
  refine lv_iconst (v := (2 : Int32)) hx hb dX5_setChoiceRule_2 kc_iconst_2 ?_
  refine cSi (As := [.int x1, .int (0 : Int32), .int (2 : Int32)]) (rest := []) S (c_X5_within l D cI cN _ x1 (0 : Int32) (2 : Int32) (fX5_within x1 (0 : Int32) (2 : Int32)) rfl) (va_cwS 3 hts gX5_setChoiceRule_X5_within rfl rfl rfl (by decide +kernel) ⟨Nat.le_of_ble_eq_true rfl, Nat.le_of_ble_eq_true rfl⟩) hK hP hS hA [] rfl rfl hl.1 rfl (Nat.le_of_ble_eq_true rfl) dX5_setChoiceRule_3 ⟨Nat.zero_le _, Nat.zero_le _⟩ (fun H locs hP hS => ?_)
  refine lv_if_ne (tgt := 12) hx hb dX5_setChoiceRule_6 (by decide) (fun c1 => ?_) (fun c1 => ?_)
  · have hf := it_f hf c1
    refine lv_aload_n hx hb dX5_setChoiceRule_12 rfl (lv_at hl 0 rfl) ?_
    refine va_get (D := D) (ci := 5) (v := .ref (q 0)) (C := RX5) (T := TX5) (N := 8) hx hb hts inX5 hown hK.1 hP 0 rfl rfl 0 (by decide) (hts (.fieldLink RX5 12 "ClosExchange" "network" "LClosExchange$Network;") (List.mem_of_getElem? (i := 1) rfl)) (fun _ h9 => h9) rfl dX5_setChoiceRule_13 ?_
    refine va_get (D := D) (ci := 1) (v := .int (n.1 4)) (C := RX1) (T := TX1) (N := 16) hx hb hts inX1 hown hK.1 hP 55 rfl rfl 4 (by decide) (hts (.fieldLink RX5 62 "ClosExchange$Network" "choiceRule" "I") (List.mem_of_getElem? (i := 2) rfl)) (fun _ h9 => h9) rfl dX5_setChoiceRule_16 ?_
    refine lv_istore_n (lv' := [(2, .int (n.1 4)), (0, .ref ka), (1, .int x1)]) hx hb dX5_setChoiceRule_19 rfl hl (by decide) rfl (fun ls hl => ?_)
    refine lv_iload_n hx hb dX5_setChoiceRule_20 rfl (lv_at hl 2 rfl) ?_
    refine lv_iload_n hx hb dX5_setChoiceRule_21 rfl (lv_at hl 0 rfl) ?_
    refine lv_icmp_ne (tgt := 28) hx hb dX5_setChoiceRule_22 (by decide) (fun c2 => ?_) (fun c2 => ?_)
    · have hf := it_f hf c2
      refine lv_aload_n hx hb dX5_setChoiceRule_28 rfl (lv_at hl 1 rfl) ?_
      refine va_get (D := D) (ci := 5) (v := .ref (h 0)) (C := RX5) (T := TX5) (N := 8) hx hb hts inX5 hown hK.1 hP 0 rfl rfl 5 (by decide) (hts (.fieldLink RX5 35 "ClosExchange" "history" "LClosExchange$History;") (List.mem_of_getElem? (i := 3) rfl)) (fun _ h9 => h9) rfl dX5_setChoiceRule_29 ?_
      refine lv_aload_n hx hb dX5_setChoiceRule_32 rfl (lv_at hl 1 rfl) ?_
      refine va_get (D := D) (ci := 5) (v := .ref (q 0)) (C := RX5) (T := TX5) (N := 8) hx hb hts inX5 hown hK.1 hP 0 rfl rfl 0 (by decide) (hts (.fieldLink RX5 12 "ClosExchange" "network" "LClosExchange$Network;") (List.mem_of_getElem? (i := 1) rfl)) (fun _ h9 => h9) rfl dX5_setChoiceRule_33 ?_
      obtain ⟨v3, hv3, hf⟩ := it_b hf
      refine cBv (As := [.ref (q 0)]) (rest := []) (q0 := 1) (ci := 0) [(false, (cxW ka (q 0) a1 a2 a3 a4 (h 0) a6 (kx.1 7)), (cxW ka (q 0) a1 a2 a3 a4 (h 0) a6 (kx.1 7))), (true, (hiW cI cN h hq hi), (hiW cI cN h hq v3)), (true, (nwW cI q n), (nwW cI q n))] ⟨rfl, (fun _ => rfl), ad_his, (fun h => Bool.noConfusion h), ad_net, (fun h => Bool.noConfusion h), trivial⟩ S (c_X0_push l D cI cN h hq q _ hi n v3 hv3) (cwV 1 hts gX5_setChoiceRule_X0_push rfl rfl rfl (by decide +kernel) ⟨Nat.le_of_ble_eq_true rfl, Nat.le_of_ble_eq_true rfl⟩) hK hP hD hS hA rfl rfl rfl hl.1 rfl (Nat.le_of_ble_eq_true rfl) dX5_setChoiceRule_36 ⟨Nat.zero_le _, Nat.zero_le _⟩ (fun H locs hP hD hS => ?_)
      refine lv_aload_n hx hb dX5_setChoiceRule_39 rfl (lv_at hl 1 rfl) ?_
      refine va_get (D := D) (ci := 5) (v := .ref (q 0)) (C := RX5) (T := TX5) (N := 8) hx hb hts inX5 hown hK.1 hP 0 rfl rfl 0 (by decide) (hts (.fieldLink RX5 12 "ClosExchange" "network" "LClosExchange$Network;") (List.mem_of_getElem? (i := 1) rfl)) (fun _ h9 => h9) rfl dX5_setChoiceRule_40 ?_
      refine lv_iload_n hx hb dX5_setChoiceRule_43 rfl (lv_at hl 2 rfl) ?_
      refine gput (D := D) (ci := 1) (v := .int x1) (ty := .int) (C := RX1) (T := TX1) (N := 16) (wf := ((cxW ka (q 0) a1 a2 a3 a4 (h 0) a6 (kx.1 7)) ++ ((hiW cI cN h hq v3) ++ (nwW cI q (setF n 4 x1))))) hx hb hts inX1 tyX1 tyX1_ok nmX1 hown hK.1 hP hD hS 55 rfl rfl 4 (by decide) (hts (.fieldLink RX5 62 "ClosExchange$Network" "choiceRule" "I") (List.mem_of_getElem? (i := 2) rfl)) (fun _ h9 => h9) rfl (by decide +kernel) rfl rfl (Nat.le_of_ble_eq_true rfl) dX5_setChoiceRule_44 rfl (fun H locs hP hD hS => ?_)
      refine lv_iload_n hx hb dX5_setChoiceRule_47 rfl (lv_at hl 0 rfl) ?_
      have e0 : (n.1 4) = r0 := congrArg (fun z => z.1) (Option.some.inj hf)
      have e1 : v3 = hi' := congrArg (fun z => z.2.1) (Option.some.inj hf)
      have e2 : (setF n 4 x1) = n' := congrArg (fun z => z.2.2) (Option.some.inj hf)
      subst e0
      subst e1
      subst e2
      exact hret H locs ls _ dX5_setChoiceRule_48 rfl hP hD hS
    · have hf := it_t hf c2
      refine lv_bipush (v := (-6 : Int32)) hx hb dX5_setChoiceRule_25 kc_bipush_m6 ?_
      have e0 : (-6 : Int32) = r0 := congrArg (fun z => z.1) (Option.some.inj hf)
      have e1 : hi = hi' := congrArg (fun z => z.2.1) (Option.some.inj hf)
      have e2 : n = n' := congrArg (fun z => z.2.2) (Option.some.inj hf)
      subst e0
      subst e1
      subst e2
      exact hret H locs ls _ dX5_setChoiceRule_27 rfl hP hD hS
  · have hf := it_t hf c1
    refine lv_bipush (v := (-2 : Int32)) hx hb dX5_setChoiceRule_9 kc_bipush_m2 ?_
    have e0 : (-2 : Int32) = r0 := congrArg (fun z => z.1) (Option.some.inj hf)
    have e1 : hi = hi' := congrArg (fun z => z.2.1) (Option.some.inj hf)
    have e2 : n = n' := congrArg (fun z => z.2.2) (Option.some.inj hf)
    subst e0
    subst e1
    subst e2
    exact hret H locs ls _ dX5_setChoiceRule_11 rfl hP hD hS
set_option maxRecDepth 100000 in
theorem c_X5_setChoiceRule (l : Launch) (D : va_G) (cI cN : ClassId) (ka a1 a2 a3 a4 a6 : Nat) (h : Nat → Nat) (hq : Nat → Nat → Nat) (q : Nat → Nat) (sz : Nat) (kx : OS) (hi : HS) (n : OS) (x1 : Int32) (r0 : Int32) (hi' : HS) (n' : OS) (hf : fX5_setChoiceRule kx hi n x1 = some (r0, hi', n')) : CtI l D cI cN yX5_setChoiceRule wsX5_setChoiceRule rm_X5_setChoiceRule 0 0 [.ref ka, .int x1] ((cxW ka (q 0) a1 a2 a3 a4 (h 0) a6 (kx.1 7)) ++ ((hiW cI cN h hq hi) ++ (nwW cI q n))) sz r0 ((cxW ka (q 0) a1 a2 a3 a4 (h 0) a6 (kx.1 7)) ++ ((hiW cI cN h hq hi') ++ (nwW cI q n'))) := by
  refine mW (cc := cX5_setChoiceRule) (maxL := 3) (ty := .int) (by decide) rfl rfl (Nat.le_of_ble_eq_true rfl) ?_
  intro p e s m args below meth c Q A S hK hP hD hS hA hret ls hl
  exact w_X5_setChoiceRule_0 S hK hA hret hf _ _ _ hP hD hS (lv_sub (show lv_has ls 3 [(0, .ref ka), (1, .int x1)] from hl) [0, 1] rfl)
abbrev rm_X5_setPairRule : Room := { frames := 5, cells := 0, slots := 0, locals := 122 }
theorem in_X5_setPairRule_X1 : ∀ w ∈ u_ws RX1 TX1 16, w ∈ wsX5_setPairRule := fun w h => List.mem_cons_of_mem _ (List.mem_append_left _ (List.mem_append_left _ (List.mem_append_right _ h)))
theorem in_X5_setPairRule_X5 : ∀ w ∈ u_ws RX5 TX5 8, w ∈ wsX5_setPairRule := fun w h => List.mem_cons_of_mem _ (List.mem_append_left _ (List.mem_append_left _ (List.mem_append_left _ (List.mem_append_right _ h))))
set_option maxRecDepth 100000 in
set_option maxHeartbeats 4000000 in
theorem w_X5_setPairRule_0 {p : Program} {l : Launch} {e : Env} {s : State} {m : MethodId} {args : Array Value} {below : List Frame} {meth : Method} {c : Code} {Q : State → Prop} {D : va_G} {cI cN : ClassId} {A : Nat → Prop} {ka a1 a2 a3 a4 a6 : Nat} {h : Nat → Nat} {hq : Nat → Nat → Nat} {q : Nat → Nat} (S : CallFix p m c cX5_setPairRule 3 s args wsX5_setPairRule RX5) (hK : KN D cI cN s) (hA : ∀ q : Nat, s.heap.size ≤ q → A q) {kx : OS} {hi : HS} {n : OS} {x1 : Int32} {r0 : Int32} {hi' : HS} {n' : OS} (hret : ∀ (H : Heap) (locs : List Loc) (ls : Array Slot) (pc : Nat), decode cX5_setPairRule pc = .ok (.ireturn, 1) → narrow .int (.int r0) = .int r0 → va_P D vwCl ((cxW ka (q 0) a1 a2 a3 a4 (h 0) a6 (kx.1 7)) ++ ((hiW cI cN h hq hi') ++ (nwW cI q n'))) H → va_D A ((cxW ka (q 0) a1 a2 a3 a4 (h 0) a6 (kx.1 7)) ++ ((hiW cI cN h hq hi') ++ (nwW cI q n'))) → va_S A s.heap H locs → W p l e (headSpec wsX5_setPairRule rm_X5_setPairRule).room s m args below meth c H locs 0 0 Q (F0 m pc ls [.int r0])) (hf : fX5_setPairRule kx hi n x1 = some (r0, hi', n')) (H : Heap) (locs : List Loc) (ls : Array Slot) (hP : va_P D vwCl ((cxW ka (q 0) a1 a2 a3 a4 (h 0) a6 (kx.1 7)) ++ ((hiW cI cN h hq hi) ++ (nwW cI q n))) H) (hD : va_D A ((cxW ka (q 0) a1 a2 a3 a4 (h 0) a6 (kx.1 7)) ++ ((hiW cI cN h hq hi) ++ (nwW cI q n)))) (hS : va_S A s.heap H locs) (hl : lv_has ls 3 [(0, .ref ka), (1, .int x1)]) : W p l e (headSpec wsX5_setPairRule rm_X5_setPairRule).room s m args below meth c H locs 0 0 Q (F0 m 0 ls []) := by
  obtain ⟨hx, hb, hml, hown, hts⟩ := id S
  have inX1 := in_X5_setPairRule_X1
  have inX5 := in_X5_setPairRule_X5
  unfold fX5_setPairRule at hf
  refine lv_iload_n hx hb dX5_setPairRule_0 rfl (lv_at hl 1 rfl) ?_
  refine lv_iconst (v := (0 : Int32)) hx hb dX5_setPairRule_1 kc_iconst_0 ?_
  refine lv_iconst (v := (1 : Int32)) hx hb dX5_setPairRule_2 kc_iconst_1 ?_
  refine cSi (As := [.int x1, .int (0 : Int32), .int (1 : Int32)]) (rest := []) S (c_X5_within l D cI cN _ x1 (0 : Int32) (1 : Int32) (fX5_within x1 (0 : Int32) (1 : Int32)) rfl) (va_cwS 3 hts gX5_setPairRule_X5_within rfl rfl rfl (by decide +kernel) ⟨Nat.le_of_ble_eq_true rfl, Nat.le_of_ble_eq_true rfl⟩) hK hP hS hA [] rfl rfl hl.1 rfl (Nat.le_of_ble_eq_true rfl) dX5_setPairRule_3 ⟨Nat.zero_le _, Nat.zero_le _⟩ (fun H locs hP hS => ?_)
  refine lv_if_ne (tgt := 12) hx hb dX5_setPairRule_6 (by decide) (fun c1 => ?_) (fun c1 => ?_)
  · have hf := it_f hf c1
    refine lv_aload_n hx hb dX5_setPairRule_12 rfl (lv_at hl 0 rfl) ?_
    refine va_get (D := D) (ci := 5) (v := .ref (q 0)) (C := RX5) (T := TX5) (N := 8) hx hb hts inX5 hown hK.1 hP 0 rfl rfl 0 (by decide) (hts (.fieldLink RX5 12 "ClosExchange" "network" "LClosExchange$Network;") (List.mem_of_getElem? (i := 1) rfl)) (fun _ h9 => h9) rfl dX5_setPairRule_13 ?_
    refine va_get (D := D) (ci := 1) (v := .int (n.1 5)) (C := RX1) (T := TX1) (N := 16) hx hb hts inX1 hown hK.1 hP 55 rfl rfl 5 (by decide) (hts (.fieldLink RX5 66 "ClosExchange$Network" "pairRule" "I") (List.mem_of_getElem? (i := 2) rfl)) (fun _ h9 => h9) rfl dX5_setPairRule_16 ?_
    refine lv_istore_n (lv' := [(2, .int (n.1 5)), (0, .ref ka), (1, .int x1)]) hx hb dX5_setPairRule_19 rfl hl (by decide) rfl (fun ls hl => ?_)
    refine lv_iload_n hx hb dX5_setPairRule_20 rfl (lv_at hl 2 rfl) ?_
    refine lv_iload_n hx hb dX5_setPairRule_21 rfl (lv_at hl 0 rfl) ?_
    refine lv_icmp_ne (tgt := 28) hx hb dX5_setPairRule_22 (by decide) (fun c2 => ?_) (fun c2 => ?_)
    · have hf := it_f hf c2
      refine lv_aload_n hx hb dX5_setPairRule_28 rfl (lv_at hl 1 rfl) ?_
      refine va_get (D := D) (ci := 5) (v := .ref (h 0)) (C := RX5) (T := TX5) (N := 8) hx hb hts inX5 hown hK.1 hP 0 rfl rfl 5 (by decide) (hts (.fieldLink RX5 35 "ClosExchange" "history" "LClosExchange$History;") (List.mem_of_getElem? (i := 3) rfl)) (fun _ h9 => h9) rfl dX5_setPairRule_29 ?_
      refine lv_aload_n hx hb dX5_setPairRule_32 rfl (lv_at hl 1 rfl) ?_
      refine va_get (D := D) (ci := 5) (v := .ref (q 0)) (C := RX5) (T := TX5) (N := 8) hx hb hts inX5 hown hK.1 hP 0 rfl rfl 0 (by decide) (hts (.fieldLink RX5 12 "ClosExchange" "network" "LClosExchange$Network;") (List.mem_of_getElem? (i := 1) rfl)) (fun _ h9 => h9) rfl dX5_setPairRule_33 ?_
      obtain ⟨v3, hv3, hf⟩ := it_b hf
      refine cBv (As := [.ref (q 0)]) (rest := []) (q0 := 1) (ci := 0) [(false, (cxW ka (q 0) a1 a2 a3 a4 (h 0) a6 (kx.1 7)), (cxW ka (q 0) a1 a2 a3 a4 (h 0) a6 (kx.1 7))), (true, (hiW cI cN h hq hi), (hiW cI cN h hq v3)), (true, (nwW cI q n), (nwW cI q n))] ⟨rfl, (fun _ => rfl), ad_his, (fun h => Bool.noConfusion h), ad_net, (fun h => Bool.noConfusion h), trivial⟩ S (c_X0_push l D cI cN h hq q _ hi n v3 hv3) (cwV 1 hts gX5_setPairRule_X0_push rfl rfl rfl (by decide +kernel) ⟨Nat.le_of_ble_eq_true rfl, Nat.le_of_ble_eq_true rfl⟩) hK hP hD hS hA rfl rfl rfl hl.1 rfl (Nat.le_of_ble_eq_true rfl) dX5_setPairRule_36 ⟨Nat.zero_le _, Nat.zero_le _⟩ (fun H locs hP hD hS => ?_)
      refine lv_aload_n hx hb dX5_setPairRule_39 rfl (lv_at hl 1 rfl) ?_
      refine va_get (D := D) (ci := 5) (v := .ref (q 0)) (C := RX5) (T := TX5) (N := 8) hx hb hts inX5 hown hK.1 hP 0 rfl rfl 0 (by decide) (hts (.fieldLink RX5 12 "ClosExchange" "network" "LClosExchange$Network;") (List.mem_of_getElem? (i := 1) rfl)) (fun _ h9 => h9) rfl dX5_setPairRule_40 ?_
      refine lv_iload_n hx hb dX5_setPairRule_43 rfl (lv_at hl 2 rfl) ?_
      refine gput (D := D) (ci := 1) (v := .int x1) (ty := .int) (C := RX1) (T := TX1) (N := 16) (wf := ((cxW ka (q 0) a1 a2 a3 a4 (h 0) a6 (kx.1 7)) ++ ((hiW cI cN h hq v3) ++ (nwW cI q (setF n 5 x1))))) hx hb hts inX1 tyX1 tyX1_ok nmX1 hown hK.1 hP hD hS 55 rfl rfl 5 (by decide) (hts (.fieldLink RX5 66 "ClosExchange$Network" "pairRule" "I") (List.mem_of_getElem? (i := 2) rfl)) (fun _ h9 => h9) rfl (by decide +kernel) rfl rfl (Nat.le_of_ble_eq_true rfl) dX5_setPairRule_44 rfl (fun H locs hP hD hS => ?_)
      refine lv_iload_n hx hb dX5_setPairRule_47 rfl (lv_at hl 0 rfl) ?_
      have e0 : (n.1 5) = r0 := congrArg (fun z => z.1) (Option.some.inj hf)
      have e1 : v3 = hi' := congrArg (fun z => z.2.1) (Option.some.inj hf)
      have e2 : (setF n 5 x1) = n' := congrArg (fun z => z.2.2) (Option.some.inj hf)
      subst e0
      subst e1
      subst e2
      exact hret H locs ls _ dX5_setPairRule_48 rfl hP hD hS
    · have hf := it_t hf c2
      refine lv_bipush (v := (-6 : Int32)) hx hb dX5_setPairRule_25 kc_bipush_m6 ?_
      have e0 : (-6 : Int32) = r0 := congrArg (fun z => z.1) (Option.some.inj hf)
      have e1 : hi = hi' := congrArg (fun z => z.2.1) (Option.some.inj hf)
      have e2 : n = n' := congrArg (fun z => z.2.2) (Option.some.inj hf)
      subst e0
      subst e1
      subst e2
      exact hret H locs ls _ dX5_setPairRule_27 rfl hP hD hS
  · have hf := it_t hf c1
    refine lv_bipush (v := (-2 : Int32)) hx hb dX5_setPairRule_9 kc_bipush_m2 ?_
    have e0 : (-2 : Int32) = r0 := congrArg (fun z => z.1) (Option.some.inj hf)
    have e1 : hi = hi' := congrArg (fun z => z.2.1) (Option.some.inj hf)
    have e2 : n = n' := congrArg (fun z => z.2.2) (Option.some.inj hf)
    subst e0
    subst e1
    subst e2
    exact hret H locs ls _ dX5_setPairRule_11 rfl hP hD hS
set_option maxRecDepth 100000 in
theorem c_X5_setPairRule (l : Launch) (D : va_G) (cI cN : ClassId) (ka a1 a2 a3 a4 a6 : Nat) (h : Nat → Nat) (hq : Nat → Nat → Nat) (q : Nat → Nat) (sz : Nat) (kx : OS) (hi : HS) (n : OS) (x1 : Int32) (r0 : Int32) (hi' : HS) (n' : OS) (hf : fX5_setPairRule kx hi n x1 = some (r0, hi', n')) : CtI l D cI cN yX5_setPairRule wsX5_setPairRule rm_X5_setPairRule 0 0 [.ref ka, .int x1] ((cxW ka (q 0) a1 a2 a3 a4 (h 0) a6 (kx.1 7)) ++ ((hiW cI cN h hq hi) ++ (nwW cI q n))) sz r0 ((cxW ka (q 0) a1 a2 a3 a4 (h 0) a6 (kx.1 7)) ++ ((hiW cI cN h hq hi') ++ (nwW cI q n'))) := by
  refine mW (cc := cX5_setPairRule) (maxL := 3) (ty := .int) (by decide) rfl rfl (Nat.le_of_ble_eq_true rfl) ?_
  intro p e s m args below meth c Q A S hK hP hD hS hA hret ls hl
  exact w_X5_setPairRule_0 S hK hA hret hf _ _ _ hP hD hS (lv_sub (show lv_has ls 3 [(0, .ref ka), (1, .int x1)] from hl) [0, 1] rfl)
abbrev rm_X5_recorded : Room := { frames := 5, cells := 0, slots := 0, locals := 122 }
theorem in_X5_recorded_X5 : ∀ w ∈ u_ws RX5 TX5 8, w ∈ wsX5_recorded := fun w h => List.mem_cons_of_mem _ (List.mem_append_left _ (List.mem_append_left _ (List.mem_append_left _ (List.mem_append_right _ h))))
set_option maxRecDepth 100000 in
set_option maxHeartbeats 4000000 in
theorem w_X5_recorded_0 {p : Program} {l : Launch} {e : Env} {s : State} {m : MethodId} {args : Array Value} {below : List Frame} {meth : Method} {c : Code} {Q : State → Prop} {D : va_G} {cI cN : ClassId} {A : Nat → Prop} {ka a0 a2 a3 a4 a6 : Nat} {h : Nat → Nat} {hq : Nat → Nat → Nat} {qo : Nat → Nat} (S : CallFix p m c cX5_recorded 2 s args wsX5_recorded RX5) (hK : KN D cI cN s) (hA : ∀ q : Nat, s.heap.size ≤ q → A q) {kx : OS} {hi : HS} {o : OS} {x1 : Int32} {r0 : Int32} {hi' : HS} (hret : ∀ (H : Heap) (locs : List Loc) (ls : Array Slot) (pc : Nat), decode cX5_recorded pc = .ok (.ireturn, 1) → narrow .int (.int r0) = .int r0 → va_P D vwCl ((cxW ka a0 (qo 0) a2 a3 a4 (h 0) a6 (kx.1 7)) ++ ((hiW cI cN h hq hi') ++ (nwW cI qo o))) H → va_D A ((cxW ka a0 (qo 0) a2 a3 a4 (h 0) a6 (kx.1 7)) ++ ((hiW cI cN h hq hi') ++ (nwW cI qo o))) → va_S A s.heap H locs → W p l e (headSpec wsX5_recorded rm_X5_recorded).room s m args below meth c H locs 0 0 Q (F0 m pc ls [.int r0])) (hf : fX5_recorded kx hi o x1 = some (r0, hi')) (H : Heap) (locs : List Loc) (ls : Array Slot) (hP : va_P D vwCl ((cxW ka a0 (qo 0) a2 a3 a4 (h 0) a6 (kx.1 7)) ++ ((hiW cI cN h hq hi) ++ (nwW cI qo o))) H) (hD : va_D A ((cxW ka a0 (qo 0) a2 a3 a4 (h 0) a6 (kx.1 7)) ++ ((hiW cI cN h hq hi) ++ (nwW cI qo o)))) (hS : va_S A s.heap H locs) (hl : lv_has ls 2 [(0, .ref ka), (1, .int x1)]) : W p l e (headSpec wsX5_recorded rm_X5_recorded).room s m args below meth c H locs 0 0 Q (F0 m 0 ls []) := by
  obtain ⟨hx, hb, hml, hown, hts⟩ := id S
  have inX5 := in_X5_recorded_X5
  unfold fX5_recorded at hf
  refine lv_iload_n hx hb dX5_recorded_0 rfl (lv_at hl 1 rfl) ?_
  refine lv_if_lt (tgt := 15) hx hb dX5_recorded_1 (by decide) (fun c1 => ?_) (fun c1 => ?_)
  · have hf := it_t hf c1
    refine lv_iload_n hx hb dX5_recorded_15 rfl (lv_at hl 1 rfl) ?_
    have e0 : x1 = r0 := congrArg (fun z => z.1) (Option.some.inj hf)
    have e1 : hi = hi' := congrArg (fun z => z.2) (Option.some.inj hf)
    subst e0
    subst e1
    exact hret H locs ls _ dX5_recorded_16 rfl hP hD hS
  · have hf := it_f hf c1
    refine lv_aload_n hx hb dX5_recorded_4 rfl (lv_at hl 0 rfl) ?_
    refine va_get (D := D) (ci := 5) (v := .ref (h 0)) (C := RX5) (T := TX5) (N := 8) hx hb hts inX5 hown hK.1 hP 0 rfl rfl 5 (by decide) (hts (.fieldLink RX5 35 "ClosExchange" "history" "LClosExchange$History;") (List.mem_of_getElem? (i := 1) rfl)) (fun _ h9 => h9) rfl dX5_recorded_5 ?_
    refine lv_aload_n hx hb dX5_recorded_8 rfl (lv_at hl 0 rfl) ?_
    refine va_get (D := D) (ci := 5) (v := .ref (qo 0)) (C := RX5) (T := TX5) (N := 8) hx hb hts inX5 hown hK.1 hP 0 rfl rfl 1 (by decide) (hts (.fieldLink RX5 16 "ClosExchange" "before" "LClosExchange$Network;") (List.mem_of_getElem? (i := 2) rfl)) (fun _ h9 => h9) rfl dX5_recorded_9 ?_
    obtain ⟨v2, hv2, hf⟩ := it_b hf
    refine cBv (As := [.ref (qo 0)]) (rest := []) (q0 := 1) (ci := 0) [(false, (cxW ka a0 (qo 0) a2 a3 a4 (h 0) a6 (kx.1 7)), (cxW ka a0 (qo 0) a2 a3 a4 (h 0) a6 (kx.1 7))), (true, (hiW cI cN h hq hi), (hiW cI cN h hq v2)), (true, (nwW cI qo o), (nwW cI qo o))] ⟨rfl, (fun _ => rfl), ad_his, (fun h => Bool.noConfusion h), ad_net, (fun h => Bool.noConfusion h), trivial⟩ S (c_X0_push l D cI cN h hq qo _ hi o v2 hv2) (cwV 1 hts gX5_recorded_X0_push rfl rfl rfl (by decide +kernel) ⟨Nat.le_of_ble_eq_true rfl, Nat.le_of_ble_eq_true rfl⟩) hK hP hD hS hA rfl rfl rfl hl.1 rfl (Nat.le_of_ble_eq_true rfl) dX5_recorded_12 ⟨Nat.zero_le _, Nat.zero_le _⟩ (fun H locs hP hD hS => ?_)
    refine lv_iload_n hx hb dX5_recorded_15 rfl (lv_at hl 1 rfl) ?_
    have e0 : x1 = r0 := congrArg (fun z => z.1) (Option.some.inj hf)
    have e1 : v2 = hi' := congrArg (fun z => z.2) (Option.some.inj hf)
    subst e0
    subst e1
    exact hret H locs ls _ dX5_recorded_16 rfl hP hD hS
set_option maxRecDepth 100000 in
theorem c_X5_recorded (l : Launch) (D : va_G) (cI cN : ClassId) (ka a0 a2 a3 a4 a6 : Nat) (h : Nat → Nat) (hq : Nat → Nat → Nat) (qo : Nat → Nat) (sz : Nat) (kx : OS) (hi : HS) (o : OS) (x1 : Int32) (r0 : Int32) (hi' : HS) (hf : fX5_recorded kx hi o x1 = some (r0, hi')) : CtI l D cI cN yX5_recorded wsX5_recorded rm_X5_recorded 0 0 [.ref ka, .int x1] ((cxW ka a0 (qo 0) a2 a3 a4 (h 0) a6 (kx.1 7)) ++ ((hiW cI cN h hq hi) ++ (nwW cI qo o))) sz r0 ((cxW ka a0 (qo 0) a2 a3 a4 (h 0) a6 (kx.1 7)) ++ ((hiW cI cN h hq hi') ++ (nwW cI qo o))) := by
  refine mW (cc := cX5_recorded) (maxL := 2) (ty := .int) (by decide) rfl rfl (Nat.le_of_ble_eq_true rfl) ?_
  intro p e s m args below meth c Q A S hK hP hD hS hA hret ls hl
  exact w_X5_recorded_0 S hK hA hret hf _ _ _ hP hD hS (lv_sub (show lv_has ls 2 [(0, .ref ka), (1, .int x1)] from hl) [0, 1] rfl)
abbrev rm_X5_connect : Room := { frames := 6, cells := 0, slots := 0, locals := 153 }
theorem in_X5_connect_X5 : ∀ w ∈ u_ws RX5 TX5 8, w ∈ wsX5_connect := fun w h => List.mem_cons_of_mem _ (List.mem_append_left _ (List.mem_append_left _ (List.mem_append_left _ (List.mem_append_left _ (List.mem_append_right _ h)))))
set_option maxRecDepth 100000 in
set_option maxHeartbeats 4000000 in
theorem w_X5_connect_0 {p : Program} {l : Launch} {e : Env} {s : State} {m : MethodId} {args : Array Value} {below : List Frame} {meth : Method} {c : Code} {Q : State → Prop} {D : va_G} {cI cN : ClassId} {A : Nat → Prop} {ka a2 a3 a6 : Nat} {h : Nat → Nat} {hq : Nat → Nat → Nat} {qo : Nat → Nat} {t : Nat → Nat} {q : Nat → Nat} (S : CallFix p m c cX5_connect 3 s args wsX5_connect RX5) (hK : KN D cI cN s) (hA : ∀ q : Nat, s.heap.size ≤ q → A q) {kx : OS} {hi : HS} {o : OS} {r : OS} {n : OS} {x1 : Int32} {x2 : Int32} {r0 : Int32} {hi' : HS} {o' : OS} {r' : OS} {n' : OS} (hret : ∀ (H : Heap) (locs : List Loc) (ls : Array Slot) (pc : Nat), decode cX5_connect pc = .ok (.ireturn, 1) → narrow .int (.int r0) = .int r0 → va_P D vwCl ((cxW ka (q 0) (qo 0) a2 a3 (t 0) (h 0) a6 (kx.1 7)) ++ ((hiW cI cN h hq hi') ++ ((nwW cI qo o') ++ ((rtW cI t r') ++ (nwW cI q n'))))) H → va_D A ((cxW ka (q 0) (qo 0) a2 a3 (t 0) (h 0) a6 (kx.1 7)) ++ ((hiW cI cN h hq hi') ++ ((nwW cI qo o') ++ ((rtW cI t r') ++ (nwW cI q n'))))) → va_S A s.heap H locs → W p l e (headSpec wsX5_connect rm_X5_connect).room s m args below meth c H locs 0 0 Q (F0 m pc ls [.int r0])) (hf : fX5_connect kx hi o r n x1 x2 = some (r0, hi', o', r', n')) (H : Heap) (locs : List Loc) (ls : Array Slot) (hP : va_P D vwCl ((cxW ka (q 0) (qo 0) a2 a3 (t 0) (h 0) a6 (kx.1 7)) ++ ((hiW cI cN h hq hi) ++ ((nwW cI qo o) ++ ((rtW cI t r) ++ (nwW cI q n))))) H) (hD : va_D A ((cxW ka (q 0) (qo 0) a2 a3 (t 0) (h 0) a6 (kx.1 7)) ++ ((hiW cI cN h hq hi) ++ ((nwW cI qo o) ++ ((rtW cI t r) ++ (nwW cI q n)))))) (hS : va_S A s.heap H locs) (hl : lv_has ls 3 [(0, .ref ka), (1, .int x1), (2, .int x2)]) : W p l e (headSpec wsX5_connect rm_X5_connect).room s m args below meth c H locs 0 0 Q (F0 m 0 ls []) := by
  obtain ⟨hx, hb, hml, hown, hts⟩ := id S
  have inX5 := in_X5_connect_X5
  unfold fX5_connect at hf
  refine lv_aload_n hx hb dX5_connect_0 rfl (lv_at hl 0 rfl) ?_
  refine va_get (D := D) (ci := 5) (v := .ref (qo 0)) (C := RX5) (T := TX5) (N := 8) hx hb hts inX5 hown hK.1 hP 0 rfl rfl 1 (by decide) (hts (.fieldLink RX5 16 "ClosExchange" "before" "LClosExchange$Network;") (List.mem_of_getElem? (i := 1) rfl)) (fun _ h9 => h9) rfl dX5_connect_1 ?_
  refine lv_aload_n hx hb dX5_connect_4 rfl (lv_at hl 0 rfl) ?_
  refine va_get (D := D) (ci := 5) (v := .ref (q 0)) (C := RX5) (T := TX5) (N := 8) hx hb hts inX5 hown hK.1 hP 0 rfl rfl 0 (by decide) (hts (.fieldLink RX5 12 "ClosExchange" "network" "LClosExchange$Network;") (List.mem_of_getElem? (i := 2) rfl)) (fun _ h9 => h9) rfl dX5_connect_5 ?_
  refine cBv (As := [.ref (q 0)]) (rest := []) (q0 := 55) (ci := 1) [(false, (cxW ka (q 0) (qo 0) a2 a3 (t 0) (h 0) a6 (kx.1 7)), (cxW ka (q 0) (qo 0) a2 a3 (t 0) (h 0) a6 (kx.1 7))), (false, (hiW cI cN h hq hi), (hiW cI cN h hq hi)), (true, (nwW cI qo o), (nwW cI qo n)), (false, (rtW cI t r), (rtW cI t r)), (true, (nwW cI q n), (nwW cI q n))] ⟨rfl, (fun _ => rfl), rfl, (fun _ => rfl), ad_net, (fun h => Bool.noConfusion h), rfl, (fun _ => rfl), ad_net, (fun h => Bool.noConfusion h), trivial⟩ S (c_X1_copyFrom l D cI cN qo q _ o n) (cwV 1 hts gX5_connect_X1_copyFrom rfl rfl rfl (by decide +kernel) ⟨Nat.le_of_ble_eq_true rfl, Nat.le_of_ble_eq_true rfl⟩) hK hP hD hS hA rfl rfl rfl hl.1 rfl (Nat.le_of_ble_eq_true rfl) dX5_connect_8 ⟨Nat.zero_le _, Nat.zero_le _⟩ (fun H locs hP hD hS => ?_)
  refine lv_aload_n hx hb dX5_connect_11 rfl (lv_at hl 0 rfl) ?_
  refine lv_aload_n hx hb dX5_connect_12 rfl (lv_at hl 0 rfl) ?_
  refine va_get (D := D) (ci := 5) (v := .ref (t 0)) (C := RX5) (T := TX5) (N := 8) hx hb hts inX5 hown hK.1 hP 0 rfl rfl 4 (by decide) (hts (.fieldLink RX5 28 "ClosExchange" "router" "LClosExchange$Router;") (List.mem_of_getElem? (i := 3) rfl)) (fun _ h9 => h9) rfl dX5_connect_13 ?_
  refine lv_aload_n hx hb dX5_connect_16 rfl (lv_at hl 0 rfl) ?_
  refine va_get (D := D) (ci := 5) (v := .ref (q 0)) (C := RX5) (T := TX5) (N := 8) hx hb hts inX5 hown hK.1 hP 0 rfl rfl 0 (by decide) (hts (.fieldLink RX5 12 "ClosExchange" "network" "LClosExchange$Network;") (List.mem_of_getElem? (i := 2) rfl)) (fun _ h9 => h9) rfl dX5_connect_17 ?_
  refine lv_iload_n hx hb dX5_connect_20 rfl (lv_at hl 1 rfl) ?_
  refine lv_iload_n hx hb dX5_connect_21 rfl (lv_at hl 2 rfl) ?_
  obtain ⟨v1, hv1, hf⟩ := it_b hf
  refine cBi (As := [.ref (q 0), .int x1, .int x2]) (rest := [.ref ka]) (q0 := 68) (ci := 3) [(false, (cxW ka (q 0) (qo 0) a2 a3 (t 0) (h 0) a6 (kx.1 7)), (cxW ka (q 0) (qo 0) a2 a3 (t 0) (h 0) a6 (kx.1 7))), (false, (hiW cI cN h hq hi), (hiW cI cN h hq hi)), (false, (nwW cI qo n), (nwW cI qo n)), (true, (rtW cI t r), (rtW cI t v1.2.1)), (true, (nwW cI q n), (nwW cI q v1.2.2))] ⟨rfl, (fun _ => rfl), rfl, (fun _ => rfl), rfl, (fun _ => rfl), ad_rtr, (fun h => Bool.noConfusion h), ad_net, (fun h => Bool.noConfusion h), trivial⟩ S (c_X3_join l D cI cN t q _ r n x1 x2 v1.1 v1.2.1 v1.2.2 hv1) (cwV 3 hts gX5_connect_X3_join rfl rfl rfl (by decide +kernel) ⟨Nat.le_of_ble_eq_true rfl, Nat.le_of_ble_eq_true rfl⟩) hK hP hD hS hA rfl rfl rfl hl.1 rfl (Nat.le_of_ble_eq_true rfl) dX5_connect_22 ⟨Nat.zero_le _, Nat.zero_le _⟩ (fun H locs hP hD hS => ?_)
  obtain ⟨v2, hv2, hf⟩ := it_b hf
  refine cBi (As := [.int v1.1]) (rest := []) (q0 := 0) (ci := 5) [(true, (cxW ka (q 0) (qo 0) a2 a3 (t 0) (h 0) a6 (kx.1 7)), (cxW ka (q 0) (qo 0) a2 a3 (t 0) (h 0) a6 (kx.1 7))), (true, (hiW cI cN h hq hi), (hiW cI cN h hq v2.2)), (true, (nwW cI qo n), (nwW cI qo n)), (false, (rtW cI t v1.2.1), (rtW cI t v1.2.1)), (false, (nwW cI q v1.2.2), (nwW cI q v1.2.2))] ⟨ad_cex, (fun h => Bool.noConfusion h), ad_his, (fun h => Bool.noConfusion h), ad_net, (fun h => Bool.noConfusion h), rfl, (fun _ => rfl), rfl, (fun _ => rfl), trivial⟩ S (c_X5_recorded l D cI cN ka (q 0) a2 a3 (t 0) a6 h hq qo _ kx hi n v1.1 v2.1 v2.2 hv2) (cwV 1 hts gX5_connect_X5_recorded rfl rfl rfl (by decide +kernel) ⟨Nat.le_of_ble_eq_true rfl, Nat.le_of_ble_eq_true rfl⟩) hK hP hD hS hA rfl rfl rfl hl.1 rfl (Nat.le_of_ble_eq_true rfl) dX5_connect_25 ⟨Nat.zero_le _, Nat.zero_le _⟩ (fun H locs hP hD hS => ?_)
  have e0 : v2.1 = r0 := congrArg (fun z => z.1) (Option.some.inj hf)
  have e1 : v2.2 = hi' := congrArg (fun z => z.2.1) (Option.some.inj hf)
  have e2 : n = o' := congrArg (fun z => z.2.2.1) (Option.some.inj hf)
  have e3 : v1.2.1 = r' := congrArg (fun z => z.2.2.2.1) (Option.some.inj hf)
  have e4 : v1.2.2 = n' := congrArg (fun z => z.2.2.2.2) (Option.some.inj hf)
  subst e0
  subst e1
  subst e2
  subst e3
  subst e4
  exact hret H locs ls _ dX5_connect_28 rfl hP hD hS
set_option maxRecDepth 100000 in
theorem c_X5_connect (l : Launch) (D : va_G) (cI cN : ClassId) (ka a2 a3 a6 : Nat) (h : Nat → Nat) (hq : Nat → Nat → Nat) (qo : Nat → Nat) (t : Nat → Nat) (q : Nat → Nat) (sz : Nat) (kx : OS) (hi : HS) (o : OS) (r : OS) (n : OS) (x1 : Int32) (x2 : Int32) (r0 : Int32) (hi' : HS) (o' : OS) (r' : OS) (n' : OS) (hf : fX5_connect kx hi o r n x1 x2 = some (r0, hi', o', r', n')) : CtI l D cI cN yX5_connect wsX5_connect rm_X5_connect 0 0 [.ref ka, .int x1, .int x2] ((cxW ka (q 0) (qo 0) a2 a3 (t 0) (h 0) a6 (kx.1 7)) ++ ((hiW cI cN h hq hi) ++ ((nwW cI qo o) ++ ((rtW cI t r) ++ (nwW cI q n))))) sz r0 ((cxW ka (q 0) (qo 0) a2 a3 (t 0) (h 0) a6 (kx.1 7)) ++ ((hiW cI cN h hq hi') ++ ((nwW cI qo o') ++ ((rtW cI t r') ++ (nwW cI q n'))))) := by
  refine mW (cc := cX5_connect) (maxL := 3) (ty := .int) (by decide) rfl rfl (Nat.le_of_ble_eq_true rfl) ?_
  intro p e s m args below meth c Q A S hK hP hD hS hA hret ls hl
  exact w_X5_connect_0 S hK hA hret hf _ _ _ hP hD hS (lv_sub (show lv_has ls 3 [(0, .ref ka), (1, .int x1), (2, .int x2)] from hl) [0, 1, 2] rfl)
abbrev rm_X5_disconnect : Room := { frames := 6, cells := 0, slots := 0, locals := 143 }
theorem in_X5_disconnect_X5 : ∀ w ∈ u_ws RX5 TX5 8, w ∈ wsX5_disconnect := fun w h => List.mem_cons_of_mem _ (List.mem_append_left _ (List.mem_append_left _ (List.mem_append_left _ (List.mem_append_right _ h))))
set_option maxRecDepth 100000 in
set_option maxHeartbeats 4000000 in
theorem w_X5_disconnect_0 {p : Program} {l : Launch} {e : Env} {s : State} {m : MethodId} {args : Array Value} {below : List Frame} {meth : Method} {c : Code} {Q : State → Prop} {D : va_G} {cI cN : ClassId} {A : Nat → Prop} {ka a2 a3 a6 : Nat} {h : Nat → Nat} {hq : Nat → Nat → Nat} {qo : Nat → Nat} {t : Nat → Nat} {q : Nat → Nat} (S : CallFix p m c cX5_disconnect 2 s args wsX5_disconnect RX5) (hK : KN D cI cN s) (hA : ∀ q : Nat, s.heap.size ≤ q → A q) {kx : OS} {hi : HS} {o : OS} {r : OS} {n : OS} {x1 : Int32} {r0 : Int32} {hi' : HS} {o' : OS} {n' : OS} (hret : ∀ (H : Heap) (locs : List Loc) (ls : Array Slot) (pc : Nat), decode cX5_disconnect pc = .ok (.ireturn, 1) → narrow .int (.int r0) = .int r0 → va_P D vwCl ((cxW ka (q 0) (qo 0) a2 a3 (t 0) (h 0) a6 (kx.1 7)) ++ ((hiW cI cN h hq hi') ++ ((nwW cI qo o') ++ ((rtW cI t r) ++ (nwW cI q n'))))) H → va_D A ((cxW ka (q 0) (qo 0) a2 a3 (t 0) (h 0) a6 (kx.1 7)) ++ ((hiW cI cN h hq hi') ++ ((nwW cI qo o') ++ ((rtW cI t r) ++ (nwW cI q n'))))) → va_S A s.heap H locs → W p l e (headSpec wsX5_disconnect rm_X5_disconnect).room s m args below meth c H locs 0 0 Q (F0 m pc ls [.int r0])) (hf : fX5_disconnect kx hi o r n x1 = some (r0, hi', o', n')) (H : Heap) (locs : List Loc) (ls : Array Slot) (hP : va_P D vwCl ((cxW ka (q 0) (qo 0) a2 a3 (t 0) (h 0) a6 (kx.1 7)) ++ ((hiW cI cN h hq hi) ++ ((nwW cI qo o) ++ ((rtW cI t r) ++ (nwW cI q n))))) H) (hD : va_D A ((cxW ka (q 0) (qo 0) a2 a3 (t 0) (h 0) a6 (kx.1 7)) ++ ((hiW cI cN h hq hi) ++ ((nwW cI qo o) ++ ((rtW cI t r) ++ (nwW cI q n)))))) (hS : va_S A s.heap H locs) (hl : lv_has ls 2 [(0, .ref ka), (1, .int x1)]) : W p l e (headSpec wsX5_disconnect rm_X5_disconnect).room s m args below meth c H locs 0 0 Q (F0 m 0 ls []) := by
  obtain ⟨hx, hb, hml, hown, hts⟩ := id S
  have inX5 := in_X5_disconnect_X5
  unfold fX5_disconnect at hf
  refine lv_aload_n hx hb dX5_disconnect_0 rfl (lv_at hl 0 rfl) ?_
  refine va_get (D := D) (ci := 5) (v := .ref (qo 0)) (C := RX5) (T := TX5) (N := 8) hx hb hts inX5 hown hK.1 hP 0 rfl rfl 1 (by decide) (hts (.fieldLink RX5 16 "ClosExchange" "before" "LClosExchange$Network;") (List.mem_of_getElem? (i := 1) rfl)) (fun _ h9 => h9) rfl dX5_disconnect_1 ?_
  refine lv_aload_n hx hb dX5_disconnect_4 rfl (lv_at hl 0 rfl) ?_
  refine va_get (D := D) (ci := 5) (v := .ref (q 0)) (C := RX5) (T := TX5) (N := 8) hx hb hts inX5 hown hK.1 hP 0 rfl rfl 0 (by decide) (hts (.fieldLink RX5 12 "ClosExchange" "network" "LClosExchange$Network;") (List.mem_of_getElem? (i := 2) rfl)) (fun _ h9 => h9) rfl dX5_disconnect_5 ?_
  refine cBv (As := [.ref (q 0)]) (rest := []) (q0 := 55) (ci := 1) [(false, (cxW ka (q 0) (qo 0) a2 a3 (t 0) (h 0) a6 (kx.1 7)), (cxW ka (q 0) (qo 0) a2 a3 (t 0) (h 0) a6 (kx.1 7))), (false, (hiW cI cN h hq hi), (hiW cI cN h hq hi)), (true, (nwW cI qo o), (nwW cI qo n)), (false, (rtW cI t r), (rtW cI t r)), (true, (nwW cI q n), (nwW cI q n))] ⟨rfl, (fun _ => rfl), rfl, (fun _ => rfl), ad_net, (fun h => Bool.noConfusion h), rfl, (fun _ => rfl), ad_net, (fun h => Bool.noConfusion h), trivial⟩ S (c_X1_copyFrom l D cI cN qo q _ o n) (cwV 1 hts gX5_disconnect_X1_copyFrom rfl rfl rfl (by decide +kernel) ⟨Nat.le_of_ble_eq_true rfl, Nat.le_of_ble_eq_true rfl⟩) hK hP hD hS hA rfl rfl rfl hl.1 rfl (Nat.le_of_ble_eq_true rfl) dX5_disconnect_8 ⟨Nat.zero_le _, Nat.zero_le _⟩ (fun H locs hP hD hS => ?_)
  refine lv_aload_n hx hb dX5_disconnect_11 rfl (lv_at hl 0 rfl) ?_
  refine lv_aload_n hx hb dX5_disconnect_12 rfl (lv_at hl 0 rfl) ?_
  refine va_get (D := D) (ci := 5) (v := .ref (t 0)) (C := RX5) (T := TX5) (N := 8) hx hb hts inX5 hown hK.1 hP 0 rfl rfl 4 (by decide) (hts (.fieldLink RX5 28 "ClosExchange" "router" "LClosExchange$Router;") (List.mem_of_getElem? (i := 3) rfl)) (fun _ h9 => h9) rfl dX5_disconnect_13 ?_
  refine lv_aload_n hx hb dX5_disconnect_16 rfl (lv_at hl 0 rfl) ?_
  refine va_get (D := D) (ci := 5) (v := .ref (q 0)) (C := RX5) (T := TX5) (N := 8) hx hb hts inX5 hown hK.1 hP 0 rfl rfl 0 (by decide) (hts (.fieldLink RX5 12 "ClosExchange" "network" "LClosExchange$Network;") (List.mem_of_getElem? (i := 2) rfl)) (fun _ h9 => h9) rfl dX5_disconnect_17 ?_
  refine lv_iload_n hx hb dX5_disconnect_20 rfl (lv_at hl 1 rfl) ?_
  obtain ⟨v1, hv1, hf⟩ := it_j hf
  refine cBi (As := [.ref (q 0), .int x1]) (rest := [.ref ka]) (q0 := 68) (ci := 3) [(false, (cxW ka (q 0) (qo 0) a2 a3 (t 0) (h 0) a6 (kx.1 7)), (cxW ka (q 0) (qo 0) a2 a3 (t 0) (h 0) a6 (kx.1 7))), (false, (hiW cI cN h hq hi), (hiW cI cN h hq hi)), (false, (nwW cI qo n), (nwW cI qo n)), (true, (rtW cI t r), (rtW cI t r)), (true, (nwW cI q n), (nwW cI q v1.2))] ⟨rfl, (fun _ => rfl), rfl, (fun _ => rfl), rfl, (fun _ => rfl), ad_rtr, (fun h => Bool.noConfusion h), ad_net, (fun h => Bool.noConfusion h), trivial⟩ S (c_X3_part l D cI cN t q _ r n x1 v1.1 v1.2 hv1) (cwV 2 hts gX5_disconnect_X3_part rfl rfl rfl (by decide +kernel) ⟨Nat.le_of_ble_eq_true rfl, Nat.le_of_ble_eq_true rfl⟩) hK hP hD hS hA rfl rfl rfl hl.1 rfl (Nat.le_of_ble_eq_true rfl) dX5_disconnect_21 ⟨Nat.zero_le _, Nat.zero_le _⟩ (fun H locs hP hD hS => ?_)
  obtain ⟨v2, hv2, hf⟩ := it_b hf
  refine cBi (As := [.int v1.1]) (rest := []) (q0 := 0) (ci := 5) [(true, (cxW ka (q 0) (qo 0) a2 a3 (t 0) (h 0) a6 (kx.1 7)), (cxW ka (q 0) (qo 0) a2 a3 (t 0) (h 0) a6 (kx.1 7))), (true, (hiW cI cN h hq hi), (hiW cI cN h hq v2.2)), (true, (nwW cI qo n), (nwW cI qo n)), (false, (rtW cI t r), (rtW cI t r)), (false, (nwW cI q v1.2), (nwW cI q v1.2))] ⟨ad_cex, (fun h => Bool.noConfusion h), ad_his, (fun h => Bool.noConfusion h), ad_net, (fun h => Bool.noConfusion h), rfl, (fun _ => rfl), rfl, (fun _ => rfl), trivial⟩ S (c_X5_recorded l D cI cN ka (q 0) a2 a3 (t 0) a6 h hq qo _ kx hi n v1.1 v2.1 v2.2 hv2) (cwV 1 hts gX5_disconnect_X5_recorded rfl rfl rfl (by decide +kernel) ⟨Nat.le_of_ble_eq_true rfl, Nat.le_of_ble_eq_true rfl⟩) hK hP hD hS hA rfl rfl rfl hl.1 rfl (Nat.le_of_ble_eq_true rfl) dX5_disconnect_24 ⟨Nat.zero_le _, Nat.zero_le _⟩ (fun H locs hP hD hS => ?_)
  have e0 : v2.1 = r0 := congrArg (fun z => z.1) (Option.some.inj hf)
  have e1 : v2.2 = hi' := congrArg (fun z => z.2.1) (Option.some.inj hf)
  have e2 : n = o' := congrArg (fun z => z.2.2.1) (Option.some.inj hf)
  have e3 : v1.2 = n' := congrArg (fun z => z.2.2.2) (Option.some.inj hf)
  subst e0
  subst e1
  subst e2
  subst e3
  exact hret H locs ls _ dX5_disconnect_27 rfl hP hD hS
set_option maxRecDepth 100000 in
theorem c_X5_disconnect (l : Launch) (D : va_G) (cI cN : ClassId) (ka a2 a3 a6 : Nat) (h : Nat → Nat) (hq : Nat → Nat → Nat) (qo : Nat → Nat) (t : Nat → Nat) (q : Nat → Nat) (sz : Nat) (kx : OS) (hi : HS) (o : OS) (r : OS) (n : OS) (x1 : Int32) (r0 : Int32) (hi' : HS) (o' : OS) (n' : OS) (hf : fX5_disconnect kx hi o r n x1 = some (r0, hi', o', n')) : CtI l D cI cN yX5_disconnect wsX5_disconnect rm_X5_disconnect 0 0 [.ref ka, .int x1] ((cxW ka (q 0) (qo 0) a2 a3 (t 0) (h 0) a6 (kx.1 7)) ++ ((hiW cI cN h hq hi) ++ ((nwW cI qo o) ++ ((rtW cI t r) ++ (nwW cI q n))))) sz r0 ((cxW ka (q 0) (qo 0) a2 a3 (t 0) (h 0) a6 (kx.1 7)) ++ ((hiW cI cN h hq hi') ++ ((nwW cI qo o') ++ ((rtW cI t r) ++ (nwW cI q n'))))) := by
  refine mW (cc := cX5_disconnect) (maxL := 2) (ty := .int) (by decide) rfl rfl (Nat.le_of_ble_eq_true rfl) ?_
  intro p e s m args below meth c Q A S hK hP hD hS hA hret ls hl
  exact w_X5_disconnect_0 S hK hA hret hf _ _ _ hP hD hS (lv_sub (show lv_has ls 2 [(0, .ref ka), (1, .int x1)] from hl) [0, 1] rfl)
abbrev rm_X5_takeOut : Room := { frames := 6, cells := 0, slots := 0, locals := 154 }
theorem in_X5_takeOut_X5 : ∀ w ∈ u_ws RX5 TX5 8, w ∈ wsX5_takeOut := fun w h => List.mem_cons_of_mem _ (List.mem_append_left _ (List.mem_append_left _ (List.mem_append_left _ (List.mem_append_left _ (List.mem_append_right _ h)))))
set_option maxRecDepth 100000 in
set_option maxHeartbeats 4000000 in
theorem w_X5_takeOut_0 {p : Program} {l : Launch} {e : Env} {s : State} {m : MethodId} {args : Array Value} {below : List Frame} {meth : Method} {c : Code} {Q : State → Prop} {D : va_G} {cI cN : ClassId} {A : Nat → Prop} {ka a2 a3 a6 : Nat} {h : Nat → Nat} {hq : Nat → Nat → Nat} {qo : Nat → Nat} {t : Nat → Nat} {q : Nat → Nat} (S : CallFix p m c cX5_takeOut 2 s args wsX5_takeOut RX5) (hK : KN D cI cN s) (hA : ∀ q : Nat, s.heap.size ≤ q → A q) {kx : OS} {hi : HS} {o : OS} {r : OS} {n : OS} {x1 : Int32} {r0 : Int32} {hi' : HS} {o' : OS} {r' : OS} {n' : OS} (hret : ∀ (H : Heap) (locs : List Loc) (ls : Array Slot) (pc : Nat), decode cX5_takeOut pc = .ok (.ireturn, 1) → narrow .int (.int r0) = .int r0 → va_P D vwCl ((cxW ka (q 0) (qo 0) a2 a3 (t 0) (h 0) a6 (kx.1 7)) ++ ((hiW cI cN h hq hi') ++ ((nwW cI qo o') ++ ((rtW cI t r') ++ (nwW cI q n'))))) H → va_D A ((cxW ka (q 0) (qo 0) a2 a3 (t 0) (h 0) a6 (kx.1 7)) ++ ((hiW cI cN h hq hi') ++ ((nwW cI qo o') ++ ((rtW cI t r') ++ (nwW cI q n'))))) → va_S A s.heap H locs → W p l e (headSpec wsX5_takeOut rm_X5_takeOut).room s m args below meth c H locs 0 0 Q (F0 m pc ls [.int r0])) (hf : fX5_takeOut kx hi o r n x1 = some (r0, hi', o', r', n')) (H : Heap) (locs : List Loc) (ls : Array Slot) (hP : va_P D vwCl ((cxW ka (q 0) (qo 0) a2 a3 (t 0) (h 0) a6 (kx.1 7)) ++ ((hiW cI cN h hq hi) ++ ((nwW cI qo o) ++ ((rtW cI t r) ++ (nwW cI q n))))) H) (hD : va_D A ((cxW ka (q 0) (qo 0) a2 a3 (t 0) (h 0) a6 (kx.1 7)) ++ ((hiW cI cN h hq hi) ++ ((nwW cI qo o) ++ ((rtW cI t r) ++ (nwW cI q n)))))) (hS : va_S A s.heap H locs) (hl : lv_has ls 2 [(0, .ref ka), (1, .int x1)]) : W p l e (headSpec wsX5_takeOut rm_X5_takeOut).room s m args below meth c H locs 0 0 Q (F0 m 0 ls []) := by
  obtain ⟨hx, hb, hml, hown, hts⟩ := id S
  have inX5 := in_X5_takeOut_X5
  unfold fX5_takeOut at hf
  refine lv_aload_n hx hb dX5_takeOut_0 rfl (lv_at hl 0 rfl) ?_
  refine va_get (D := D) (ci := 5) (v := .ref (qo 0)) (C := RX5) (T := TX5) (N := 8) hx hb hts inX5 hown hK.1 hP 0 rfl rfl 1 (by decide) (hts (.fieldLink RX5 16 "ClosExchange" "before" "LClosExchange$Network;") (List.mem_of_getElem? (i := 1) rfl)) (fun _ h9 => h9) rfl dX5_takeOut_1 ?_
  refine lv_aload_n hx hb dX5_takeOut_4 rfl (lv_at hl 0 rfl) ?_
  refine va_get (D := D) (ci := 5) (v := .ref (q 0)) (C := RX5) (T := TX5) (N := 8) hx hb hts inX5 hown hK.1 hP 0 rfl rfl 0 (by decide) (hts (.fieldLink RX5 12 "ClosExchange" "network" "LClosExchange$Network;") (List.mem_of_getElem? (i := 2) rfl)) (fun _ h9 => h9) rfl dX5_takeOut_5 ?_
  refine cBv (As := [.ref (q 0)]) (rest := []) (q0 := 55) (ci := 1) [(false, (cxW ka (q 0) (qo 0) a2 a3 (t 0) (h 0) a6 (kx.1 7)), (cxW ka (q 0) (qo 0) a2 a3 (t 0) (h 0) a6 (kx.1 7))), (false, (hiW cI cN h hq hi), (hiW cI cN h hq hi)), (true, (nwW cI qo o), (nwW cI qo n)), (false, (rtW cI t r), (rtW cI t r)), (true, (nwW cI q n), (nwW cI q n))] ⟨rfl, (fun _ => rfl), rfl, (fun _ => rfl), ad_net, (fun h => Bool.noConfusion h), rfl, (fun _ => rfl), ad_net, (fun h => Bool.noConfusion h), trivial⟩ S (c_X1_copyFrom l D cI cN qo q _ o n) (cwV 1 hts gX5_takeOut_X1_copyFrom rfl rfl rfl (by decide +kernel) ⟨Nat.le_of_ble_eq_true rfl, Nat.le_of_ble_eq_true rfl⟩) hK hP hD hS hA rfl rfl rfl hl.1 rfl (Nat.le_of_ble_eq_true rfl) dX5_takeOut_8 ⟨Nat.zero_le _, Nat.zero_le _⟩ (fun H locs hP hD hS => ?_)
  refine lv_aload_n hx hb dX5_takeOut_11 rfl (lv_at hl 0 rfl) ?_
  refine lv_aload_n hx hb dX5_takeOut_12 rfl (lv_at hl 0 rfl) ?_
  refine va_get (D := D) (ci := 5) (v := .ref (t 0)) (C := RX5) (T := TX5) (N := 8) hx hb hts inX5 hown hK.1 hP 0 rfl rfl 4 (by decide) (hts (.fieldLink RX5 28 "ClosExchange" "router" "LClosExchange$Router;") (List.mem_of_getElem? (i := 3) rfl)) (fun _ h9 => h9) rfl dX5_takeOut_13 ?_
  refine lv_aload_n hx hb dX5_takeOut_16 rfl (lv_at hl 0 rfl) ?_
  refine va_get (D := D) (ci := 5) (v := .ref (q 0)) (C := RX5) (T := TX5) (N := 8) hx hb hts inX5 hown hK.1 hP 0 rfl rfl 0 (by decide) (hts (.fieldLink RX5 12 "ClosExchange" "network" "LClosExchange$Network;") (List.mem_of_getElem? (i := 2) rfl)) (fun _ h9 => h9) rfl dX5_takeOut_17 ?_
  refine lv_iload_n hx hb dX5_takeOut_20 rfl (lv_at hl 1 rfl) ?_
  obtain ⟨v1, hv1, hf⟩ := it_b hf
  refine cBi (As := [.ref (q 0), .int x1]) (rest := [.ref ka]) (q0 := 68) (ci := 3) [(false, (cxW ka (q 0) (qo 0) a2 a3 (t 0) (h 0) a6 (kx.1 7)), (cxW ka (q 0) (qo 0) a2 a3 (t 0) (h 0) a6 (kx.1 7))), (false, (hiW cI cN h hq hi), (hiW cI cN h hq hi)), (false, (nwW cI qo n), (nwW cI qo n)), (true, (rtW cI t r), (rtW cI t v1.2.1)), (true, (nwW cI q n), (nwW cI q v1.2.2))] ⟨rfl, (fun _ => rfl), rfl, (fun _ => rfl), rfl, (fun _ => rfl), ad_rtr, (fun h => Bool.noConfusion h), ad_net, (fun h => Bool.noConfusion h), trivial⟩ S (c_X3_retire l D cI cN t q _ r n x1 v1.1 v1.2.1 v1.2.2 hv1) (cwV 2 hts gX5_takeOut_X3_retire rfl rfl rfl (by decide +kernel) ⟨Nat.le_of_ble_eq_true rfl, Nat.le_of_ble_eq_true rfl⟩) hK hP hD hS hA rfl rfl rfl hl.1 rfl (Nat.le_of_ble_eq_true rfl) dX5_takeOut_21 ⟨Nat.zero_le _, Nat.zero_le _⟩ (fun H locs hP hD hS => ?_)
  obtain ⟨v2, hv2, hf⟩ := it_b hf
  refine cBi (As := [.int v1.1]) (rest := []) (q0 := 0) (ci := 5) [(true, (cxW ka (q 0) (qo 0) a2 a3 (t 0) (h 0) a6 (kx.1 7)), (cxW ka (q 0) (qo 0) a2 a3 (t 0) (h 0) a6 (kx.1 7))), (true, (hiW cI cN h hq hi), (hiW cI cN h hq v2.2)), (true, (nwW cI qo n), (nwW cI qo n)), (false, (rtW cI t v1.2.1), (rtW cI t v1.2.1)), (false, (nwW cI q v1.2.2), (nwW cI q v1.2.2))] ⟨ad_cex, (fun h => Bool.noConfusion h), ad_his, (fun h => Bool.noConfusion h), ad_net, (fun h => Bool.noConfusion h), rfl, (fun _ => rfl), rfl, (fun _ => rfl), trivial⟩ S (c_X5_recorded l D cI cN ka (q 0) a2 a3 (t 0) a6 h hq qo _ kx hi n v1.1 v2.1 v2.2 hv2) (cwV 1 hts gX5_takeOut_X5_recorded rfl rfl rfl (by decide +kernel) ⟨Nat.le_of_ble_eq_true rfl, Nat.le_of_ble_eq_true rfl⟩) hK hP hD hS hA rfl rfl rfl hl.1 rfl (Nat.le_of_ble_eq_true rfl) dX5_takeOut_24 ⟨Nat.zero_le _, Nat.zero_le _⟩ (fun H locs hP hD hS => ?_)
  have e0 : v2.1 = r0 := congrArg (fun z => z.1) (Option.some.inj hf)
  have e1 : v2.2 = hi' := congrArg (fun z => z.2.1) (Option.some.inj hf)
  have e2 : n = o' := congrArg (fun z => z.2.2.1) (Option.some.inj hf)
  have e3 : v1.2.1 = r' := congrArg (fun z => z.2.2.2.1) (Option.some.inj hf)
  have e4 : v1.2.2 = n' := congrArg (fun z => z.2.2.2.2) (Option.some.inj hf)
  subst e0
  subst e1
  subst e2
  subst e3
  subst e4
  exact hret H locs ls _ dX5_takeOut_27 rfl hP hD hS
set_option maxRecDepth 100000 in
theorem c_X5_takeOut (l : Launch) (D : va_G) (cI cN : ClassId) (ka a2 a3 a6 : Nat) (h : Nat → Nat) (hq : Nat → Nat → Nat) (qo : Nat → Nat) (t : Nat → Nat) (q : Nat → Nat) (sz : Nat) (kx : OS) (hi : HS) (o : OS) (r : OS) (n : OS) (x1 : Int32) (r0 : Int32) (hi' : HS) (o' : OS) (r' : OS) (n' : OS) (hf : fX5_takeOut kx hi o r n x1 = some (r0, hi', o', r', n')) : CtI l D cI cN yX5_takeOut wsX5_takeOut rm_X5_takeOut 0 0 [.ref ka, .int x1] ((cxW ka (q 0) (qo 0) a2 a3 (t 0) (h 0) a6 (kx.1 7)) ++ ((hiW cI cN h hq hi) ++ ((nwW cI qo o) ++ ((rtW cI t r) ++ (nwW cI q n))))) sz r0 ((cxW ka (q 0) (qo 0) a2 a3 (t 0) (h 0) a6 (kx.1 7)) ++ ((hiW cI cN h hq hi') ++ ((nwW cI qo o') ++ ((rtW cI t r') ++ (nwW cI q n'))))) := by
  refine mW (cc := cX5_takeOut) (maxL := 2) (ty := .int) (by decide) rfl rfl (Nat.le_of_ble_eq_true rfl) ?_
  intro p e s m args below meth c Q A S hK hP hD hS hA hret ls hl
  exact w_X5_takeOut_0 S hK hA hret hf _ _ _ hP hD hS (lv_sub (show lv_has ls 2 [(0, .ref ka), (1, .int x1)] from hl) [0, 1] rfl)
abbrev rm_X5_putBack : Room := { frames := 6, cells := 0, slots := 0, locals := 143 }
theorem in_X5_putBack_X5 : ∀ w ∈ u_ws RX5 TX5 8, w ∈ wsX5_putBack := fun w h => List.mem_cons_of_mem _ (List.mem_append_left _ (List.mem_append_left _ (List.mem_append_left _ (List.mem_append_right _ h))))
set_option maxRecDepth 100000 in
set_option maxHeartbeats 4000000 in
theorem w_X5_putBack_0 {p : Program} {l : Launch} {e : Env} {s : State} {m : MethodId} {args : Array Value} {below : List Frame} {meth : Method} {c : Code} {Q : State → Prop} {D : va_G} {cI cN : ClassId} {A : Nat → Prop} {ka a2 a3 a6 : Nat} {h : Nat → Nat} {hq : Nat → Nat → Nat} {qo : Nat → Nat} {t : Nat → Nat} {q : Nat → Nat} (S : CallFix p m c cX5_putBack 2 s args wsX5_putBack RX5) (hK : KN D cI cN s) (hA : ∀ q : Nat, s.heap.size ≤ q → A q) {kx : OS} {hi : HS} {o : OS} {r : OS} {n : OS} {x1 : Int32} {r0 : Int32} {hi' : HS} {o' : OS} {n' : OS} (hret : ∀ (H : Heap) (locs : List Loc) (ls : Array Slot) (pc : Nat), decode cX5_putBack pc = .ok (.ireturn, 1) → narrow .int (.int r0) = .int r0 → va_P D vwCl ((cxW ka (q 0) (qo 0) a2 a3 (t 0) (h 0) a6 (kx.1 7)) ++ ((hiW cI cN h hq hi') ++ ((nwW cI qo o') ++ ((rtW cI t r) ++ (nwW cI q n'))))) H → va_D A ((cxW ka (q 0) (qo 0) a2 a3 (t 0) (h 0) a6 (kx.1 7)) ++ ((hiW cI cN h hq hi') ++ ((nwW cI qo o') ++ ((rtW cI t r) ++ (nwW cI q n'))))) → va_S A s.heap H locs → W p l e (headSpec wsX5_putBack rm_X5_putBack).room s m args below meth c H locs 0 0 Q (F0 m pc ls [.int r0])) (hf : fX5_putBack kx hi o r n x1 = some (r0, hi', o', n')) (H : Heap) (locs : List Loc) (ls : Array Slot) (hP : va_P D vwCl ((cxW ka (q 0) (qo 0) a2 a3 (t 0) (h 0) a6 (kx.1 7)) ++ ((hiW cI cN h hq hi) ++ ((nwW cI qo o) ++ ((rtW cI t r) ++ (nwW cI q n))))) H) (hD : va_D A ((cxW ka (q 0) (qo 0) a2 a3 (t 0) (h 0) a6 (kx.1 7)) ++ ((hiW cI cN h hq hi) ++ ((nwW cI qo o) ++ ((rtW cI t r) ++ (nwW cI q n)))))) (hS : va_S A s.heap H locs) (hl : lv_has ls 2 [(0, .ref ka), (1, .int x1)]) : W p l e (headSpec wsX5_putBack rm_X5_putBack).room s m args below meth c H locs 0 0 Q (F0 m 0 ls []) := by
  obtain ⟨hx, hb, hml, hown, hts⟩ := id S
  have inX5 := in_X5_putBack_X5
  unfold fX5_putBack at hf
  refine lv_aload_n hx hb dX5_putBack_0 rfl (lv_at hl 0 rfl) ?_
  refine va_get (D := D) (ci := 5) (v := .ref (qo 0)) (C := RX5) (T := TX5) (N := 8) hx hb hts inX5 hown hK.1 hP 0 rfl rfl 1 (by decide) (hts (.fieldLink RX5 16 "ClosExchange" "before" "LClosExchange$Network;") (List.mem_of_getElem? (i := 1) rfl)) (fun _ h9 => h9) rfl dX5_putBack_1 ?_
  refine lv_aload_n hx hb dX5_putBack_4 rfl (lv_at hl 0 rfl) ?_
  refine va_get (D := D) (ci := 5) (v := .ref (q 0)) (C := RX5) (T := TX5) (N := 8) hx hb hts inX5 hown hK.1 hP 0 rfl rfl 0 (by decide) (hts (.fieldLink RX5 12 "ClosExchange" "network" "LClosExchange$Network;") (List.mem_of_getElem? (i := 2) rfl)) (fun _ h9 => h9) rfl dX5_putBack_5 ?_
  refine cBv (As := [.ref (q 0)]) (rest := []) (q0 := 55) (ci := 1) [(false, (cxW ka (q 0) (qo 0) a2 a3 (t 0) (h 0) a6 (kx.1 7)), (cxW ka (q 0) (qo 0) a2 a3 (t 0) (h 0) a6 (kx.1 7))), (false, (hiW cI cN h hq hi), (hiW cI cN h hq hi)), (true, (nwW cI qo o), (nwW cI qo n)), (false, (rtW cI t r), (rtW cI t r)), (true, (nwW cI q n), (nwW cI q n))] ⟨rfl, (fun _ => rfl), rfl, (fun _ => rfl), ad_net, (fun h => Bool.noConfusion h), rfl, (fun _ => rfl), ad_net, (fun h => Bool.noConfusion h), trivial⟩ S (c_X1_copyFrom l D cI cN qo q _ o n) (cwV 1 hts gX5_putBack_X1_copyFrom rfl rfl rfl (by decide +kernel) ⟨Nat.le_of_ble_eq_true rfl, Nat.le_of_ble_eq_true rfl⟩) hK hP hD hS hA rfl rfl rfl hl.1 rfl (Nat.le_of_ble_eq_true rfl) dX5_putBack_8 ⟨Nat.zero_le _, Nat.zero_le _⟩ (fun H locs hP hD hS => ?_)
  refine lv_aload_n hx hb dX5_putBack_11 rfl (lv_at hl 0 rfl) ?_
  refine lv_aload_n hx hb dX5_putBack_12 rfl (lv_at hl 0 rfl) ?_
  refine va_get (D := D) (ci := 5) (v := .ref (t 0)) (C := RX5) (T := TX5) (N := 8) hx hb hts inX5 hown hK.1 hP 0 rfl rfl 4 (by decide) (hts (.fieldLink RX5 28 "ClosExchange" "router" "LClosExchange$Router;") (List.mem_of_getElem? (i := 3) rfl)) (fun _ h9 => h9) rfl dX5_putBack_13 ?_
  refine lv_aload_n hx hb dX5_putBack_16 rfl (lv_at hl 0 rfl) ?_
  refine va_get (D := D) (ci := 5) (v := .ref (q 0)) (C := RX5) (T := TX5) (N := 8) hx hb hts inX5 hown hK.1 hP 0 rfl rfl 0 (by decide) (hts (.fieldLink RX5 12 "ClosExchange" "network" "LClosExchange$Network;") (List.mem_of_getElem? (i := 2) rfl)) (fun _ h9 => h9) rfl dX5_putBack_17 ?_
  refine lv_iload_n hx hb dX5_putBack_20 rfl (lv_at hl 1 rfl) ?_
  obtain ⟨v1, hv1, hf⟩ := it_j hf
  refine cBi (As := [.ref (q 0), .int x1]) (rest := [.ref ka]) (q0 := 68) (ci := 3) [(false, (cxW ka (q 0) (qo 0) a2 a3 (t 0) (h 0) a6 (kx.1 7)), (cxW ka (q 0) (qo 0) a2 a3 (t 0) (h 0) a6 (kx.1 7))), (false, (hiW cI cN h hq hi), (hiW cI cN h hq hi)), (false, (nwW cI qo n), (nwW cI qo n)), (true, (rtW cI t r), (rtW cI t r)), (true, (nwW cI q n), (nwW cI q v1.2))] ⟨rfl, (fun _ => rfl), rfl, (fun _ => rfl), rfl, (fun _ => rfl), ad_rtr, (fun h => Bool.noConfusion h), ad_net, (fun h => Bool.noConfusion h), trivial⟩ S (c_X3_revive l D cI cN t q _ r n x1 v1.1 v1.2 hv1) (cwV 2 hts gX5_putBack_X3_revive rfl rfl rfl (by decide +kernel) ⟨Nat.le_of_ble_eq_true rfl, Nat.le_of_ble_eq_true rfl⟩) hK hP hD hS hA rfl rfl rfl hl.1 rfl (Nat.le_of_ble_eq_true rfl) dX5_putBack_21 ⟨Nat.zero_le _, Nat.zero_le _⟩ (fun H locs hP hD hS => ?_)
  obtain ⟨v2, hv2, hf⟩ := it_b hf
  refine cBi (As := [.int v1.1]) (rest := []) (q0 := 0) (ci := 5) [(true, (cxW ka (q 0) (qo 0) a2 a3 (t 0) (h 0) a6 (kx.1 7)), (cxW ka (q 0) (qo 0) a2 a3 (t 0) (h 0) a6 (kx.1 7))), (true, (hiW cI cN h hq hi), (hiW cI cN h hq v2.2)), (true, (nwW cI qo n), (nwW cI qo n)), (false, (rtW cI t r), (rtW cI t r)), (false, (nwW cI q v1.2), (nwW cI q v1.2))] ⟨ad_cex, (fun h => Bool.noConfusion h), ad_his, (fun h => Bool.noConfusion h), ad_net, (fun h => Bool.noConfusion h), rfl, (fun _ => rfl), rfl, (fun _ => rfl), trivial⟩ S (c_X5_recorded l D cI cN ka (q 0) a2 a3 (t 0) a6 h hq qo _ kx hi n v1.1 v2.1 v2.2 hv2) (cwV 1 hts gX5_putBack_X5_recorded rfl rfl rfl (by decide +kernel) ⟨Nat.le_of_ble_eq_true rfl, Nat.le_of_ble_eq_true rfl⟩) hK hP hD hS hA rfl rfl rfl hl.1 rfl (Nat.le_of_ble_eq_true rfl) dX5_putBack_24 ⟨Nat.zero_le _, Nat.zero_le _⟩ (fun H locs hP hD hS => ?_)
  have e0 : v2.1 = r0 := congrArg (fun z => z.1) (Option.some.inj hf)
  have e1 : v2.2 = hi' := congrArg (fun z => z.2.1) (Option.some.inj hf)
  have e2 : n = o' := congrArg (fun z => z.2.2.1) (Option.some.inj hf)
  have e3 : v1.2 = n' := congrArg (fun z => z.2.2.2) (Option.some.inj hf)
  subst e0
  subst e1
  subst e2
  subst e3
  exact hret H locs ls _ dX5_putBack_27 rfl hP hD hS
set_option maxRecDepth 100000 in
theorem c_X5_putBack (l : Launch) (D : va_G) (cI cN : ClassId) (ka a2 a3 a6 : Nat) (h : Nat → Nat) (hq : Nat → Nat → Nat) (qo : Nat → Nat) (t : Nat → Nat) (q : Nat → Nat) (sz : Nat) (kx : OS) (hi : HS) (o : OS) (r : OS) (n : OS) (x1 : Int32) (r0 : Int32) (hi' : HS) (o' : OS) (n' : OS) (hf : fX5_putBack kx hi o r n x1 = some (r0, hi', o', n')) : CtI l D cI cN yX5_putBack wsX5_putBack rm_X5_putBack 0 0 [.ref ka, .int x1] ((cxW ka (q 0) (qo 0) a2 a3 (t 0) (h 0) a6 (kx.1 7)) ++ ((hiW cI cN h hq hi) ++ ((nwW cI qo o) ++ ((rtW cI t r) ++ (nwW cI q n))))) sz r0 ((cxW ka (q 0) (qo 0) a2 a3 (t 0) (h 0) a6 (kx.1 7)) ++ ((hiW cI cN h hq hi') ++ ((nwW cI qo o') ++ ((rtW cI t r) ++ (nwW cI q n'))))) := by
  refine mW (cc := cX5_putBack) (maxL := 2) (ty := .int) (by decide) rfl rfl (Nat.le_of_ble_eq_true rfl) ?_
  intro p e s m args below meth c Q A S hK hP hD hS hA hret ls hl
  exact w_X5_putBack_0 S hK hA hret hf _ _ _ hP hD hS (lv_sub (show lv_has ls 2 [(0, .ref ka), (1, .int x1)] from hl) [0, 1] rfl)
abbrev rm_X5_pack : Room := { frames := 6, cells := 0, slots := 0, locals := 155 }
theorem in_X5_pack_X5 : ∀ w ∈ u_ws RX5 TX5 8, w ∈ wsX5_pack := fun w h => List.mem_cons_of_mem _ (List.mem_append_left _ (List.mem_append_left _ (List.mem_append_left _ (List.mem_append_left _ (List.mem_append_right _ h)))))
set_option maxRecDepth 100000 in
set_option maxHeartbeats 4000000 in
theorem w_X5_pack_0 {p : Program} {l : Launch} {e : Env} {s : State} {m : MethodId} {args : Array Value} {below : List Frame} {meth : Method} {c : Code} {Q : State → Prop} {D : va_G} {cI cN : ClassId} {A : Nat → Prop} {ka a2 a3 a6 : Nat} {h : Nat → Nat} {hq : Nat → Nat → Nat} {qo : Nat → Nat} {t : Nat → Nat} {q : Nat → Nat} (S : CallFix p m c cX5_pack 1 s args wsX5_pack RX5) (hK : KN D cI cN s) (hA : ∀ q : Nat, s.heap.size ≤ q → A q) {kx : OS} {hi : HS} {o : OS} {r : OS} {n : OS} {r0 : Int32} {hi' : HS} {o' : OS} {r' : OS} {n' : OS} (hret : ∀ (H : Heap) (locs : List Loc) (ls : Array Slot) (pc : Nat), decode cX5_pack pc = .ok (.ireturn, 1) → narrow .int (.int r0) = .int r0 → va_P D vwCl ((cxW ka (q 0) (qo 0) a2 a3 (t 0) (h 0) a6 (kx.1 7)) ++ ((hiW cI cN h hq hi') ++ ((nwW cI qo o') ++ ((rtW cI t r') ++ (nwW cI q n'))))) H → va_D A ((cxW ka (q 0) (qo 0) a2 a3 (t 0) (h 0) a6 (kx.1 7)) ++ ((hiW cI cN h hq hi') ++ ((nwW cI qo o') ++ ((rtW cI t r') ++ (nwW cI q n'))))) → va_S A s.heap H locs → W p l e (headSpec wsX5_pack rm_X5_pack).room s m args below meth c H locs 0 0 Q (F0 m pc ls [.int r0])) (hf : fX5_pack kx hi o r n = some (r0, hi', o', r', n')) (H : Heap) (locs : List Loc) (ls : Array Slot) (hP : va_P D vwCl ((cxW ka (q 0) (qo 0) a2 a3 (t 0) (h 0) a6 (kx.1 7)) ++ ((hiW cI cN h hq hi) ++ ((nwW cI qo o) ++ ((rtW cI t r) ++ (nwW cI q n))))) H) (hD : va_D A ((cxW ka (q 0) (qo 0) a2 a3 (t 0) (h 0) a6 (kx.1 7)) ++ ((hiW cI cN h hq hi) ++ ((nwW cI qo o) ++ ((rtW cI t r) ++ (nwW cI q n)))))) (hS : va_S A s.heap H locs) (hl : lv_has ls 1 [(0, .ref ka)]) : W p l e (headSpec wsX5_pack rm_X5_pack).room s m args below meth c H locs 0 0 Q (F0 m 0 ls []) := by
  obtain ⟨hx, hb, hml, hown, hts⟩ := id S
  have inX5 := in_X5_pack_X5
  unfold fX5_pack at hf
  refine lv_aload_n hx hb dX5_pack_0 rfl (lv_at hl 0 rfl) ?_
  refine va_get (D := D) (ci := 5) (v := .ref (qo 0)) (C := RX5) (T := TX5) (N := 8) hx hb hts inX5 hown hK.1 hP 0 rfl rfl 1 (by decide) (hts (.fieldLink RX5 16 "ClosExchange" "before" "LClosExchange$Network;") (List.mem_of_getElem? (i := 1) rfl)) (fun _ h9 => h9) rfl dX5_pack_1 ?_
  refine lv_aload_n hx hb dX5_pack_4 rfl (lv_at hl 0 rfl) ?_
  refine va_get (D := D) (ci := 5) (v := .ref (q 0)) (C := RX5) (T := TX5) (N := 8) hx hb hts inX5 hown hK.1 hP 0 rfl rfl 0 (by decide) (hts (.fieldLink RX5 12 "ClosExchange" "network" "LClosExchange$Network;") (List.mem_of_getElem? (i := 2) rfl)) (fun _ h9 => h9) rfl dX5_pack_5 ?_
  refine cBv (As := [.ref (q 0)]) (rest := []) (q0 := 55) (ci := 1) [(false, (cxW ka (q 0) (qo 0) a2 a3 (t 0) (h 0) a6 (kx.1 7)), (cxW ka (q 0) (qo 0) a2 a3 (t 0) (h 0) a6 (kx.1 7))), (false, (hiW cI cN h hq hi), (hiW cI cN h hq hi)), (true, (nwW cI qo o), (nwW cI qo n)), (false, (rtW cI t r), (rtW cI t r)), (true, (nwW cI q n), (nwW cI q n))] ⟨rfl, (fun _ => rfl), rfl, (fun _ => rfl), ad_net, (fun h => Bool.noConfusion h), rfl, (fun _ => rfl), ad_net, (fun h => Bool.noConfusion h), trivial⟩ S (c_X1_copyFrom l D cI cN qo q _ o n) (cwV 1 hts gX5_pack_X1_copyFrom rfl rfl rfl (by decide +kernel) ⟨Nat.le_of_ble_eq_true rfl, Nat.le_of_ble_eq_true rfl⟩) hK hP hD hS hA rfl rfl rfl hl.1 rfl (Nat.le_of_ble_eq_true rfl) dX5_pack_8 ⟨Nat.zero_le _, Nat.zero_le _⟩ (fun H locs hP hD hS => ?_)
  refine lv_aload_n hx hb dX5_pack_11 rfl (lv_at hl 0 rfl) ?_
  refine lv_aload_n hx hb dX5_pack_12 rfl (lv_at hl 0 rfl) ?_
  refine va_get (D := D) (ci := 5) (v := .ref (t 0)) (C := RX5) (T := TX5) (N := 8) hx hb hts inX5 hown hK.1 hP 0 rfl rfl 4 (by decide) (hts (.fieldLink RX5 28 "ClosExchange" "router" "LClosExchange$Router;") (List.mem_of_getElem? (i := 3) rfl)) (fun _ h9 => h9) rfl dX5_pack_13 ?_
  refine lv_aload_n hx hb dX5_pack_16 rfl (lv_at hl 0 rfl) ?_
  refine va_get (D := D) (ci := 5) (v := .ref (q 0)) (C := RX5) (T := TX5) (N := 8) hx hb hts inX5 hown hK.1 hP 0 rfl rfl 0 (by decide) (hts (.fieldLink RX5 12 "ClosExchange" "network" "LClosExchange$Network;") (List.mem_of_getElem? (i := 2) rfl)) (fun _ h9 => h9) rfl dX5_pack_17 ?_
  obtain ⟨v1, hv1, hf⟩ := it_b hf
  refine cBi (As := [.ref (q 0)]) (rest := [.ref ka]) (q0 := 68) (ci := 3) [(false, (cxW ka (q 0) (qo 0) a2 a3 (t 0) (h 0) a6 (kx.1 7)), (cxW ka (q 0) (qo 0) a2 a3 (t 0) (h 0) a6 (kx.1 7))), (false, (hiW cI cN h hq hi), (hiW cI cN h hq hi)), (false, (nwW cI qo n), (nwW cI qo n)), (true, (rtW cI t r), (rtW cI t v1.2.1)), (true, (nwW cI q n), (nwW cI q v1.2.2))] ⟨rfl, (fun _ => rfl), rfl, (fun _ => rfl), rfl, (fun _ => rfl), ad_rtr, (fun h => Bool.noConfusion h), ad_net, (fun h => Bool.noConfusion h), trivial⟩ S (c_X3_repack l D cI cN t q _ r n v1.1 v1.2.1 v1.2.2 hv1) (cwV 1 hts gX5_pack_X3_repack rfl rfl rfl (by decide +kernel) ⟨Nat.le_of_ble_eq_true rfl, Nat.le_of_ble_eq_true rfl⟩) hK hP hD hS hA rfl rfl rfl hl.1 rfl (Nat.le_of_ble_eq_true rfl) dX5_pack_20 ⟨Nat.zero_le _, Nat.zero_le _⟩ (fun H locs hP hD hS => ?_)
  obtain ⟨v2, hv2, hf⟩ := it_b hf
  refine cBi (As := [.int v1.1]) (rest := []) (q0 := 0) (ci := 5) [(true, (cxW ka (q 0) (qo 0) a2 a3 (t 0) (h 0) a6 (kx.1 7)), (cxW ka (q 0) (qo 0) a2 a3 (t 0) (h 0) a6 (kx.1 7))), (true, (hiW cI cN h hq hi), (hiW cI cN h hq v2.2)), (true, (nwW cI qo n), (nwW cI qo n)), (false, (rtW cI t v1.2.1), (rtW cI t v1.2.1)), (false, (nwW cI q v1.2.2), (nwW cI q v1.2.2))] ⟨ad_cex, (fun h => Bool.noConfusion h), ad_his, (fun h => Bool.noConfusion h), ad_net, (fun h => Bool.noConfusion h), rfl, (fun _ => rfl), rfl, (fun _ => rfl), trivial⟩ S (c_X5_recorded l D cI cN ka (q 0) a2 a3 (t 0) a6 h hq qo _ kx hi n v1.1 v2.1 v2.2 hv2) (cwV 1 hts gX5_pack_X5_recorded rfl rfl rfl (by decide +kernel) ⟨Nat.le_of_ble_eq_true rfl, Nat.le_of_ble_eq_true rfl⟩) hK hP hD hS hA rfl rfl rfl hl.1 rfl (Nat.le_of_ble_eq_true rfl) dX5_pack_23 ⟨Nat.zero_le _, Nat.zero_le _⟩ (fun H locs hP hD hS => ?_)
  have e0 : v2.1 = r0 := congrArg (fun z => z.1) (Option.some.inj hf)
  have e1 : v2.2 = hi' := congrArg (fun z => z.2.1) (Option.some.inj hf)
  have e2 : n = o' := congrArg (fun z => z.2.2.1) (Option.some.inj hf)
  have e3 : v1.2.1 = r' := congrArg (fun z => z.2.2.2.1) (Option.some.inj hf)
  have e4 : v1.2.2 = n' := congrArg (fun z => z.2.2.2.2) (Option.some.inj hf)
  subst e0
  subst e1
  subst e2
  subst e3
  subst e4
  exact hret H locs ls _ dX5_pack_26 rfl hP hD hS
set_option maxRecDepth 100000 in
theorem c_X5_pack (l : Launch) (D : va_G) (cI cN : ClassId) (ka a2 a3 a6 : Nat) (h : Nat → Nat) (hq : Nat → Nat → Nat) (qo : Nat → Nat) (t : Nat → Nat) (q : Nat → Nat) (sz : Nat) (kx : OS) (hi : HS) (o : OS) (r : OS) (n : OS) (r0 : Int32) (hi' : HS) (o' : OS) (r' : OS) (n' : OS) (hf : fX5_pack kx hi o r n = some (r0, hi', o', r', n')) : CtI l D cI cN yX5_pack wsX5_pack rm_X5_pack 0 0 [.ref ka] ((cxW ka (q 0) (qo 0) a2 a3 (t 0) (h 0) a6 (kx.1 7)) ++ ((hiW cI cN h hq hi) ++ ((nwW cI qo o) ++ ((rtW cI t r) ++ (nwW cI q n))))) sz r0 ((cxW ka (q 0) (qo 0) a2 a3 (t 0) (h 0) a6 (kx.1 7)) ++ ((hiW cI cN h hq hi') ++ ((nwW cI qo o') ++ ((rtW cI t r') ++ (nwW cI q n'))))) := by
  refine mW (cc := cX5_pack) (maxL := 1) (ty := .int) (by decide) rfl rfl (Nat.le_of_ble_eq_true rfl) ?_
  intro p e s m args below meth c Q A S hK hP hD hS hA hret ls hl
  exact w_X5_pack_0 S hK hA hret hf _ _ _ hP hD hS (lv_sub (show lv_has ls 1 [(0, .ref ka)] from hl) [0] rfl)
abbrev rm_X5_undo : Room := { frames := 5, cells := 0, slots := 0, locals := 122 }
theorem in_X5_undo_X5 : ∀ w ∈ u_ws RX5 TX5 8, w ∈ wsX5_undo := fun w h => List.mem_cons_of_mem _ (List.mem_append_left _ (List.mem_append_left _ (List.mem_append_left _ (List.mem_append_right _ h))))
set_option maxRecDepth 100000 in
set_option maxHeartbeats 4000000 in
theorem w_X5_undo_0 {p : Program} {l : Launch} {e : Env} {s : State} {m : MethodId} {args : Array Value} {below : List Frame} {meth : Method} {c : Code} {Q : State → Prop} {D : va_G} {cI cN : ClassId} {A : Nat → Prop} {ka a1 a2 a3 a4 a6 : Nat} {h : Nat → Nat} {hq : Nat → Nat → Nat} {q : Nat → Nat} (S : CallFix p m c cX5_undo 1 s args wsX5_undo RX5) (hK : KN D cI cN s) (hA : ∀ q : Nat, s.heap.size ≤ q → A q) {kx : OS} {hi : HS} {n : OS} {r0 : Int32} {hi' : HS} {n' : OS} (hret : ∀ (H : Heap) (locs : List Loc) (ls : Array Slot) (pc : Nat), decode cX5_undo pc = .ok (.ireturn, 1) → narrow .int (.int r0) = .int r0 → va_P D vwCl ((cxW ka (q 0) a1 a2 a3 a4 (h 0) a6 (kx.1 7)) ++ ((hiW cI cN h hq hi') ++ (nwW cI q n'))) H → va_D A ((cxW ka (q 0) a1 a2 a3 a4 (h 0) a6 (kx.1 7)) ++ ((hiW cI cN h hq hi') ++ (nwW cI q n'))) → va_S A s.heap H locs → W p l e (headSpec wsX5_undo rm_X5_undo).room s m args below meth c H locs 0 0 Q (F0 m pc ls [.int r0])) (hf : fX5_undo kx hi n = some (r0, hi', n')) (H : Heap) (locs : List Loc) (ls : Array Slot) (hP : va_P D vwCl ((cxW ka (q 0) a1 a2 a3 a4 (h 0) a6 (kx.1 7)) ++ ((hiW cI cN h hq hi) ++ (nwW cI q n))) H) (hD : va_D A ((cxW ka (q 0) a1 a2 a3 a4 (h 0) a6 (kx.1 7)) ++ ((hiW cI cN h hq hi) ++ (nwW cI q n)))) (hS : va_S A s.heap H locs) (hl : lv_has ls 1 [(0, .ref ka)]) : W p l e (headSpec wsX5_undo rm_X5_undo).room s m args below meth c H locs 0 0 Q (F0 m 0 ls []) := by
  obtain ⟨hx, hb, hml, hown, hts⟩ := id S
  have inX5 := in_X5_undo_X5
  unfold fX5_undo at hf
  refine lv_aload_n hx hb dX5_undo_0 rfl (lv_at hl 0 rfl) ?_
  refine va_get (D := D) (ci := 5) (v := .ref (h 0)) (C := RX5) (T := TX5) (N := 8) hx hb hts inX5 hown hK.1 hP 0 rfl rfl 5 (by decide) (hts (.fieldLink RX5 35 "ClosExchange" "history" "LClosExchange$History;") (List.mem_of_getElem? (i := 1) rfl)) (fun _ h9 => h9) rfl dX5_undo_1 ?_
  refine lv_aload_n hx hb dX5_undo_4 rfl (lv_at hl 0 rfl) ?_
  refine va_get (D := D) (ci := 5) (v := .ref (q 0)) (C := RX5) (T := TX5) (N := 8) hx hb hts inX5 hown hK.1 hP 0 rfl rfl 0 (by decide) (hts (.fieldLink RX5 12 "ClosExchange" "network" "LClosExchange$Network;") (List.mem_of_getElem? (i := 2) rfl)) (fun _ h9 => h9) rfl dX5_undo_5 ?_
  obtain ⟨v1, hv1, hf⟩ := it_b hf
  refine cBi (As := [.ref (q 0)]) (rest := []) (q0 := 1) (ci := 0) [(false, (cxW ka (q 0) a1 a2 a3 a4 (h 0) a6 (kx.1 7)), (cxW ka (q 0) a1 a2 a3 a4 (h 0) a6 (kx.1 7))), (true, (hiW cI cN h hq hi), (hiW cI cN h hq v1.2.1)), (true, (nwW cI q n), (nwW cI q v1.2.2))] ⟨rfl, (fun _ => rfl), ad_his, (fun h => Bool.noConfusion h), ad_net, (fun h => Bool.noConfusion h), trivial⟩ S (c_X0_takeBack l D cI cN h hq q _ hi n v1.1 v1.2.1 v1.2.2 hv1) (cwV 1 hts gX5_undo_X0_takeBack rfl rfl rfl (by decide +kernel) ⟨Nat.le_of_ble_eq_true rfl, Nat.le_of_ble_eq_true rfl⟩) hK hP hD hS hA rfl rfl rfl hl.1 rfl (Nat.le_of_ble_eq_true rfl) dX5_undo_8 ⟨Nat.zero_le _, Nat.zero_le _⟩ (fun H locs hP hD hS => ?_)
  have e0 : v1.1 = r0 := congrArg (fun z => z.1) (Option.some.inj hf)
  have e1 : v1.2.1 = hi' := congrArg (fun z => z.2.1) (Option.some.inj hf)
  have e2 : v1.2.2 = n' := congrArg (fun z => z.2.2) (Option.some.inj hf)
  subst e0
  subst e1
  subst e2
  exact hret H locs ls _ dX5_undo_11 rfl hP hD hS
set_option maxRecDepth 100000 in
theorem c_X5_undo (l : Launch) (D : va_G) (cI cN : ClassId) (ka a1 a2 a3 a4 a6 : Nat) (h : Nat → Nat) (hq : Nat → Nat → Nat) (q : Nat → Nat) (sz : Nat) (kx : OS) (hi : HS) (n : OS) (r0 : Int32) (hi' : HS) (n' : OS) (hf : fX5_undo kx hi n = some (r0, hi', n')) : CtI l D cI cN yX5_undo wsX5_undo rm_X5_undo 0 0 [.ref ka] ((cxW ka (q 0) a1 a2 a3 a4 (h 0) a6 (kx.1 7)) ++ ((hiW cI cN h hq hi) ++ (nwW cI q n))) sz r0 ((cxW ka (q 0) a1 a2 a3 a4 (h 0) a6 (kx.1 7)) ++ ((hiW cI cN h hq hi') ++ (nwW cI q n'))) := by
  refine mW (cc := cX5_undo) (maxL := 1) (ty := .int) (by decide) rfl rfl (Nat.le_of_ble_eq_true rfl) ?_
  intro p e s m args below meth c Q A S hK hP hD hS hA hret ls hl
  exact w_X5_undo_0 S hK hA hret hf _ _ _ hP hD hS (lv_sub (show lv_has ls 1 [(0, .ref ka)] from hl) [0] rfl)
abbrev rm_X5_keep : Room := { frames := 3, cells := 0, slots := 0, locals := 72 }
theorem in_X5_keep_X5 : ∀ w ∈ u_ws RX5 TX5 8, w ∈ wsX5_keep := fun w h => List.mem_cons_of_mem _ (List.mem_append_left _ (List.mem_append_left _ (List.mem_append_right _ h)))
set_option maxRecDepth 100000 in
set_option maxHeartbeats 4000000 in
theorem w_X5_keep_0 {p : Program} {l : Launch} {e : Env} {s : State} {m : MethodId} {args : Array Value} {below : List Frame} {meth : Method} {c : Code} {Q : State → Prop} {D : va_G} {cI cN : ClassId} {A : Nat → Prop} {ka a1 a3 a4 a5 a6 : Nat} {qs : Nat → Nat} {q : Nat → Nat} (S : CallFix p m c cX5_keep 1 s args wsX5_keep RX5) (hK : KN D cI cN s) (hA : ∀ q : Nat, s.heap.size ≤ q → A q) {kx : OS} {sn : OS} {n : OS} {r0 : Int32} {kx' : OS} {sn' : OS} (hret : ∀ (H : Heap) (locs : List Loc) (ls : Array Slot) (pc : Nat), decode cX5_keep pc = .ok (.ireturn, 1) → narrow .int (.int r0) = .int r0 → va_P D vwCl ((cxW ka (q 0) a1 (qs 0) a3 a4 a5 a6 (kx'.1 7)) ++ ((nwW cI qs sn') ++ (nwW cI q n))) H → va_D A ((cxW ka (q 0) a1 (qs 0) a3 a4 a5 a6 (kx'.1 7)) ++ ((nwW cI qs sn') ++ (nwW cI q n))) → va_S A s.heap H locs → W p l e (headSpec wsX5_keep rm_X5_keep).room s m args below meth c H locs 0 0 Q (F0 m pc ls [.int r0])) (hf : fX5_keep kx sn n = some (r0, kx', sn')) (H : Heap) (locs : List Loc) (ls : Array Slot) (hP : va_P D vwCl ((cxW ka (q 0) a1 (qs 0) a3 a4 a5 a6 (kx.1 7)) ++ ((nwW cI qs sn) ++ (nwW cI q n))) H) (hD : va_D A ((cxW ka (q 0) a1 (qs 0) a3 a4 a5 a6 (kx.1 7)) ++ ((nwW cI qs sn) ++ (nwW cI q n)))) (hS : va_S A s.heap H locs) (hl : lv_has ls 1 [(0, .ref ka)]) : W p l e (headSpec wsX5_keep rm_X5_keep).room s m args below meth c H locs 0 0 Q (F0 m 0 ls []) := by
  obtain ⟨hx, hb, hml, hown, hts⟩ := id S
  have inX5 := in_X5_keep_X5
  unfold fX5_keep at hf
  refine lv_aload_n hx hb dX5_keep_0 rfl (lv_at hl 0 rfl) ?_
  refine va_get (D := D) (ci := 5) (v := .ref (qs 0)) (C := RX5) (T := TX5) (N := 8) hx hb hts inX5 hown hK.1 hP 0 rfl rfl 2 (by decide) (hts (.fieldLink RX5 19 "ClosExchange" "snapshot" "LClosExchange$Network;") (List.mem_of_getElem? (i := 1) rfl)) (fun _ h9 => h9) rfl dX5_keep_1 ?_
  refine lv_aload_n hx hb dX5_keep_4 rfl (lv_at hl 0 rfl) ?_
  refine va_get (D := D) (ci := 5) (v := .ref (q 0)) (C := RX5) (T := TX5) (N := 8) hx hb hts inX5 hown hK.1 hP 0 rfl rfl 0 (by decide) (hts (.fieldLink RX5 12 "ClosExchange" "network" "LClosExchange$Network;") (List.mem_of_getElem? (i := 2) rfl)) (fun _ h9 => h9) rfl dX5_keep_5 ?_
  refine cBv (As := [.ref (q 0)]) (rest := []) (q0 := 1) (ci := 1) [(false, (cxW ka (q 0) a1 (qs 0) a3 a4 a5 a6 (kx.1 7)), (cxW ka (q 0) a1 (qs 0) a3 a4 a5 a6 (kx.1 7))), (true, (nwW cI qs sn), (nwW cI qs n)), (true, (nwW cI q n), (nwW cI q n))] ⟨rfl, (fun _ => rfl), ad_net, (fun h => Bool.noConfusion h), ad_net, (fun h => Bool.noConfusion h), trivial⟩ S (c_X1_copyFrom l D cI cN qs q _ sn n) (cwV 1 hts gX5_keep_X1_copyFrom rfl rfl rfl (by decide +kernel) ⟨Nat.le_of_ble_eq_true rfl, Nat.le_of_ble_eq_true rfl⟩) hK hP hD hS hA rfl rfl rfl hl.1 rfl (Nat.le_of_ble_eq_true rfl) dX5_keep_8 ⟨Nat.zero_le _, Nat.zero_le _⟩ (fun H locs hP hD hS => ?_)
  refine lv_aload_n hx hb dX5_keep_11 rfl (lv_at hl 0 rfl) ?_
  refine lv_iconst (v := (1 : Int32)) hx hb dX5_keep_12 kc_iconst_1 ?_
  refine gput (D := D) (ci := 5) (v := .int (1 : Int32)) (ty := .boolean) (C := RX5) (T := TX5) (N := 8) (wf := ((cxW ka (q 0) a1 (qs 0) a3 a4 a5 a6 (1 : Int32)) ++ ((nwW cI qs n) ++ (nwW cI q n)))) hx hb hts inX5 tyX5 tyX5_ok nmX5 hown hK.1 hP hD hS 0 rfl rfl 7 (by decide) (hts (.fieldLink RX5 46 "ClosExchange" "kept" "Z") (List.mem_of_getElem? (i := 3) rfl)) (fun _ h9 => h9) rfl (by decide +kernel) rfl rfl (Nat.le_of_ble_eq_true rfl) dX5_keep_13 rfl (fun H locs hP hD hS => ?_)
  refine lv_aload_n hx hb dX5_keep_16 rfl (lv_at hl 0 rfl) ?_
  refine va_get (D := D) (ci := 5) (v := .ref (q 0)) (C := RX5) (T := TX5) (N := 8) hx hb hts inX5 hown hK.1 hP 0 rfl rfl 0 (by decide) (hts (.fieldLink RX5 12 "ClosExchange" "network" "LClosExchange$Network;") (List.mem_of_getElem? (i := 2) rfl)) (fun _ h9 => h9) rfl dX5_keep_17 ?_
  obtain ⟨v1, hv1, hf⟩ := it_b hf
  refine cQi (As := []) (rest := []) (q0 := 14) (ci := 1) S (c_X1_countCalls l D cI cN q _ n v1 hv1) (cwV 0 hts gX5_keep_X1_countCalls rfl rfl rfl (by decide +kernel) ⟨Nat.le_of_ble_eq_true rfl, Nat.le_of_ble_eq_true rfl⟩) hK hP hS hA (P_sel [(false, (cxW ka (q 0) a1 (qs 0) a3 a4 a5 a6 (1 : Int32)), (cxW ka (q 0) a1 (qs 0) a3 a4 a5 a6 (1 : Int32))), (false, (nwW cI qs n), (nwW cI qs n)), (true, (nwW cI q n), (nwW cI q n))] hP) rfl rfl rfl hl.1 rfl (Nat.le_of_ble_eq_true rfl) dX5_keep_20 ⟨Nat.zero_le _, Nat.zero_le _⟩ (fun H locs hP hS => ?_)
  have e0 : v1 = r0 := congrArg (fun z => z.1) (Option.some.inj hf)
  have e1 : (setF kx 7 (1 : Int32)) = kx' := congrArg (fun z => z.2.1) (Option.some.inj hf)
  have e2 : n = sn' := congrArg (fun z => z.2.2) (Option.some.inj hf)
  subst e0
  subst e1
  subst e2
  exact hret H locs ls _ dX5_keep_23 rfl hP hD hS
set_option maxRecDepth 100000 in
theorem c_X5_keep (l : Launch) (D : va_G) (cI cN : ClassId) (ka a1 a3 a4 a5 a6 : Nat) (qs : Nat → Nat) (q : Nat → Nat) (sz : Nat) (kx : OS) (sn : OS) (n : OS) (r0 : Int32) (kx' : OS) (sn' : OS) (hf : fX5_keep kx sn n = some (r0, kx', sn')) : CtI l D cI cN yX5_keep wsX5_keep rm_X5_keep 0 0 [.ref ka] ((cxW ka (q 0) a1 (qs 0) a3 a4 a5 a6 (kx.1 7)) ++ ((nwW cI qs sn) ++ (nwW cI q n))) sz r0 ((cxW ka (q 0) a1 (qs 0) a3 a4 a5 a6 (kx'.1 7)) ++ ((nwW cI qs sn') ++ (nwW cI q n))) := by
  refine mW (cc := cX5_keep) (maxL := 1) (ty := .int) (by decide) rfl rfl (Nat.le_of_ble_eq_true rfl) ?_
  intro p e s m args below meth c Q A S hK hP hD hS hA hret ls hl
  exact w_X5_keep_0 S hK hA hret hf _ _ _ hP hD hS (lv_sub (show lv_has ls 1 [(0, .ref ka)] from hl) [0] rfl)
abbrev rm_X5_restore : Room := { frames := 5, cells := 0, slots := 0, locals := 122 }
theorem in_X5_restore_X5 : ∀ w ∈ u_ws RX5 TX5 8, w ∈ wsX5_restore := fun w h => List.mem_cons_of_mem _ (List.mem_append_left _ (List.mem_append_left _ (List.mem_append_left _ (List.mem_append_right _ h))))
set_option maxRecDepth 100000 in
set_option maxHeartbeats 4000000 in
theorem w_X5_restore_0 {p : Program} {l : Launch} {e : Env} {s : State} {m : MethodId} {args : Array Value} {below : List Frame} {meth : Method} {c : Code} {Q : State → Prop} {D : va_G} {cI cN : ClassId} {A : Nat → Prop} {ka a1 a3 a4 a6 : Nat} {h : Nat → Nat} {hq : Nat → Nat → Nat} {qs : Nat → Nat} {q : Nat → Nat} (S : CallFix p m c cX5_restore 1 s args wsX5_restore RX5) (hK : KN D cI cN s) (hA : ∀ q : Nat, s.heap.size ≤ q → A q) {kx : OS} {hi : HS} {sn : OS} {n : OS} {r0 : Int32} {hi' : HS} {n' : OS} (hret : ∀ (H : Heap) (locs : List Loc) (ls : Array Slot) (pc : Nat), decode cX5_restore pc = .ok (.ireturn, 1) → narrow .int (.int r0) = .int r0 → va_P D vwCl ((cxW ka (q 0) a1 (qs 0) a3 a4 (h 0) a6 (kx.1 7)) ++ ((hiW cI cN h hq hi') ++ ((nwW cI qs sn) ++ (nwW cI q n')))) H → va_D A ((cxW ka (q 0) a1 (qs 0) a3 a4 (h 0) a6 (kx.1 7)) ++ ((hiW cI cN h hq hi') ++ ((nwW cI qs sn) ++ (nwW cI q n')))) → va_S A s.heap H locs → W p l e (headSpec wsX5_restore rm_X5_restore).room s m args below meth c H locs 0 0 Q (F0 m pc ls [.int r0])) (hf : fX5_restore kx hi sn n = some (r0, hi', n')) (H : Heap) (locs : List Loc) (ls : Array Slot) (hP : va_P D vwCl ((cxW ka (q 0) a1 (qs 0) a3 a4 (h 0) a6 (kx.1 7)) ++ ((hiW cI cN h hq hi) ++ ((nwW cI qs sn) ++ (nwW cI q n)))) H) (hD : va_D A ((cxW ka (q 0) a1 (qs 0) a3 a4 (h 0) a6 (kx.1 7)) ++ ((hiW cI cN h hq hi) ++ ((nwW cI qs sn) ++ (nwW cI q n))))) (hS : va_S A s.heap H locs) (hl : lv_has ls 1 [(0, .ref ka)]) : W p l e (headSpec wsX5_restore rm_X5_restore).room s m args below meth c H locs 0 0 Q (F0 m 0 ls []) := by
  obtain ⟨hx, hb, hml, hown, hts⟩ := id S
  have inX5 := in_X5_restore_X5
  unfold fX5_restore at hf
  refine lv_aload_n hx hb dX5_restore_0 rfl (lv_at hl 0 rfl) ?_
  refine va_get (D := D) (ci := 5) (v := .int (kx.1 7)) (C := RX5) (T := TX5) (N := 8) hx hb hts inX5 hown hK.1 hP 0 rfl rfl 7 (by decide) (hts (.fieldLink RX5 46 "ClosExchange" "kept" "Z") (List.mem_of_getElem? (i := 1) rfl)) (fun _ h9 => h9) rfl dX5_restore_1 ?_
  refine lv_if_ne (tgt := 10) hx hb dX5_restore_4 (by decide) (fun c1 => ?_) (fun c1 => ?_)
  · have hf := it_f hf c1
    refine lv_aload_n hx hb dX5_restore_10 rfl (lv_at hl 0 rfl) ?_
    refine va_get (D := D) (ci := 5) (v := .ref (h 0)) (C := RX5) (T := TX5) (N := 8) hx hb hts inX5 hown hK.1 hP 0 rfl rfl 5 (by decide) (hts (.fieldLink RX5 35 "ClosExchange" "history" "LClosExchange$History;") (List.mem_of_getElem? (i := 2) rfl)) (fun _ h9 => h9) rfl dX5_restore_11 ?_
    refine lv_aload_n hx hb dX5_restore_14 rfl (lv_at hl 0 rfl) ?_
    refine va_get (D := D) (ci := 5) (v := .ref (q 0)) (C := RX5) (T := TX5) (N := 8) hx hb hts inX5 hown hK.1 hP 0 rfl rfl 0 (by decide) (hts (.fieldLink RX5 12 "ClosExchange" "network" "LClosExchange$Network;") (List.mem_of_getElem? (i := 3) rfl)) (fun _ h9 => h9) rfl dX5_restore_15 ?_
    obtain ⟨v2, hv2, hf⟩ := it_b hf
    refine cBv (As := [.ref (q 0)]) (rest := []) (q0 := 1) (ci := 0) [(false, (cxW ka (q 0) a1 (qs 0) a3 a4 (h 0) a6 (kx.1 7)), (cxW ka (q 0) a1 (qs 0) a3 a4 (h 0) a6 (kx.1 7))), (true, (hiW cI cN h hq hi), (hiW cI cN h hq v2)), (false, (nwW cI qs sn), (nwW cI qs sn)), (true, (nwW cI q n), (nwW cI q n))] ⟨rfl, (fun _ => rfl), ad_his, (fun h => Bool.noConfusion h), rfl, (fun _ => rfl), ad_net, (fun h => Bool.noConfusion h), trivial⟩ S (c_X0_push l D cI cN h hq q _ hi n v2 hv2) (cwV 1 hts gX5_restore_X0_push rfl rfl rfl (by decide +kernel) ⟨Nat.le_of_ble_eq_true rfl, Nat.le_of_ble_eq_true rfl⟩) hK hP hD hS hA rfl rfl rfl hl.1 rfl (Nat.le_of_ble_eq_true rfl) dX5_restore_18 ⟨Nat.zero_le _, Nat.zero_le _⟩ (fun H locs hP hD hS => ?_)
    refine lv_aload_n hx hb dX5_restore_21 rfl (lv_at hl 0 rfl) ?_
    refine va_get (D := D) (ci := 5) (v := .ref (q 0)) (C := RX5) (T := TX5) (N := 8) hx hb hts inX5 hown hK.1 hP 0 rfl rfl 0 (by decide) (hts (.fieldLink RX5 12 "ClosExchange" "network" "LClosExchange$Network;") (List.mem_of_getElem? (i := 3) rfl)) (fun _ h9 => h9) rfl dX5_restore_22 ?_
    refine lv_aload_n hx hb dX5_restore_25 rfl (lv_at hl 0 rfl) ?_
    refine va_get (D := D) (ci := 5) (v := .ref (qs 0)) (C := RX5) (T := TX5) (N := 8) hx hb hts inX5 hown hK.1 hP 0 rfl rfl 2 (by decide) (hts (.fieldLink RX5 19 "ClosExchange" "snapshot" "LClosExchange$Network;") (List.mem_of_getElem? (i := 4) rfl)) (fun _ h9 => h9) rfl dX5_restore_26 ?_
    refine cBv (As := [.ref (qs 0)]) (rest := []) (q0 := 68) (ci := 1) [(false, (cxW ka (q 0) a1 (qs 0) a3 a4 (h 0) a6 (kx.1 7)), (cxW ka (q 0) a1 (qs 0) a3 a4 (h 0) a6 (kx.1 7))), (false, (hiW cI cN h hq v2), (hiW cI cN h hq v2)), (true, (nwW cI qs sn), (nwW cI qs sn)), (true, (nwW cI q n), (nwW cI q sn))] ⟨rfl, (fun _ => rfl), rfl, (fun _ => rfl), ad_net, (fun h => Bool.noConfusion h), ad_net, (fun h => Bool.noConfusion h), trivial⟩ S (c_X1_copyFromR l D cI cN q qs _ n sn) (cwV 1 hts gX5_restore_X1_copyFrom rfl rfl rfl (by decide +kernel) ⟨Nat.le_of_ble_eq_true rfl, Nat.le_of_ble_eq_true rfl⟩) hK hP hD hS hA rfl rfl rfl hl.1 rfl (Nat.le_of_ble_eq_true rfl) dX5_restore_29 ⟨Nat.zero_le _, Nat.zero_le _⟩ (fun H locs hP hD hS => ?_)
    refine lv_aload_n hx hb dX5_restore_32 rfl (lv_at hl 0 rfl) ?_
    refine va_get (D := D) (ci := 5) (v := .ref (q 0)) (C := RX5) (T := TX5) (N := 8) hx hb hts inX5 hown hK.1 hP 0 rfl rfl 0 (by decide) (hts (.fieldLink RX5 12 "ClosExchange" "network" "LClosExchange$Network;") (List.mem_of_getElem? (i := 3) rfl)) (fun _ h9 => h9) rfl dX5_restore_33 ?_
    obtain ⟨v3, hv3, hf⟩ := it_b hf
    refine cQi (As := []) (rest := []) (q0 := 68) (ci := 1) S (c_X1_countCalls l D cI cN q _ sn v3 hv3) (cwV 0 hts gX5_restore_X1_countCalls rfl rfl rfl (by decide +kernel) ⟨Nat.le_of_ble_eq_true rfl, Nat.le_of_ble_eq_true rfl⟩) hK hP hS hA (P_sel [(false, (cxW ka (q 0) a1 (qs 0) a3 a4 (h 0) a6 (kx.1 7)), (cxW ka (q 0) a1 (qs 0) a3 a4 (h 0) a6 (kx.1 7))), (false, (hiW cI cN h hq v2), (hiW cI cN h hq v2)), (false, (nwW cI qs sn), (nwW cI qs sn)), (true, (nwW cI q sn), (nwW cI q sn))] hP) rfl rfl rfl hl.1 rfl (Nat.le_of_ble_eq_true rfl) dX5_restore_36 ⟨Nat.zero_le _, Nat.zero_le _⟩ (fun H locs hP hS => ?_)
    have e0 : v3 = r0 := congrArg (fun z => z.1) (Option.some.inj hf)
    have e1 : v2 = hi' := congrArg (fun z => z.2.1) (Option.some.inj hf)
    have e2 : sn = n' := congrArg (fun z => z.2.2) (Option.some.inj hf)
    subst e0
    subst e1
    subst e2
    exact hret H locs ls _ dX5_restore_39 rfl hP hD hS
  · have hf := it_t hf c1
    refine lv_bipush (v := (-6 : Int32)) hx hb dX5_restore_7 kc_bipush_m6 ?_
    have e0 : (-6 : Int32) = r0 := congrArg (fun z => z.1) (Option.some.inj hf)
    have e1 : hi = hi' := congrArg (fun z => z.2.1) (Option.some.inj hf)
    have e2 : n = n' := congrArg (fun z => z.2.2) (Option.some.inj hf)
    subst e0
    subst e1
    subst e2
    exact hret H locs ls _ dX5_restore_9 rfl hP hD hS
set_option maxRecDepth 100000 in
theorem c_X5_restore (l : Launch) (D : va_G) (cI cN : ClassId) (ka a1 a3 a4 a6 : Nat) (h : Nat → Nat) (hq : Nat → Nat → Nat) (qs : Nat → Nat) (q : Nat → Nat) (sz : Nat) (kx : OS) (hi : HS) (sn : OS) (n : OS) (r0 : Int32) (hi' : HS) (n' : OS) (hf : fX5_restore kx hi sn n = some (r0, hi', n')) : CtI l D cI cN yX5_restore wsX5_restore rm_X5_restore 0 0 [.ref ka] ((cxW ka (q 0) a1 (qs 0) a3 a4 (h 0) a6 (kx.1 7)) ++ ((hiW cI cN h hq hi) ++ ((nwW cI qs sn) ++ (nwW cI q n)))) sz r0 ((cxW ka (q 0) a1 (qs 0) a3 a4 (h 0) a6 (kx.1 7)) ++ ((hiW cI cN h hq hi') ++ ((nwW cI qs sn) ++ (nwW cI q n')))) := by
  refine mW (cc := cX5_restore) (maxL := 1) (ty := .int) (by decide) rfl rfl (Nat.le_of_ble_eq_true rfl) ?_
  intro p e s m args below meth c Q A S hK hP hD hS hA hret ls hl
  exact w_X5_restore_0 S hK hA hret hf _ _ _ hP hD hS (lv_sub (show lv_has ls 1 [(0, .ref ka)] from hl) [0] rfl)
abbrev rm_X5_callOfInlet : Room := { frames := 1, cells := 0, slots := 0, locals := 21 }
theorem in_X5_callOfInlet_X1 : ∀ w ∈ u_ws RX1 TX1 16, w ∈ wsX5_callOfInlet := fun w h => List.mem_cons_of_mem _ (List.mem_append_left _ (List.mem_append_right _ h))
theorem in_X5_callOfInlet_X5 : ∀ w ∈ u_ws RX5 TX5 8, w ∈ wsX5_callOfInlet := fun w h => List.mem_cons_of_mem _ (List.mem_append_left _ (List.mem_append_left _ (List.mem_append_right _ h)))
set_option maxRecDepth 100000 in
set_option maxHeartbeats 4000000 in
theorem w_X5_callOfInlet_0 {p : Program} {l : Launch} {e : Env} {s : State} {m : MethodId} {args : Array Value} {below : List Frame} {meth : Method} {c : Code} {Q : State → Prop} {D : va_G} {cI cN : ClassId} {ka a1 a2 a3 a4 a5 a6 : Nat} {q : Nat → Nat} (S : CallFix p m c cX5_callOfInlet 2 s args wsX5_callOfInlet RX5) (hK : KN D cI cN s) {kx : OS} {n : OS} {x1 : Int32} {r0 : Int32} (hret : ∀ (H : Heap) (locs : List Loc) (ls : Array Slot) (pc : Nat), decode cX5_callOfInlet pc = .ok (.ireturn, 1) → narrow .int (.int r0) = .int r0 → va_S (nwA s.heap.size) s.heap H locs → W p l e (headSpec wsX5_callOfInlet rm_X5_callOfInlet).room s m args below meth c H locs 0 0 Q (F0 m pc ls [.int r0])) (hf : fX5_callOfInlet kx n x1 = r0) (H : Heap) (locs : List Loc) (ls : Array Slot) (hP : va_P D vwCl ((cxW ka (q 0) a1 a2 a3 a4 a5 a6 (kx.1 7)) ++ (nwW cI q n)) H) (hS : va_S (nwA s.heap.size) s.heap H locs) (hl : lv_has ls 2 [(0, .ref ka), (1, .int x1)]) : W p l e (headSpec wsX5_callOfInlet rm_X5_callOfInlet).room s m args below meth c H locs 0 0 Q (F0 m 0 ls []) := by
  obtain ⟨hx, hb, hml, hown, hts⟩ := id S
  have inX1 := in_X5_callOfInlet_X1
  have inX5 := in_X5_callOfInlet_X5
  have hA : ∀ q : Nat, s.heap.size ≤ q → nwA s.heap.size q := fun _ h => h
  unfold fX5_callOfInlet at hf
  refine lv_aload_n hx hb dX5_callOfInlet_0 rfl (lv_at hl 0 rfl) ?_
  refine va_get (D := D) (ci := 5) (v := .ref (q 0)) (C := RX5) (T := TX5) (N := 8) hx hb hts inX5 hown hK.1 hP 0 rfl rfl 0 (by decide) (hts (.fieldLink RX5 12 "ClosExchange" "network" "LClosExchange$Network;") (List.mem_of_getElem? (i := 1) rfl)) (fun _ h9 => h9) rfl dX5_callOfInlet_1 ?_
  refine lv_iload_n hx hb dX5_callOfInlet_4 rfl (lv_at hl 1 rfl) ?_
  refine cQi (As := [.int x1]) (rest := []) (q0 := 1) (ci := 1) S (c_X1_isLine l D cI cN q _ n x1 (fX1_isLine n x1) rfl) (cwV 1 hts gX5_callOfInlet_X1_isLine rfl rfl rfl (by decide +kernel) ⟨Nat.le_of_ble_eq_true rfl, Nat.le_of_ble_eq_true rfl⟩) hK hP hS hA (P_sel [(false, (cxW ka (q 0) a1 a2 a3 a4 a5 a6 (kx.1 7)), (cxW ka (q 0) a1 a2 a3 a4 a5 a6 (kx.1 7))), (true, (nwW cI q n), (nwW cI q n))] hP) rfl rfl rfl hl.1 rfl (Nat.le_of_ble_eq_true rfl) dX5_callOfInlet_5 ⟨Nat.zero_le _, Nat.zero_le _⟩ (fun H locs hP hS => ?_)
  refine lv_if_eq (tgt := 25) hx hb dX5_callOfInlet_8 (by decide) (fun c1 => ?_) (fun c1 => ?_)
  · have hf := it_t hf c1
    refine lv_iconst (v := (-1 : Int32)) hx hb dX5_callOfInlet_25 kc_iconst_m1 ?_
    have e0 : (-1 : Int32) = r0 := hf
    subst e0
    exact hret H locs ls _ dX5_callOfInlet_26 rfl hS
  · have hf := it_f hf c1
    refine lv_aload_n hx hb dX5_callOfInlet_11 rfl (lv_at hl 0 rfl) ?_
    refine va_get (D := D) (ci := 5) (v := .ref (q 0)) (C := RX5) (T := TX5) (N := 8) hx hb hts inX5 hown hK.1 hP 0 rfl rfl 0 (by decide) (hts (.fieldLink RX5 12 "ClosExchange" "network" "LClosExchange$Network;") (List.mem_of_getElem? (i := 1) rfl)) (fun _ h9 => h9) rfl dX5_callOfInlet_12 ?_
    refine va_get (D := D) (ci := 1) (v := .ref (q 1)) (C := RX1) (T := TX1) (N := 16) hx hb hts inX1 hown hK.1 hP 1 rfl rfl 10 (by decide) (hts (.fieldLink RX5 127 "ClosExchange$Network" "numbers" "LClosExchange$Row;") (List.mem_of_getElem? (i := 2) rfl)) (fun _ h9 => h9) rfl dX5_callOfInlet_15 ?_
    refine lv_iload_n hx hb dX5_callOfInlet_18 rfl (lv_at hl 1 rfl) ?_
    refine cQi (As := [.int x1]) (rest := []) (q0 := 2) (ci := 4) S (c_X4_get l D cI cN (q 1) (q 7) 48 (Nat.le_of_ble_eq_true rfl) _ (n.2 0) x1) (cwV 1 hts gX5_callOfInlet_X4_get rfl rfl rfl (by decide +kernel) ⟨Nat.le_of_ble_eq_true rfl, Nat.le_of_ble_eq_true rfl⟩) hK hP hS hA (P_two (i0 := 2) (i1 := 8) hP rfl rfl) rfl rfl rfl hl.1 rfl (Nat.le_of_ble_eq_true rfl) dX5_callOfInlet_19 ⟨Nat.zero_le _, Nat.zero_le _⟩ (fun H locs hP hS => ?_)
    refine lv_goto (tgt := 26) hx hb dX5_callOfInlet_22 (by decide) ?_
    have e0 : (rget (n.2 0) 48 x1) = r0 := hf
    subst e0
    exact hret H locs ls _ dX5_callOfInlet_26 rfl hS
set_option maxRecDepth 100000 in
theorem c_X5_callOfInlet (l : Launch) (D : va_G) (cI cN : ClassId) (ka a1 a2 a3 a4 a5 a6 : Nat) (q : Nat → Nat) (sz : Nat) (kx : OS) (n : OS) (x1 : Int32) (r0 : Int32) (hf : fX5_callOfInlet kx n x1 = r0) : CtP l D cI cN yX5_callOfInlet wsX5_callOfInlet rm_X5_callOfInlet [.ref ka, .int x1] ((cxW ka (q 0) a1 a2 a3 a4 a5 a6 (kx.1 7)) ++ (nwW cI q n)) sz r0 := by
  refine mP (cc := cX5_callOfInlet) (maxL := 2) (ty := .int) (by decide) rfl rfl (Nat.le_of_ble_eq_true rfl) ?_
  intro p e s m args below meth c Q S hK hP hS hret ls hl
  exact w_X5_callOfInlet_0 S hK hret hf _ _ _ hP hS (lv_sub (show lv_has ls 2 [(0, .ref ka), (1, .int x1)] from hl) [0, 1] rfl)
abbrev rm_X5_callOfOutlet : Room := { frames := 1, cells := 0, slots := 0, locals := 21 }
theorem in_X5_callOfOutlet_X1 : ∀ w ∈ u_ws RX1 TX1 16, w ∈ wsX5_callOfOutlet := fun w h => List.mem_cons_of_mem _ (List.mem_append_left _ (List.mem_append_right _ h))
theorem in_X5_callOfOutlet_X5 : ∀ w ∈ u_ws RX5 TX5 8, w ∈ wsX5_callOfOutlet := fun w h => List.mem_cons_of_mem _ (List.mem_append_left _ (List.mem_append_left _ (List.mem_append_right _ h)))
set_option maxRecDepth 100000 in
set_option maxHeartbeats 4000000 in
theorem w_X5_callOfOutlet_0 {p : Program} {l : Launch} {e : Env} {s : State} {m : MethodId} {args : Array Value} {below : List Frame} {meth : Method} {c : Code} {Q : State → Prop} {D : va_G} {cI cN : ClassId} {ka a1 a2 a3 a4 a5 a6 : Nat} {q : Nat → Nat} (S : CallFix p m c cX5_callOfOutlet 2 s args wsX5_callOfOutlet RX5) (hK : KN D cI cN s) {kx : OS} {n : OS} {x1 : Int32} {r0 : Int32} (hret : ∀ (H : Heap) (locs : List Loc) (ls : Array Slot) (pc : Nat), decode cX5_callOfOutlet pc = .ok (.ireturn, 1) → narrow .int (.int r0) = .int r0 → va_S (nwA s.heap.size) s.heap H locs → W p l e (headSpec wsX5_callOfOutlet rm_X5_callOfOutlet).room s m args below meth c H locs 0 0 Q (F0 m pc ls [.int r0])) (hf : fX5_callOfOutlet kx n x1 = r0) (H : Heap) (locs : List Loc) (ls : Array Slot) (hP : va_P D vwCl ((cxW ka (q 0) a1 a2 a3 a4 a5 a6 (kx.1 7)) ++ (nwW cI q n)) H) (hS : va_S (nwA s.heap.size) s.heap H locs) (hl : lv_has ls 2 [(0, .ref ka), (1, .int x1)]) : W p l e (headSpec wsX5_callOfOutlet rm_X5_callOfOutlet).room s m args below meth c H locs 0 0 Q (F0 m 0 ls []) := by
  obtain ⟨hx, hb, hml, hown, hts⟩ := id S
  have inX1 := in_X5_callOfOutlet_X1
  have inX5 := in_X5_callOfOutlet_X5
  have hA : ∀ q : Nat, s.heap.size ≤ q → nwA s.heap.size q := fun _ h => h
  unfold fX5_callOfOutlet at hf
  refine lv_aload_n hx hb dX5_callOfOutlet_0 rfl (lv_at hl 0 rfl) ?_
  refine va_get (D := D) (ci := 5) (v := .ref (q 0)) (C := RX5) (T := TX5) (N := 8) hx hb hts inX5 hown hK.1 hP 0 rfl rfl 0 (by decide) (hts (.fieldLink RX5 12 "ClosExchange" "network" "LClosExchange$Network;") (List.mem_of_getElem? (i := 1) rfl)) (fun _ h9 => h9) rfl dX5_callOfOutlet_1 ?_
  refine lv_iload_n hx hb dX5_callOfOutlet_4 rfl (lv_at hl 1 rfl) ?_
  refine cQi (As := [.int x1]) (rest := []) (q0 := 1) (ci := 1) S (c_X1_isLine l D cI cN q _ n x1 (fX1_isLine n x1) rfl) (cwV 1 hts gX5_callOfOutlet_X1_isLine rfl rfl rfl (by decide +kernel) ⟨Nat.le_of_ble_eq_true rfl, Nat.le_of_ble_eq_true rfl⟩) hK hP hS hA (P_sel [(false, (cxW ka (q 0) a1 a2 a3 a4 a5 a6 (kx.1 7)), (cxW ka (q 0) a1 a2 a3 a4 a5 a6 (kx.1 7))), (true, (nwW cI q n), (nwW cI q n))] hP) rfl rfl rfl hl.1 rfl (Nat.le_of_ble_eq_true rfl) dX5_callOfOutlet_5 ⟨Nat.zero_le _, Nat.zero_le _⟩ (fun H locs hP hS => ?_)
  refine lv_if_ne (tgt := 13) hx hb dX5_callOfOutlet_8 (by decide) (fun c1 => ?_) (fun c1 => ?_)
  · have hf := it_f hf c1
    refine lv_aload_n hx hb dX5_callOfOutlet_13 rfl (lv_at hl 0 rfl) ?_
    refine va_get (D := D) (ci := 5) (v := .ref (q 0)) (C := RX5) (T := TX5) (N := 8) hx hb hts inX5 hown hK.1 hP 0 rfl rfl 0 (by decide) (hts (.fieldLink RX5 12 "ClosExchange" "network" "LClosExchange$Network;") (List.mem_of_getElem? (i := 1) rfl)) (fun _ h9 => h9) rfl dX5_callOfOutlet_14 ?_
    refine va_get (D := D) (ci := 1) (v := .ref (q 1)) (C := RX1) (T := TX1) (N := 16) hx hb hts inX1 hown hK.1 hP 1 rfl rfl 10 (by decide) (hts (.fieldLink RX5 127 "ClosExchange$Network" "numbers" "LClosExchange$Row;") (List.mem_of_getElem? (i := 2) rfl)) (fun _ h9 => h9) rfl dX5_callOfOutlet_17 ?_
    refine lv_aload_n hx hb dX5_callOfOutlet_20 rfl (lv_at hl 0 rfl) ?_
    refine va_get (D := D) (ci := 5) (v := .ref (q 0)) (C := RX5) (T := TX5) (N := 8) hx hb hts inX5 hown hK.1 hP 0 rfl rfl 0 (by decide) (hts (.fieldLink RX5 12 "ClosExchange" "network" "LClosExchange$Network;") (List.mem_of_getElem? (i := 1) rfl)) (fun _ h9 => h9) rfl dX5_callOfOutlet_21 ?_
    refine va_get (D := D) (ci := 1) (v := .ref (q 4)) (C := RX1) (T := TX1) (N := 16) hx hb hts inX1 hown hK.1 hP 1 rfl rfl 13 (by decide) (hts (.fieldLink RX5 136 "ClosExchange$Network" "inlets" "LClosExchange$Row;") (List.mem_of_getElem? (i := 3) rfl)) (fun _ h9 => h9) rfl dX5_callOfOutlet_24 ?_
    refine lv_iload_n hx hb dX5_callOfOutlet_27 rfl (lv_at hl 1 rfl) ?_
    refine cQi (As := [.int x1]) (rest := [.ref (q 1)]) (q0 := 5) (ci := 4) S (c_X4_get l D cI cN (q 4) (q 10) 48 (Nat.le_of_ble_eq_true rfl) _ (n.2 3) x1) (cwV 1 hts gX5_callOfOutlet_X4_get rfl rfl rfl (by decide +kernel) ⟨Nat.le_of_ble_eq_true rfl, Nat.le_of_ble_eq_true rfl⟩) hK hP hS hA (P_two (i0 := 5) (i1 := 11) hP rfl rfl) rfl rfl rfl hl.1 rfl (Nat.le_of_ble_eq_true rfl) dX5_callOfOutlet_28 ⟨Nat.zero_le _, Nat.zero_le _⟩ (fun H locs hP hS => ?_)
    refine cQi (As := [.int (rget (n.2 3) 48 x1)]) (rest := []) (q0 := 2) (ci := 4) S (c_X4_get l D cI cN (q 1) (q 7) 48 (Nat.le_of_ble_eq_true rfl) _ (n.2 0) (rget (n.2 3) 48 x1)) (cwV 1 hts gX5_callOfOutlet_X4_get rfl rfl rfl (by decide +kernel) ⟨Nat.le_of_ble_eq_true rfl, Nat.le_of_ble_eq_true rfl⟩) hK hP hS hA (P_two (i0 := 2) (i1 := 8) hP rfl rfl) rfl rfl rfl hl.1 rfl (Nat.le_of_ble_eq_true rfl) dX5_callOfOutlet_31 ⟨Nat.zero_le _, Nat.zero_le _⟩ (fun H locs hP hS => ?_)
    have e0 : (rget (n.2 0) 48 (rget (n.2 3) 48 x1)) = r0 := hf
    subst e0
    exact hret H locs ls _ dX5_callOfOutlet_34 rfl hS
  · have hf := it_t hf c1
    refine lv_iconst (v := (-1 : Int32)) hx hb dX5_callOfOutlet_11 kc_iconst_m1 ?_
    have e0 : (-1 : Int32) = r0 := hf
    subst e0
    exact hret H locs ls _ dX5_callOfOutlet_12 rfl hS
set_option maxRecDepth 100000 in
theorem c_X5_callOfOutlet (l : Launch) (D : va_G) (cI cN : ClassId) (ka a1 a2 a3 a4 a5 a6 : Nat) (q : Nat → Nat) (sz : Nat) (kx : OS) (n : OS) (x1 : Int32) (r0 : Int32) (hf : fX5_callOfOutlet kx n x1 = r0) : CtP l D cI cN yX5_callOfOutlet wsX5_callOfOutlet rm_X5_callOfOutlet [.ref ka, .int x1] ((cxW ka (q 0) a1 a2 a3 a4 a5 a6 (kx.1 7)) ++ (nwW cI q n)) sz r0 := by
  refine mP (cc := cX5_callOfOutlet) (maxL := 2) (ty := .int) (by decide) rfl rfl (Nat.le_of_ble_eq_true rfl) ?_
  intro p e s m args below meth c Q S hK hP hS hret ls hl
  exact w_X5_callOfOutlet_0 S hK hret hf _ _ _ hP hS (lv_sub (show lv_has ls 2 [(0, .ref ka), (1, .int x1)] from hl) [0, 1] rfl)
abbrev rm_X5_inletOf : Room := { frames := 2, cells := 0, slots := 0, locals := 43 }
theorem in_X5_inletOf_X5 : ∀ w ∈ u_ws RX5 TX5 8, w ∈ wsX5_inletOf := fun w h => List.mem_cons_of_mem _ (List.mem_append_left _ (List.mem_append_left _ (List.mem_append_right _ h)))
set_option maxRecDepth 100000 in
set_option maxHeartbeats 4000000 in
theorem w_X5_inletOf_0 {p : Program} {l : Launch} {e : Env} {s : State} {m : MethodId} {args : Array Value} {below : List Frame} {meth : Method} {c : Code} {Q : State → Prop} {D : va_G} {cI cN : ClassId} {ka a1 a2 a3 a4 a5 a6 : Nat} {q : Nat → Nat} (S : CallFix p m c cX5_inletOf 2 s args wsX5_inletOf RX5) (hK : KN D cI cN s) {kx : OS} {n : OS} {x1 : Int32} {r0 : Int32} (hret : ∀ (H : Heap) (locs : List Loc) (ls : Array Slot) (pc : Nat), decode cX5_inletOf pc = .ok (.ireturn, 1) → narrow .int (.int r0) = .int r0 → va_S (nwA s.heap.size) s.heap H locs → W p l e (headSpec wsX5_inletOf rm_X5_inletOf).room s m args below meth c H locs 0 0 Q (F0 m pc ls [.int r0])) (hf : fX5_inletOf kx n x1 = some r0) (H : Heap) (locs : List Loc) (ls : Array Slot) (hP : va_P D vwCl ((cxW ka (q 0) a1 a2 a3 a4 a5 a6 (kx.1 7)) ++ (nwW cI q n)) H) (hS : va_S (nwA s.heap.size) s.heap H locs) (hl : lv_has ls 2 [(0, .ref ka), (1, .int x1)]) : W p l e (headSpec wsX5_inletOf rm_X5_inletOf).room s m args below meth c H locs 0 0 Q (F0 m 0 ls []) := by
  obtain ⟨hx, hb, hml, hown, hts⟩ := id S
  have inX5 := in_X5_inletOf_X5
  have hA : ∀ q : Nat, s.heap.size ≤ q → nwA s.heap.size q := fun _ h => h
  unfold fX5_inletOf at hf
  refine lv_aload_n hx hb dX5_inletOf_0 rfl (lv_at hl 0 rfl) ?_
  refine va_get (D := D) (ci := 5) (v := .ref (q 0)) (C := RX5) (T := TX5) (N := 8) hx hb hts inX5 hown hK.1 hP 0 rfl rfl 0 (by decide) (hts (.fieldLink RX5 12 "ClosExchange" "network" "LClosExchange$Network;") (List.mem_of_getElem? (i := 1) rfl)) (fun _ h9 => h9) rfl dX5_inletOf_1 ?_
  refine lv_iload_n hx hb dX5_inletOf_4 rfl (lv_at hl 1 rfl) ?_
  obtain ⟨v1, hv1, hf⟩ := it_b hf
  refine cQi (As := [.int x1]) (rest := []) (q0 := 1) (ci := 1) S (c_X1_findInlet l D cI cN q _ n x1 v1 hv1) (cwV 1 hts gX5_inletOf_X1_findInlet rfl rfl rfl (by decide +kernel) ⟨Nat.le_of_ble_eq_true rfl, Nat.le_of_ble_eq_true rfl⟩) hK hP hS hA (P_sel [(false, (cxW ka (q 0) a1 a2 a3 a4 a5 a6 (kx.1 7)), (cxW ka (q 0) a1 a2 a3 a4 a5 a6 (kx.1 7))), (true, (nwW cI q n), (nwW cI q n))] hP) rfl rfl rfl hl.1 rfl (Nat.le_of_ble_eq_true rfl) dX5_inletOf_5 ⟨Nat.zero_le _, Nat.zero_le _⟩ (fun H locs hP hS => ?_)
  have e0 : v1 = r0 := (Option.some.inj hf)
  subst e0
  exact hret H locs ls _ dX5_inletOf_8 rfl hS
set_option maxRecDepth 100000 in
theorem c_X5_inletOf (l : Launch) (D : va_G) (cI cN : ClassId) (ka a1 a2 a3 a4 a5 a6 : Nat) (q : Nat → Nat) (sz : Nat) (kx : OS) (n : OS) (x1 : Int32) (r0 : Int32) (hf : fX5_inletOf kx n x1 = some r0) : CtP l D cI cN yX5_inletOf wsX5_inletOf rm_X5_inletOf [.ref ka, .int x1] ((cxW ka (q 0) a1 a2 a3 a4 a5 a6 (kx.1 7)) ++ (nwW cI q n)) sz r0 := by
  refine mP (cc := cX5_inletOf) (maxL := 2) (ty := .int) (by decide) rfl rfl (Nat.le_of_ble_eq_true rfl) ?_
  intro p e s m args below meth c Q S hK hP hS hret ls hl
  exact w_X5_inletOf_0 S hK hret hf _ _ _ hP hS (lv_sub (show lv_has ls 2 [(0, .ref ka), (1, .int x1)] from hl) [0, 1] rfl)
abbrev rm_X5_outletOf : Room := { frames := 2, cells := 0, slots := 0, locals := 43 }
theorem in_X5_outletOf_X1 : ∀ w ∈ u_ws RX1 TX1 16, w ∈ wsX5_outletOf := fun w h => List.mem_cons_of_mem _ (List.mem_append_left _ (List.mem_append_right _ h))
theorem in_X5_outletOf_X5 : ∀ w ∈ u_ws RX5 TX5 8, w ∈ wsX5_outletOf := fun w h => List.mem_cons_of_mem _ (List.mem_append_left _ (List.mem_append_left _ (List.mem_append_right _ h)))
set_option maxRecDepth 100000 in
set_option maxHeartbeats 4000000 in
theorem w_X5_outletOf_0 {p : Program} {l : Launch} {e : Env} {s : State} {m : MethodId} {args : Array Value} {below : List Frame} {meth : Method} {c : Code} {Q : State → Prop} {D : va_G} {cI cN : ClassId} {ka a1 a2 a3 a4 a5 a6 : Nat} {q : Nat → Nat} (S : CallFix p m c cX5_outletOf 3 s args wsX5_outletOf RX5) (hK : KN D cI cN s) {kx : OS} {n : OS} {x1 : Int32} {r0 : Int32} (hret : ∀ (H : Heap) (locs : List Loc) (ls : Array Slot) (pc : Nat), decode cX5_outletOf pc = .ok (.ireturn, 1) → narrow .int (.int r0) = .int r0 → va_S (nwA s.heap.size) s.heap H locs → W p l e (headSpec wsX5_outletOf rm_X5_outletOf).room s m args below meth c H locs 0 0 Q (F0 m pc ls [.int r0])) (hf : fX5_outletOf kx n x1 = some r0) (H : Heap) (locs : List Loc) (ls : Array Slot) (hP : va_P D vwCl ((cxW ka (q 0) a1 a2 a3 a4 a5 a6 (kx.1 7)) ++ (nwW cI q n)) H) (hS : va_S (nwA s.heap.size) s.heap H locs) (hl : lv_has ls 3 [(0, .ref ka), (1, .int x1)]) : W p l e (headSpec wsX5_outletOf rm_X5_outletOf).room s m args below meth c H locs 0 0 Q (F0 m 0 ls []) := by
  obtain ⟨hx, hb, hml, hown, hts⟩ := id S
  have inX1 := in_X5_outletOf_X1
  have inX5 := in_X5_outletOf_X5
  have hA : ∀ q : Nat, s.heap.size ≤ q → nwA s.heap.size q := fun _ h => h
  unfold fX5_outletOf at hf
  refine lv_aload_n hx hb dX5_outletOf_0 rfl (lv_at hl 0 rfl) ?_
  refine va_get (D := D) (ci := 5) (v := .ref (q 0)) (C := RX5) (T := TX5) (N := 8) hx hb hts inX5 hown hK.1 hP 0 rfl rfl 0 (by decide) (hts (.fieldLink RX5 12 "ClosExchange" "network" "LClosExchange$Network;") (List.mem_of_getElem? (i := 1) rfl)) (fun _ h9 => h9) rfl dX5_outletOf_1 ?_
  refine lv_iload_n hx hb dX5_outletOf_4 rfl (lv_at hl 1 rfl) ?_
  obtain ⟨v1, hv1, hf⟩ := it_b hf
  refine cQi (As := [.int x1]) (rest := []) (q0 := 1) (ci := 1) S (c_X1_findInlet l D cI cN q _ n x1 v1 hv1) (cwV 1 hts gX5_outletOf_X1_findInlet rfl rfl rfl (by decide +kernel) ⟨Nat.le_of_ble_eq_true rfl, Nat.le_of_ble_eq_true rfl⟩) hK hP hS hA (P_sel [(false, (cxW ka (q 0) a1 a2 a3 a4 a5 a6 (kx.1 7)), (cxW ka (q 0) a1 a2 a3 a4 a5 a6 (kx.1 7))), (true, (nwW cI q n), (nwW cI q n))] hP) rfl rfl rfl hl.1 rfl (Nat.le_of_ble_eq_true rfl) dX5_outletOf_5 ⟨Nat.zero_le _, Nat.zero_le _⟩ (fun H locs hP hS => ?_)
  refine lv_istore_n (lv' := [(2, .int v1), (0, .ref ka), (1, .int x1)]) hx hb dX5_outletOf_8 rfl hl (by decide) rfl (fun ls hl => ?_)
  refine lv_iload_n hx hb dX5_outletOf_9 rfl (lv_at hl 0 rfl) ?_
  refine lv_if_ge (tgt := 17) hx hb dX5_outletOf_10 (by decide) (fun c2 => ?_) (fun c2 => ?_)
  · have hf := it_t hf c2
    refine lv_aload_n hx hb dX5_outletOf_17 rfl (lv_at hl 1 rfl) ?_
    refine va_get (D := D) (ci := 5) (v := .ref (q 0)) (C := RX5) (T := TX5) (N := 8) hx hb hts inX5 hown hK.1 hP 0 rfl rfl 0 (by decide) (hts (.fieldLink RX5 12 "ClosExchange" "network" "LClosExchange$Network;") (List.mem_of_getElem? (i := 1) rfl)) (fun _ h9 => h9) rfl dX5_outletOf_18 ?_
    refine va_get (D := D) (ci := 1) (v := .ref (q 2)) (C := RX1) (T := TX1) (N := 16) hx hb hts inX1 hown hK.1 hP 1 rfl rfl 11 (by decide) (hts (.fieldLink RX5 142 "ClosExchange$Network" "outlets" "LClosExchange$Row;") (List.mem_of_getElem? (i := 2) rfl)) (fun _ h9 => h9) rfl dX5_outletOf_21 ?_
    refine lv_iload_n hx hb dX5_outletOf_24 rfl (lv_at hl 0 rfl) ?_
    refine cQi (As := [.int v1]) (rest := []) (q0 := 3) (ci := 4) S (c_X4_get l D cI cN (q 2) (q 8) 48 (Nat.le_of_ble_eq_true rfl) _ (n.2 1) v1) (cwV 1 hts gX5_outletOf_X4_get rfl rfl rfl (by decide +kernel) ⟨Nat.le_of_ble_eq_true rfl, Nat.le_of_ble_eq_true rfl⟩) hK hP hS hA (P_two (i0 := 3) (i1 := 9) hP rfl rfl) rfl rfl rfl hl.1 rfl (Nat.le_of_ble_eq_true rfl) dX5_outletOf_25 ⟨Nat.zero_le _, Nat.zero_le _⟩ (fun H locs hP hS => ?_)
    have e0 : (rget (n.2 1) 48 v1) = r0 := (Option.some.inj hf)
    subst e0
    exact hret H locs ls _ dX5_outletOf_28 rfl hS
  · have hf := it_f hf c2
    refine lv_iconst (v := (-1 : Int32)) hx hb dX5_outletOf_13 kc_iconst_m1 ?_
    refine lv_goto (tgt := 28) hx hb dX5_outletOf_14 (by decide) ?_
    have e0 : (-1 : Int32) = r0 := (Option.some.inj hf)
    subst e0
    exact hret H locs ls _ dX5_outletOf_28 rfl hS
set_option maxRecDepth 100000 in
theorem c_X5_outletOf (l : Launch) (D : va_G) (cI cN : ClassId) (ka a1 a2 a3 a4 a5 a6 : Nat) (q : Nat → Nat) (sz : Nat) (kx : OS) (n : OS) (x1 : Int32) (r0 : Int32) (hf : fX5_outletOf kx n x1 = some r0) : CtP l D cI cN yX5_outletOf wsX5_outletOf rm_X5_outletOf [.ref ka, .int x1] ((cxW ka (q 0) a1 a2 a3 a4 a5 a6 (kx.1 7)) ++ (nwW cI q n)) sz r0 := by
  refine mP (cc := cX5_outletOf) (maxL := 3) (ty := .int) (by decide) rfl rfl (Nat.le_of_ble_eq_true rfl) ?_
  intro p e s m args below meth c Q S hK hP hS hret ls hl
  exact w_X5_outletOf_0 S hK hret hf _ _ _ hP hS (lv_sub (show lv_has ls 3 [(0, .ref ka), (1, .int x1)] from hl) [0, 1] rfl)
abbrev rm_X5_middleOf : Room := { frames := 2, cells := 0, slots := 0, locals := 43 }
theorem in_X5_middleOf_X1 : ∀ w ∈ u_ws RX1 TX1 16, w ∈ wsX5_middleOf := fun w h => List.mem_cons_of_mem _ (List.mem_append_left _ (List.mem_append_right _ h))
theorem in_X5_middleOf_X5 : ∀ w ∈ u_ws RX5 TX5 8, w ∈ wsX5_middleOf := fun w h => List.mem_cons_of_mem _ (List.mem_append_left _ (List.mem_append_left _ (List.mem_append_right _ h)))
set_option maxRecDepth 100000 in
set_option maxHeartbeats 4000000 in
theorem w_X5_middleOf_0 {p : Program} {l : Launch} {e : Env} {s : State} {m : MethodId} {args : Array Value} {below : List Frame} {meth : Method} {c : Code} {Q : State → Prop} {D : va_G} {cI cN : ClassId} {ka a1 a2 a3 a4 a5 a6 : Nat} {q : Nat → Nat} (S : CallFix p m c cX5_middleOf 3 s args wsX5_middleOf RX5) (hK : KN D cI cN s) {kx : OS} {n : OS} {x1 : Int32} {r0 : Int32} (hret : ∀ (H : Heap) (locs : List Loc) (ls : Array Slot) (pc : Nat), decode cX5_middleOf pc = .ok (.ireturn, 1) → narrow .int (.int r0) = .int r0 → va_S (nwA s.heap.size) s.heap H locs → W p l e (headSpec wsX5_middleOf rm_X5_middleOf).room s m args below meth c H locs 0 0 Q (F0 m pc ls [.int r0])) (hf : fX5_middleOf kx n x1 = some r0) (H : Heap) (locs : List Loc) (ls : Array Slot) (hP : va_P D vwCl ((cxW ka (q 0) a1 a2 a3 a4 a5 a6 (kx.1 7)) ++ (nwW cI q n)) H) (hS : va_S (nwA s.heap.size) s.heap H locs) (hl : lv_has ls 3 [(0, .ref ka), (1, .int x1)]) : W p l e (headSpec wsX5_middleOf rm_X5_middleOf).room s m args below meth c H locs 0 0 Q (F0 m 0 ls []) := by
  obtain ⟨hx, hb, hml, hown, hts⟩ := id S
  have inX1 := in_X5_middleOf_X1
  have inX5 := in_X5_middleOf_X5
  have hA : ∀ q : Nat, s.heap.size ≤ q → nwA s.heap.size q := fun _ h => h
  unfold fX5_middleOf at hf
  refine lv_aload_n hx hb dX5_middleOf_0 rfl (lv_at hl 0 rfl) ?_
  refine va_get (D := D) (ci := 5) (v := .ref (q 0)) (C := RX5) (T := TX5) (N := 8) hx hb hts inX5 hown hK.1 hP 0 rfl rfl 0 (by decide) (hts (.fieldLink RX5 12 "ClosExchange" "network" "LClosExchange$Network;") (List.mem_of_getElem? (i := 1) rfl)) (fun _ h9 => h9) rfl dX5_middleOf_1 ?_
  refine lv_iload_n hx hb dX5_middleOf_4 rfl (lv_at hl 1 rfl) ?_
  obtain ⟨v1, hv1, hf⟩ := it_b hf
  refine cQi (As := [.int x1]) (rest := []) (q0 := 1) (ci := 1) S (c_X1_findInlet l D cI cN q _ n x1 v1 hv1) (cwV 1 hts gX5_middleOf_X1_findInlet rfl rfl rfl (by decide +kernel) ⟨Nat.le_of_ble_eq_true rfl, Nat.le_of_ble_eq_true rfl⟩) hK hP hS hA (P_sel [(false, (cxW ka (q 0) a1 a2 a3 a4 a5 a6 (kx.1 7)), (cxW ka (q 0) a1 a2 a3 a4 a5 a6 (kx.1 7))), (true, (nwW cI q n), (nwW cI q n))] hP) rfl rfl rfl hl.1 rfl (Nat.le_of_ble_eq_true rfl) dX5_middleOf_5 ⟨Nat.zero_le _, Nat.zero_le _⟩ (fun H locs hP hS => ?_)
  refine lv_istore_n (lv' := [(2, .int v1), (0, .ref ka), (1, .int x1)]) hx hb dX5_middleOf_8 rfl hl (by decide) rfl (fun ls hl => ?_)
  refine lv_iload_n hx hb dX5_middleOf_9 rfl (lv_at hl 0 rfl) ?_
  refine lv_if_ge (tgt := 17) hx hb dX5_middleOf_10 (by decide) (fun c2 => ?_) (fun c2 => ?_)
  · have hf := it_t hf c2
    refine lv_aload_n hx hb dX5_middleOf_17 rfl (lv_at hl 1 rfl) ?_
    refine va_get (D := D) (ci := 5) (v := .ref (q 0)) (C := RX5) (T := TX5) (N := 8) hx hb hts inX5 hown hK.1 hP 0 rfl rfl 0 (by decide) (hts (.fieldLink RX5 12 "ClosExchange" "network" "LClosExchange$Network;") (List.mem_of_getElem? (i := 1) rfl)) (fun _ h9 => h9) rfl dX5_middleOf_18 ?_
    refine va_get (D := D) (ci := 1) (v := .ref (q 3)) (C := RX1) (T := TX1) (N := 16) hx hb hts inX1 hown hK.1 hP 1 rfl rfl 12 (by decide) (hts (.fieldLink RX5 145 "ClosExchange$Network" "vias" "LClosExchange$Row;") (List.mem_of_getElem? (i := 2) rfl)) (fun _ h9 => h9) rfl dX5_middleOf_21 ?_
    refine lv_iload_n hx hb dX5_middleOf_24 rfl (lv_at hl 0 rfl) ?_
    refine cQi (As := [.int v1]) (rest := []) (q0 := 4) (ci := 4) S (c_X4_get l D cI cN (q 3) (q 9) 48 (Nat.le_of_ble_eq_true rfl) _ (n.2 2) v1) (cwV 1 hts gX5_middleOf_X4_get rfl rfl rfl (by decide +kernel) ⟨Nat.le_of_ble_eq_true rfl, Nat.le_of_ble_eq_true rfl⟩) hK hP hS hA (P_two (i0 := 4) (i1 := 10) hP rfl rfl) rfl rfl rfl hl.1 rfl (Nat.le_of_ble_eq_true rfl) dX5_middleOf_25 ⟨Nat.zero_le _, Nat.zero_le _⟩ (fun H locs hP hS => ?_)
    have e0 : (rget (n.2 2) 48 v1) = r0 := (Option.some.inj hf)
    subst e0
    exact hret H locs ls _ dX5_middleOf_28 rfl hS
  · have hf := it_f hf c2
    refine lv_iconst (v := (-1 : Int32)) hx hb dX5_middleOf_13 kc_iconst_m1 ?_
    refine lv_goto (tgt := 28) hx hb dX5_middleOf_14 (by decide) ?_
    have e0 : (-1 : Int32) = r0 := (Option.some.inj hf)
    subst e0
    exact hret H locs ls _ dX5_middleOf_28 rfl hS
set_option maxRecDepth 100000 in
theorem c_X5_middleOf (l : Launch) (D : va_G) (cI cN : ClassId) (ka a1 a2 a3 a4 a5 a6 : Nat) (q : Nat → Nat) (sz : Nat) (kx : OS) (n : OS) (x1 : Int32) (r0 : Int32) (hf : fX5_middleOf kx n x1 = some r0) : CtP l D cI cN yX5_middleOf wsX5_middleOf rm_X5_middleOf [.ref ka, .int x1] ((cxW ka (q 0) a1 a2 a3 a4 a5 a6 (kx.1 7)) ++ (nwW cI q n)) sz r0 := by
  refine mP (cc := cX5_middleOf) (maxL := 3) (ty := .int) (by decide) rfl rfl (Nat.le_of_ble_eq_true rfl) ?_
  intro p e s m args below meth c Q S hK hP hS hret ls hl
  exact w_X5_middleOf_0 S hK hret hf _ _ _ hP hS (lv_sub (show lv_has ls 3 [(0, .ref ka), (1, .int x1)] from hl) [0, 1] rfl)
abbrev rm_X5_onFirstLink : Room := { frames := 1, cells := 0, slots := 0, locals := 21 }
theorem in_X5_onFirstLink_X1 : ∀ w ∈ u_ws RX1 TX1 16, w ∈ wsX5_onFirstLink := fun w h => List.mem_cons_of_mem _ (List.mem_append_left _ (List.mem_append_right _ h))
theorem in_X5_onFirstLink_X5 : ∀ w ∈ u_ws RX5 TX5 8, w ∈ wsX5_onFirstLink := fun w h => List.mem_cons_of_mem _ (List.mem_append_left _ (List.mem_append_left _ (List.mem_append_right _ h)))
set_option maxRecDepth 100000 in
set_option maxHeartbeats 4000000 in
theorem w_X5_onFirstLink_0 {p : Program} {l : Launch} {e : Env} {s : State} {m : MethodId} {args : Array Value} {below : List Frame} {meth : Method} {c : Code} {Q : State → Prop} {D : va_G} {cI cN : ClassId} {ka a1 a2 a3 a4 a5 a6 : Nat} {q : Nat → Nat} (S : CallFix p m c cX5_onFirstLink 3 s args wsX5_onFirstLink RX5) (hK : KN D cI cN s) {kx : OS} {n : OS} {x1 : Int32} {x2 : Int32} {r0 : Int32} (hret : ∀ (H : Heap) (locs : List Loc) (ls : Array Slot) (pc : Nat), decode cX5_onFirstLink pc = .ok (.ireturn, 1) → narrow .int (.int r0) = .int r0 → va_S (nwA s.heap.size) s.heap H locs → W p l e (headSpec wsX5_onFirstLink rm_X5_onFirstLink).room s m args below meth c H locs 0 0 Q (F0 m pc ls [.int r0])) (hf : fX5_onFirstLink kx n x1 x2 = r0) (H : Heap) (locs : List Loc) (ls : Array Slot) (hP : va_P D vwCl ((cxW ka (q 0) a1 a2 a3 a4 a5 a6 (kx.1 7)) ++ (nwW cI q n)) H) (hS : va_S (nwA s.heap.size) s.heap H locs) (hl : lv_has ls 3 [(0, .ref ka), (1, .int x1), (2, .int x2)]) : W p l e (headSpec wsX5_onFirstLink rm_X5_onFirstLink).room s m args below meth c H locs 0 0 Q (F0 m 0 ls []) := by
  obtain ⟨hx, hb, hml, hown, hts⟩ := id S
  have inX1 := in_X5_onFirstLink_X1
  have inX5 := in_X5_onFirstLink_X5
  have hA : ∀ q : Nat, s.heap.size ≤ q → nwA s.heap.size q := fun _ h => h
  unfold fX5_onFirstLink at hf
  refine lv_aload_n hx hb dX5_onFirstLink_0 rfl (lv_at hl 0 rfl) ?_
  refine va_get (D := D) (ci := 5) (v := .ref (q 0)) (C := RX5) (T := TX5) (N := 8) hx hb hts inX5 hown hK.1 hP 0 rfl rfl 0 (by decide) (hts (.fieldLink RX5 12 "ClosExchange" "network" "LClosExchange$Network;") (List.mem_of_getElem? (i := 1) rfl)) (fun _ h9 => h9) rfl dX5_onFirstLink_1 ?_
  refine lv_iload_n hx hb dX5_onFirstLink_4 rfl (lv_at hl 1 rfl) ?_
  refine cQi (As := [.int x1]) (rest := []) (q0 := 1) (ci := 1) S (c_X1_isBoard l D cI cN q _ n x1 (fX1_isBoard n x1) rfl) (cwV 1 hts gX5_onFirstLink_X1_isBoard rfl rfl rfl (by decide +kernel) ⟨Nat.le_of_ble_eq_true rfl, Nat.le_of_ble_eq_true rfl⟩) hK hP hS hA (P_sel [(false, (cxW ka (q 0) a1 a2 a3 a4 a5 a6 (kx.1 7)), (cxW ka (q 0) a1 a2 a3 a4 a5 a6 (kx.1 7))), (true, (nwW cI q n), (nwW cI q n))] hP) rfl rfl rfl hl.1 rfl (Nat.le_of_ble_eq_true rfl) dX5_onFirstLink_5 ⟨Nat.zero_le _, Nat.zero_le _⟩ (fun H locs hP hS => ?_)
  refine lv_if_eq (tgt := 22) hx hb dX5_onFirstLink_8 (by decide) (fun c1 => ?_) (fun c1 => ?_)
  · have hf := it_t hf c1
    refine lv_iconst (v := (-1 : Int32)) hx hb dX5_onFirstLink_22 kc_iconst_m1 ?_
    have e0 : (-1 : Int32) = r0 := hf
    subst e0
    exact hret H locs ls _ dX5_onFirstLink_23 rfl hS
  · have hf := it_f hf c1
    refine lv_aload_n hx hb dX5_onFirstLink_11 rfl (lv_at hl 0 rfl) ?_
    refine va_get (D := D) (ci := 5) (v := .ref (q 0)) (C := RX5) (T := TX5) (N := 8) hx hb hts inX5 hown hK.1 hP 0 rfl rfl 0 (by decide) (hts (.fieldLink RX5 12 "ClosExchange" "network" "LClosExchange$Network;") (List.mem_of_getElem? (i := 1) rfl)) (fun _ h9 => h9) rfl dX5_onFirstLink_12 ?_
    refine lv_iload_n hx hb dX5_onFirstLink_15 rfl (lv_at hl 2 rfl) ?_
    refine cQi (As := [.int x2]) (rest := []) (q0 := 1) (ci := 1) S (c_X1_isMiddle l D cI cN q _ n x2 (fX1_isMiddle n x2) rfl) (cwV 1 hts gX5_onFirstLink_X1_isMiddle rfl rfl rfl (by decide +kernel) ⟨Nat.le_of_ble_eq_true rfl, Nat.le_of_ble_eq_true rfl⟩) hK hP hS hA (P_sel [(false, (cxW ka (q 0) a1 a2 a3 a4 a5 a6 (kx.1 7)), (cxW ka (q 0) a1 a2 a3 a4 a5 a6 (kx.1 7))), (true, (nwW cI q n), (nwW cI q n))] hP) rfl rfl rfl hl.1 rfl (Nat.le_of_ble_eq_true rfl) dX5_onFirstLink_16 ⟨Nat.zero_le _, Nat.zero_le _⟩ (fun H locs hP hS => ?_)
    refine lv_if_ne (tgt := 24) hx hb dX5_onFirstLink_19 (by decide) (fun c2 => ?_) (fun c2 => ?_)
    · have hf := it_f hf c2
      refine lv_aload_n hx hb dX5_onFirstLink_24 rfl (lv_at hl 0 rfl) ?_
      refine va_get (D := D) (ci := 5) (v := .ref (q 0)) (C := RX5) (T := TX5) (N := 8) hx hb hts inX5 hown hK.1 hP 0 rfl rfl 0 (by decide) (hts (.fieldLink RX5 12 "ClosExchange" "network" "LClosExchange$Network;") (List.mem_of_getElem? (i := 1) rfl)) (fun _ h9 => h9) rfl dX5_onFirstLink_25 ?_
      refine va_get (D := D) (ci := 1) (v := .ref (q 1)) (C := RX1) (T := TX1) (N := 16) hx hb hts inX1 hown hK.1 hP 1 rfl rfl 10 (by decide) (hts (.fieldLink RX5 127 "ClosExchange$Network" "numbers" "LClosExchange$Row;") (List.mem_of_getElem? (i := 2) rfl)) (fun _ h9 => h9) rfl dX5_onFirstLink_28 ?_
      refine lv_aload_n hx hb dX5_onFirstLink_31 rfl (lv_at hl 0 rfl) ?_
      refine va_get (D := D) (ci := 5) (v := .ref (q 0)) (C := RX5) (T := TX5) (N := 8) hx hb hts inX5 hown hK.1 hP 0 rfl rfl 0 (by decide) (hts (.fieldLink RX5 12 "ClosExchange" "network" "LClosExchange$Network;") (List.mem_of_getElem? (i := 1) rfl)) (fun _ h9 => h9) rfl dX5_onFirstLink_32 ?_
      refine va_get (D := D) (ci := 1) (v := .ref (q 5)) (C := RX1) (T := TX1) (N := 16) hx hb hts inX1 hown hK.1 hP 1 rfl rfl 14 (by decide) (hts (.fieldLink RX5 154 "ClosExchange$Network" "firstLinks" "LClosExchange$Row;") (List.mem_of_getElem? (i := 3) rfl)) (fun _ h9 => h9) rfl dX5_onFirstLink_35 ?_
      refine lv_iload_n hx hb dX5_onFirstLink_38 rfl (lv_at hl 1 rfl) ?_
      refine lv_iload_n hx hb dX5_onFirstLink_39 rfl (lv_at hl 2 rfl) ?_
      refine cSi (As := [.int x1, .int x2]) (rest := [.ref (q 5), .ref (q 1)]) S (c_X5_link l D cI cN _ x1 x2 (fX5_link x1 x2) rfl) (va_cwS 2 hts gX5_onFirstLink_X5_link rfl rfl rfl (by decide +kernel) ⟨Nat.le_of_ble_eq_true rfl, Nat.le_of_ble_eq_true rfl⟩) hK hP hS hA [] rfl rfl hl.1 rfl (Nat.le_of_ble_eq_true rfl) dX5_onFirstLink_40 ⟨Nat.zero_le _, Nat.zero_le _⟩ (fun H locs hP hS => ?_)
      refine cQi (As := [.int (fX5_link x1 x2)]) (rest := [.ref (q 1)]) (q0 := 6) (ci := 4) S (c_X4_get l D cI cN (q 5) (q 11) 64 (Nat.le_of_ble_eq_true rfl) _ (n.2 4) (fX5_link x1 x2)) (cwV 1 hts gX5_onFirstLink_X4_get rfl rfl rfl (by decide +kernel) ⟨Nat.le_of_ble_eq_true rfl, Nat.le_of_ble_eq_true rfl⟩) hK hP hS hA (P_two (i0 := 6) (i1 := 12) hP rfl rfl) rfl rfl rfl hl.1 rfl (Nat.le_of_ble_eq_true rfl) dX5_onFirstLink_43 ⟨Nat.zero_le _, Nat.zero_le _⟩ (fun H locs hP hS => ?_)
      refine cQi (As := [.int (rget (n.2 4) 64 (fX5_link x1 x2))]) (rest := []) (q0 := 2) (ci := 4) S (c_X4_get l D cI cN (q 1) (q 7) 48 (Nat.le_of_ble_eq_true rfl) _ (n.2 0) (rget (n.2 4) 64 (fX5_link x1 x2))) (cwV 1 hts gX5_onFirstLink_X4_get rfl rfl rfl (by decide +kernel) ⟨Nat.le_of_ble_eq_true rfl, Nat.le_of_ble_eq_true rfl⟩) hK hP hS hA (P_two (i0 := 2) (i1 := 8) hP rfl rfl) rfl rfl rfl hl.1 rfl (Nat.le_of_ble_eq_true rfl) dX5_onFirstLink_46 ⟨Nat.zero_le _, Nat.zero_le _⟩ (fun H locs hP hS => ?_)
      have e0 : (rget (n.2 0) 48 (rget (n.2 4) 64 (fX5_link x1 x2))) = r0 := hf
      subst e0
      exact hret H locs ls _ dX5_onFirstLink_49 rfl hS
    · have hf := it_t hf c2
      refine lv_iconst (v := (-1 : Int32)) hx hb dX5_onFirstLink_22 kc_iconst_m1 ?_
      have e0 : (-1 : Int32) = r0 := hf
      subst e0
      exact hret H locs ls _ dX5_onFirstLink_23 rfl hS
set_option maxRecDepth 100000 in
theorem c_X5_onFirstLink (l : Launch) (D : va_G) (cI cN : ClassId) (ka a1 a2 a3 a4 a5 a6 : Nat) (q : Nat → Nat) (sz : Nat) (kx : OS) (n : OS) (x1 : Int32) (x2 : Int32) (r0 : Int32) (hf : fX5_onFirstLink kx n x1 x2 = r0) : CtP l D cI cN yX5_onFirstLink wsX5_onFirstLink rm_X5_onFirstLink [.ref ka, .int x1, .int x2] ((cxW ka (q 0) a1 a2 a3 a4 a5 a6 (kx.1 7)) ++ (nwW cI q n)) sz r0 := by
  refine mP (cc := cX5_onFirstLink) (maxL := 3) (ty := .int) (by decide) rfl rfl (Nat.le_of_ble_eq_true rfl) ?_
  intro p e s m args below meth c Q S hK hP hS hret ls hl
  exact w_X5_onFirstLink_0 S hK hret hf _ _ _ hP hS (lv_sub (show lv_has ls 3 [(0, .ref ka), (1, .int x1), (2, .int x2)] from hl) [0, 1, 2] rfl)
abbrev rm_X5_onLastLink : Room := { frames := 1, cells := 0, slots := 0, locals := 21 }
theorem in_X5_onLastLink_X1 : ∀ w ∈ u_ws RX1 TX1 16, w ∈ wsX5_onLastLink := fun w h => List.mem_cons_of_mem _ (List.mem_append_left _ (List.mem_append_right _ h))
theorem in_X5_onLastLink_X5 : ∀ w ∈ u_ws RX5 TX5 8, w ∈ wsX5_onLastLink := fun w h => List.mem_cons_of_mem _ (List.mem_append_left _ (List.mem_append_left _ (List.mem_append_right _ h)))
set_option maxRecDepth 100000 in
set_option maxHeartbeats 4000000 in
theorem w_X5_onLastLink_0 {p : Program} {l : Launch} {e : Env} {s : State} {m : MethodId} {args : Array Value} {below : List Frame} {meth : Method} {c : Code} {Q : State → Prop} {D : va_G} {cI cN : ClassId} {ka a1 a2 a3 a4 a5 a6 : Nat} {q : Nat → Nat} (S : CallFix p m c cX5_onLastLink 3 s args wsX5_onLastLink RX5) (hK : KN D cI cN s) {kx : OS} {n : OS} {x1 : Int32} {x2 : Int32} {r0 : Int32} (hret : ∀ (H : Heap) (locs : List Loc) (ls : Array Slot) (pc : Nat), decode cX5_onLastLink pc = .ok (.ireturn, 1) → narrow .int (.int r0) = .int r0 → va_S (nwA s.heap.size) s.heap H locs → W p l e (headSpec wsX5_onLastLink rm_X5_onLastLink).room s m args below meth c H locs 0 0 Q (F0 m pc ls [.int r0])) (hf : fX5_onLastLink kx n x1 x2 = r0) (H : Heap) (locs : List Loc) (ls : Array Slot) (hP : va_P D vwCl ((cxW ka (q 0) a1 a2 a3 a4 a5 a6 (kx.1 7)) ++ (nwW cI q n)) H) (hS : va_S (nwA s.heap.size) s.heap H locs) (hl : lv_has ls 3 [(0, .ref ka), (1, .int x1), (2, .int x2)]) : W p l e (headSpec wsX5_onLastLink rm_X5_onLastLink).room s m args below meth c H locs 0 0 Q (F0 m 0 ls []) := by
  obtain ⟨hx, hb, hml, hown, hts⟩ := id S
  have inX1 := in_X5_onLastLink_X1
  have inX5 := in_X5_onLastLink_X5
  have hA : ∀ q : Nat, s.heap.size ≤ q → nwA s.heap.size q := fun _ h => h
  unfold fX5_onLastLink at hf
  refine lv_aload_n hx hb dX5_onLastLink_0 rfl (lv_at hl 0 rfl) ?_
  refine va_get (D := D) (ci := 5) (v := .ref (q 0)) (C := RX5) (T := TX5) (N := 8) hx hb hts inX5 hown hK.1 hP 0 rfl rfl 0 (by decide) (hts (.fieldLink RX5 12 "ClosExchange" "network" "LClosExchange$Network;") (List.mem_of_getElem? (i := 1) rfl)) (fun _ h9 => h9) rfl dX5_onLastLink_1 ?_
  refine lv_iload_n hx hb dX5_onLastLink_4 rfl (lv_at hl 1 rfl) ?_
  refine cQi (As := [.int x1]) (rest := []) (q0 := 1) (ci := 1) S (c_X1_isMiddle l D cI cN q _ n x1 (fX1_isMiddle n x1) rfl) (cwV 1 hts gX5_onLastLink_X1_isMiddle rfl rfl rfl (by decide +kernel) ⟨Nat.le_of_ble_eq_true rfl, Nat.le_of_ble_eq_true rfl⟩) hK hP hS hA (P_sel [(false, (cxW ka (q 0) a1 a2 a3 a4 a5 a6 (kx.1 7)), (cxW ka (q 0) a1 a2 a3 a4 a5 a6 (kx.1 7))), (true, (nwW cI q n), (nwW cI q n))] hP) rfl rfl rfl hl.1 rfl (Nat.le_of_ble_eq_true rfl) dX5_onLastLink_5 ⟨Nat.zero_le _, Nat.zero_le _⟩ (fun H locs hP hS => ?_)
  refine lv_if_eq (tgt := 22) hx hb dX5_onLastLink_8 (by decide) (fun c1 => ?_) (fun c1 => ?_)
  · have hf := it_t hf c1
    refine lv_iconst (v := (-1 : Int32)) hx hb dX5_onLastLink_22 kc_iconst_m1 ?_
    have e0 : (-1 : Int32) = r0 := hf
    subst e0
    exact hret H locs ls _ dX5_onLastLink_23 rfl hS
  · have hf := it_f hf c1
    refine lv_aload_n hx hb dX5_onLastLink_11 rfl (lv_at hl 0 rfl) ?_
    refine va_get (D := D) (ci := 5) (v := .ref (q 0)) (C := RX5) (T := TX5) (N := 8) hx hb hts inX5 hown hK.1 hP 0 rfl rfl 0 (by decide) (hts (.fieldLink RX5 12 "ClosExchange" "network" "LClosExchange$Network;") (List.mem_of_getElem? (i := 1) rfl)) (fun _ h9 => h9) rfl dX5_onLastLink_12 ?_
    refine lv_iload_n hx hb dX5_onLastLink_15 rfl (lv_at hl 2 rfl) ?_
    refine cQi (As := [.int x2]) (rest := []) (q0 := 1) (ci := 1) S (c_X1_isBoard l D cI cN q _ n x2 (fX1_isBoard n x2) rfl) (cwV 1 hts gX5_onLastLink_X1_isBoard rfl rfl rfl (by decide +kernel) ⟨Nat.le_of_ble_eq_true rfl, Nat.le_of_ble_eq_true rfl⟩) hK hP hS hA (P_sel [(false, (cxW ka (q 0) a1 a2 a3 a4 a5 a6 (kx.1 7)), (cxW ka (q 0) a1 a2 a3 a4 a5 a6 (kx.1 7))), (true, (nwW cI q n), (nwW cI q n))] hP) rfl rfl rfl hl.1 rfl (Nat.le_of_ble_eq_true rfl) dX5_onLastLink_16 ⟨Nat.zero_le _, Nat.zero_le _⟩ (fun H locs hP hS => ?_)
    refine lv_if_ne (tgt := 24) hx hb dX5_onLastLink_19 (by decide) (fun c2 => ?_) (fun c2 => ?_)
    · have hf := it_f hf c2
      refine lv_aload_n hx hb dX5_onLastLink_24 rfl (lv_at hl 0 rfl) ?_
      refine va_get (D := D) (ci := 5) (v := .ref (q 0)) (C := RX5) (T := TX5) (N := 8) hx hb hts inX5 hown hK.1 hP 0 rfl rfl 0 (by decide) (hts (.fieldLink RX5 12 "ClosExchange" "network" "LClosExchange$Network;") (List.mem_of_getElem? (i := 1) rfl)) (fun _ h9 => h9) rfl dX5_onLastLink_25 ?_
      refine va_get (D := D) (ci := 1) (v := .ref (q 1)) (C := RX1) (T := TX1) (N := 16) hx hb hts inX1 hown hK.1 hP 1 rfl rfl 10 (by decide) (hts (.fieldLink RX5 127 "ClosExchange$Network" "numbers" "LClosExchange$Row;") (List.mem_of_getElem? (i := 2) rfl)) (fun _ h9 => h9) rfl dX5_onLastLink_28 ?_
      refine lv_aload_n hx hb dX5_onLastLink_31 rfl (lv_at hl 0 rfl) ?_
      refine va_get (D := D) (ci := 5) (v := .ref (q 0)) (C := RX5) (T := TX5) (N := 8) hx hb hts inX5 hown hK.1 hP 0 rfl rfl 0 (by decide) (hts (.fieldLink RX5 12 "ClosExchange" "network" "LClosExchange$Network;") (List.mem_of_getElem? (i := 1) rfl)) (fun _ h9 => h9) rfl dX5_onLastLink_32 ?_
      refine va_get (D := D) (ci := 1) (v := .ref (q 6)) (C := RX1) (T := TX1) (N := 16) hx hb hts inX1 hown hK.1 hP 1 rfl rfl 15 (by decide) (hts (.fieldLink RX5 161 "ClosExchange$Network" "lastLinks" "LClosExchange$Row;") (List.mem_of_getElem? (i := 3) rfl)) (fun _ h9 => h9) rfl dX5_onLastLink_35 ?_
      refine lv_iload_n hx hb dX5_onLastLink_38 rfl (lv_at hl 2 rfl) ?_
      refine lv_iload_n hx hb dX5_onLastLink_39 rfl (lv_at hl 1 rfl) ?_
      refine cSi (As := [.int x2, .int x1]) (rest := [.ref (q 6), .ref (q 1)]) S (c_X5_link l D cI cN _ x2 x1 (fX5_link x2 x1) rfl) (va_cwS 2 hts gX5_onLastLink_X5_link rfl rfl rfl (by decide +kernel) ⟨Nat.le_of_ble_eq_true rfl, Nat.le_of_ble_eq_true rfl⟩) hK hP hS hA [] rfl rfl hl.1 rfl (Nat.le_of_ble_eq_true rfl) dX5_onLastLink_40 ⟨Nat.zero_le _, Nat.zero_le _⟩ (fun H locs hP hS => ?_)
      refine cQi (As := [.int (fX5_link x2 x1)]) (rest := [.ref (q 1)]) (q0 := 7) (ci := 4) S (c_X4_get l D cI cN (q 6) (q 12) 64 (Nat.le_of_ble_eq_true rfl) _ (n.2 5) (fX5_link x2 x1)) (cwV 1 hts gX5_onLastLink_X4_get rfl rfl rfl (by decide +kernel) ⟨Nat.le_of_ble_eq_true rfl, Nat.le_of_ble_eq_true rfl⟩) hK hP hS hA (P_two (i0 := 7) (i1 := 13) hP rfl rfl) rfl rfl rfl hl.1 rfl (Nat.le_of_ble_eq_true rfl) dX5_onLastLink_43 ⟨Nat.zero_le _, Nat.zero_le _⟩ (fun H locs hP hS => ?_)
      refine cQi (As := [.int (rget (n.2 5) 64 (fX5_link x2 x1))]) (rest := []) (q0 := 2) (ci := 4) S (c_X4_get l D cI cN (q 1) (q 7) 48 (Nat.le_of_ble_eq_true rfl) _ (n.2 0) (rget (n.2 5) 64 (fX5_link x2 x1))) (cwV 1 hts gX5_onLastLink_X4_get rfl rfl rfl (by decide +kernel) ⟨Nat.le_of_ble_eq_true rfl, Nat.le_of_ble_eq_true rfl⟩) hK hP hS hA (P_two (i0 := 2) (i1 := 8) hP rfl rfl) rfl rfl rfl hl.1 rfl (Nat.le_of_ble_eq_true rfl) dX5_onLastLink_46 ⟨Nat.zero_le _, Nat.zero_le _⟩ (fun H locs hP hS => ?_)
      have e0 : (rget (n.2 0) 48 (rget (n.2 5) 64 (fX5_link x2 x1))) = r0 := hf
      subst e0
      exact hret H locs ls _ dX5_onLastLink_49 rfl hS
    · have hf := it_t hf c2
      refine lv_iconst (v := (-1 : Int32)) hx hb dX5_onLastLink_22 kc_iconst_m1 ?_
      have e0 : (-1 : Int32) = r0 := hf
      subst e0
      exact hret H locs ls _ dX5_onLastLink_23 rfl hS
set_option maxRecDepth 100000 in
theorem c_X5_onLastLink (l : Launch) (D : va_G) (cI cN : ClassId) (ka a1 a2 a3 a4 a5 a6 : Nat) (q : Nat → Nat) (sz : Nat) (kx : OS) (n : OS) (x1 : Int32) (x2 : Int32) (r0 : Int32) (hf : fX5_onLastLink kx n x1 x2 = r0) : CtP l D cI cN yX5_onLastLink wsX5_onLastLink rm_X5_onLastLink [.ref ka, .int x1, .int x2] ((cxW ka (q 0) a1 a2 a3 a4 a5 a6 (kx.1 7)) ++ (nwW cI q n)) sz r0 := by
  refine mP (cc := cX5_onLastLink) (maxL := 3) (ty := .int) (by decide) rfl rfl (Nat.le_of_ble_eq_true rfl) ?_
  intro p e s m args below meth c Q S hK hP hS hret ls hl
  exact w_X5_onLastLink_0 S hK hret hf _ _ _ hP hS (lv_sub (show lv_has ls 3 [(0, .ref ka), (1, .int x1), (2, .int x2)] from hl) [0, 1, 2] rfl)
abbrev rm_X5_load : Room := { frames := 2, cells := 0, slots := 0, locals := 44 }
theorem in_X5_load_X5 : ∀ w ∈ u_ws RX5 TX5 8, w ∈ wsX5_load := fun w h => List.mem_cons_of_mem _ (List.mem_append_left _ (List.mem_append_left _ (List.mem_append_right _ h)))
set_option maxRecDepth 100000 in
set_option maxHeartbeats 4000000 in
theorem w_X5_load_0 {p : Program} {l : Launch} {e : Env} {s : State} {m : MethodId} {args : Array Value} {below : List Frame} {meth : Method} {c : Code} {Q : State → Prop} {D : va_G} {cI cN : ClassId} {ka a1 a2 a3 a4 a5 a6 : Nat} {q : Nat → Nat} (S : CallFix p m c cX5_load 2 s args wsX5_load RX5) (hK : KN D cI cN s) {kx : OS} {n : OS} {x1 : Int32} {r0 : Int32} (hret : ∀ (H : Heap) (locs : List Loc) (ls : Array Slot) (pc : Nat), decode cX5_load pc = .ok (.ireturn, 1) → narrow .int (.int r0) = .int r0 → va_S (nwA s.heap.size) s.heap H locs → W p l e (headSpec wsX5_load rm_X5_load).room s m args below meth c H locs 0 0 Q (F0 m pc ls [.int r0])) (hf : fX5_load kx n x1 = some r0) (H : Heap) (locs : List Loc) (ls : Array Slot) (hP : va_P D vwCl ((cxW ka (q 0) a1 a2 a3 a4 a5 a6 (kx.1 7)) ++ (nwW cI q n)) H) (hS : va_S (nwA s.heap.size) s.heap H locs) (hl : lv_has ls 2 [(0, .ref ka), (1, .int x1)]) : W p l e (headSpec wsX5_load rm_X5_load).room s m args below meth c H locs 0 0 Q (F0 m 0 ls []) := by
  obtain ⟨hx, hb, hml, hown, hts⟩ := id S
  have inX5 := in_X5_load_X5
  have hA : ∀ q : Nat, s.heap.size ≤ q → nwA s.heap.size q := fun _ h => h
  unfold fX5_load at hf
  refine lv_aload_n hx hb dX5_load_0 rfl (lv_at hl 0 rfl) ?_
  refine va_get (D := D) (ci := 5) (v := .ref (q 0)) (C := RX5) (T := TX5) (N := 8) hx hb hts inX5 hown hK.1 hP 0 rfl rfl 0 (by decide) (hts (.fieldLink RX5 12 "ClosExchange" "network" "LClosExchange$Network;") (List.mem_of_getElem? (i := 1) rfl)) (fun _ h9 => h9) rfl dX5_load_1 ?_
  refine lv_iload_n hx hb dX5_load_4 rfl (lv_at hl 1 rfl) ?_
  refine cQi (As := [.int x1]) (rest := []) (q0 := 1) (ci := 1) S (c_X1_isMiddle l D cI cN q _ n x1 (fX1_isMiddle n x1) rfl) (cwV 1 hts gX5_load_X1_isMiddle rfl rfl rfl (by decide +kernel) ⟨Nat.le_of_ble_eq_true rfl, Nat.le_of_ble_eq_true rfl⟩) hK hP hS hA (P_sel [(false, (cxW ka (q 0) a1 a2 a3 a4 a5 a6 (kx.1 7)), (cxW ka (q 0) a1 a2 a3 a4 a5 a6 (kx.1 7))), (true, (nwW cI q n), (nwW cI q n))] hP) rfl rfl rfl hl.1 rfl (Nat.le_of_ble_eq_true rfl) dX5_load_5 ⟨Nat.zero_le _, Nat.zero_le _⟩ (fun H locs hP hS => ?_)
  refine lv_if_eq (tgt := 22) hx hb dX5_load_8 (by decide) (fun c1 => ?_) (fun c1 => ?_)
  · have hf := it_t hf c1
    refine lv_iconst (v := (-1 : Int32)) hx hb dX5_load_22 kc_iconst_m1 ?_
    have e0 : (-1 : Int32) = r0 := (Option.some.inj hf)
    subst e0
    exact hret H locs ls _ dX5_load_23 rfl hS
  · have hf := it_f hf c1
    refine lv_aload_n hx hb dX5_load_11 rfl (lv_at hl 0 rfl) ?_
    refine va_get (D := D) (ci := 5) (v := .ref (q 0)) (C := RX5) (T := TX5) (N := 8) hx hb hts inX5 hown hK.1 hP 0 rfl rfl 0 (by decide) (hts (.fieldLink RX5 12 "ClosExchange" "network" "LClosExchange$Network;") (List.mem_of_getElem? (i := 1) rfl)) (fun _ h9 => h9) rfl dX5_load_12 ?_
    refine lv_iload_n hx hb dX5_load_15 rfl (lv_at hl 1 rfl) ?_
    obtain ⟨v2, hv2, hf⟩ := it_b hf
    refine cQi (As := [.int x1]) (rest := []) (q0 := 1) (ci := 1) S (c_X1_loadOf l D cI cN q _ n x1 v2 hv2) (cwV 1 hts gX5_load_X1_loadOf rfl rfl rfl (by decide +kernel) ⟨Nat.le_of_ble_eq_true rfl, Nat.le_of_ble_eq_true rfl⟩) hK hP hS hA (P_sel [(false, (cxW ka (q 0) a1 a2 a3 a4 a5 a6 (kx.1 7)), (cxW ka (q 0) a1 a2 a3 a4 a5 a6 (kx.1 7))), (true, (nwW cI q n), (nwW cI q n))] hP) rfl rfl rfl hl.1 rfl (Nat.le_of_ble_eq_true rfl) dX5_load_16 ⟨Nat.zero_le _, Nat.zero_le _⟩ (fun H locs hP hS => ?_)
    refine lv_goto (tgt := 23) hx hb dX5_load_19 (by decide) ?_
    have e0 : v2 = r0 := (Option.some.inj hf)
    subst e0
    exact hret H locs ls _ dX5_load_23 rfl hS
set_option maxRecDepth 100000 in
theorem c_X5_load (l : Launch) (D : va_G) (cI cN : ClassId) (ka a1 a2 a3 a4 a5 a6 : Nat) (q : Nat → Nat) (sz : Nat) (kx : OS) (n : OS) (x1 : Int32) (r0 : Int32) (hf : fX5_load kx n x1 = some r0) : CtP l D cI cN yX5_load wsX5_load rm_X5_load [.ref ka, .int x1] ((cxW ka (q 0) a1 a2 a3 a4 a5 a6 (kx.1 7)) ++ (nwW cI q n)) sz r0 := by
  refine mP (cc := cX5_load) (maxL := 2) (ty := .int) (by decide) rfl rfl (Nat.le_of_ble_eq_true rfl) ?_
  intro p e s m args below meth c Q S hK hP hS hret ls hl
  exact w_X5_load_0 S hK hret hf _ _ _ hP hS (lv_sub (show lv_has ls 2 [(0, .ref ka), (1, .int x1)] from hl) [0, 1] rfl)
abbrev rm_X5_freeForFirst : Room := { frames := 2, cells := 0, slots := 0, locals := 45 }
theorem in_X5_freeForFirst_X1 : ∀ w ∈ u_ws RX1 TX1 16, w ∈ wsX5_freeForFirst := fun w h => List.mem_cons_of_mem _ (List.mem_append_left _ (List.mem_append_right _ h))
theorem in_X5_freeForFirst_X5 : ∀ w ∈ u_ws RX5 TX5 8, w ∈ wsX5_freeForFirst := fun w h => List.mem_cons_of_mem _ (List.mem_append_left _ (List.mem_append_left _ (List.mem_append_right _ h)))
set_option maxRecDepth 100000 in
set_option maxHeartbeats 4000000 in
theorem w_X5_freeForFirst_0 {p : Program} {l : Launch} {e : Env} {s : State} {m : MethodId} {args : Array Value} {below : List Frame} {meth : Method} {c : Code} {Q : State → Prop} {D : va_G} {cI cN : ClassId} {ka a1 a2 a3 a4 a5 a6 : Nat} {q : Nat → Nat} (S : CallFix p m c cX5_freeForFirst 2 s args wsX5_freeForFirst RX5) (hK : KN D cI cN s) {kx : OS} {n : OS} {x1 : Int32} {r0 : Int32} (hret : ∀ (H : Heap) (locs : List Loc) (ls : Array Slot) (pc : Nat), decode cX5_freeForFirst pc = .ok (.ireturn, 1) → narrow .int (.int r0) = .int r0 → va_S (nwA s.heap.size) s.heap H locs → W p l e (headSpec wsX5_freeForFirst rm_X5_freeForFirst).room s m args below meth c H locs 0 0 Q (F0 m pc ls [.int r0])) (hf : fX5_freeForFirst kx n x1 = some r0) (H : Heap) (locs : List Loc) (ls : Array Slot) (hP : va_P D vwCl ((cxW ka (q 0) a1 a2 a3 a4 a5 a6 (kx.1 7)) ++ (nwW cI q n)) H) (hS : va_S (nwA s.heap.size) s.heap H locs) (hl : lv_has ls 2 [(0, .ref ka), (1, .int x1)]) : W p l e (headSpec wsX5_freeForFirst rm_X5_freeForFirst).room s m args below meth c H locs 0 0 Q (F0 m 0 ls []) := by
  obtain ⟨hx, hb, hml, hown, hts⟩ := id S
  have inX1 := in_X5_freeForFirst_X1
  have inX5 := in_X5_freeForFirst_X5
  have hA : ∀ q : Nat, s.heap.size ≤ q → nwA s.heap.size q := fun _ h => h
  unfold fX5_freeForFirst at hf
  refine lv_aload_n hx hb dX5_freeForFirst_0 rfl (lv_at hl 0 rfl) ?_
  refine va_get (D := D) (ci := 5) (v := .ref (q 0)) (C := RX5) (T := TX5) (N := 8) hx hb hts inX5 hown hK.1 hP 0 rfl rfl 0 (by decide) (hts (.fieldLink RX5 12 "ClosExchange" "network" "LClosExchange$Network;") (List.mem_of_getElem? (i := 1) rfl)) (fun _ h9 => h9) rfl dX5_freeForFirst_1 ?_
  refine lv_iload_n hx hb dX5_freeForFirst_4 rfl (lv_at hl 1 rfl) ?_
  refine cQi (As := [.int x1]) (rest := []) (q0 := 1) (ci := 1) S (c_X1_isBoard l D cI cN q _ n x1 (fX1_isBoard n x1) rfl) (cwV 1 hts gX5_freeForFirst_X1_isBoard rfl rfl rfl (by decide +kernel) ⟨Nat.le_of_ble_eq_true rfl, Nat.le_of_ble_eq_true rfl⟩) hK hP hS hA (P_sel [(false, (cxW ka (q 0) a1 a2 a3 a4 a5 a6 (kx.1 7)), (cxW ka (q 0) a1 a2 a3 a4 a5 a6 (kx.1 7))), (true, (nwW cI q n), (nwW cI q n))] hP) rfl rfl rfl hl.1 rfl (Nat.le_of_ble_eq_true rfl) dX5_freeForFirst_5 ⟨Nat.zero_le _, Nat.zero_le _⟩ (fun H locs hP hS => ?_)
  refine lv_if_eq (tgt := 29) hx hb dX5_freeForFirst_8 (by decide) (fun c1 => ?_) (fun c1 => ?_)
  · have hf := it_t hf c1
    refine lv_iconst (v := (-1 : Int32)) hx hb dX5_freeForFirst_29 kc_iconst_m1 ?_
    have e0 : (-1 : Int32) = r0 := (Option.some.inj hf)
    subst e0
    exact hret H locs ls _ dX5_freeForFirst_30 rfl hS
  · have hf := it_f hf c1
    refine lv_aload_n hx hb dX5_freeForFirst_11 rfl (lv_at hl 0 rfl) ?_
    refine va_get (D := D) (ci := 5) (v := .ref (q 0)) (C := RX5) (T := TX5) (N := 8) hx hb hts inX5 hown hK.1 hP 0 rfl rfl 0 (by decide) (hts (.fieldLink RX5 12 "ClosExchange" "network" "LClosExchange$Network;") (List.mem_of_getElem? (i := 1) rfl)) (fun _ h9 => h9) rfl dX5_freeForFirst_12 ?_
    refine lv_aload_n hx hb dX5_freeForFirst_15 rfl (lv_at hl 0 rfl) ?_
    refine va_get (D := D) (ci := 5) (v := .ref (q 0)) (C := RX5) (T := TX5) (N := 8) hx hb hts inX5 hown hK.1 hP 0 rfl rfl 0 (by decide) (hts (.fieldLink RX5 12 "ClosExchange" "network" "LClosExchange$Network;") (List.mem_of_getElem? (i := 1) rfl)) (fun _ h9 => h9) rfl dX5_freeForFirst_16 ?_
    refine va_get (D := D) (ci := 1) (v := .ref (q 5)) (C := RX1) (T := TX1) (N := 16) hx hb hts inX1 hown hK.1 hP 1 rfl rfl 14 (by decide) (hts (.fieldLink RX5 154 "ClosExchange$Network" "firstLinks" "LClosExchange$Row;") (List.mem_of_getElem? (i := 2) rfl)) (fun _ h9 => h9) rfl dX5_freeForFirst_19 ?_
    refine lv_iload_n hx hb dX5_freeForFirst_22 rfl (lv_at hl 1 rfl) ?_
    obtain ⟨v2, hv2, hf⟩ := it_b hf
    refine cQi (As := [.ref (q 5), .int x1]) (rest := []) (q0 := 1) (ci := 1) S (c_X1_freeOnLinks4 l D cI cN q _ n x1 v2 hv2) (cwV 2 hts gX5_freeForFirst_X1_freeOnLinks rfl rfl rfl (by decide +kernel) ⟨Nat.le_of_ble_eq_true rfl, Nat.le_of_ble_eq_true rfl⟩) hK hP hS hA (P_sel [(false, (cxW ka (q 0) a1 a2 a3 a4 a5 a6 (kx.1 7)), (cxW ka (q 0) a1 a2 a3 a4 a5 a6 (kx.1 7))), (true, (nwW cI q n), (nwW cI q n))] hP) rfl rfl rfl hl.1 rfl (Nat.le_of_ble_eq_true rfl) dX5_freeForFirst_23 ⟨Nat.zero_le _, Nat.zero_le _⟩ (fun H locs hP hS => ?_)
    refine lv_goto (tgt := 30) hx hb dX5_freeForFirst_26 (by decide) ?_
    have e0 : v2 = r0 := (Option.some.inj hf)
    subst e0
    exact hret H locs ls _ dX5_freeForFirst_30 rfl hS
set_option maxRecDepth 100000 in
theorem c_X5_freeForFirst (l : Launch) (D : va_G) (cI cN : ClassId) (ka a1 a2 a3 a4 a5 a6 : Nat) (q : Nat → Nat) (sz : Nat) (kx : OS) (n : OS) (x1 : Int32) (r0 : Int32) (hf : fX5_freeForFirst kx n x1 = some r0) : CtP l D cI cN yX5_freeForFirst wsX5_freeForFirst rm_X5_freeForFirst [.ref ka, .int x1] ((cxW ka (q 0) a1 a2 a3 a4 a5 a6 (kx.1 7)) ++ (nwW cI q n)) sz r0 := by
  refine mP (cc := cX5_freeForFirst) (maxL := 2) (ty := .int) (by decide) rfl rfl (Nat.le_of_ble_eq_true rfl) ?_
  intro p e s m args below meth c Q S hK hP hS hret ls hl
  exact w_X5_freeForFirst_0 S hK hret hf _ _ _ hP hS (lv_sub (show lv_has ls 2 [(0, .ref ka), (1, .int x1)] from hl) [0, 1] rfl)
abbrev rm_X5_freeForLast : Room := { frames := 2, cells := 0, slots := 0, locals := 45 }
theorem in_X5_freeForLast_X1 : ∀ w ∈ u_ws RX1 TX1 16, w ∈ wsX5_freeForLast := fun w h => List.mem_cons_of_mem _ (List.mem_append_left _ (List.mem_append_right _ h))
theorem in_X5_freeForLast_X5 : ∀ w ∈ u_ws RX5 TX5 8, w ∈ wsX5_freeForLast := fun w h => List.mem_cons_of_mem _ (List.mem_append_left _ (List.mem_append_left _ (List.mem_append_right _ h)))
set_option maxRecDepth 100000 in
set_option maxHeartbeats 4000000 in
theorem w_X5_freeForLast_0 {p : Program} {l : Launch} {e : Env} {s : State} {m : MethodId} {args : Array Value} {below : List Frame} {meth : Method} {c : Code} {Q : State → Prop} {D : va_G} {cI cN : ClassId} {ka a1 a2 a3 a4 a5 a6 : Nat} {q : Nat → Nat} (S : CallFix p m c cX5_freeForLast 2 s args wsX5_freeForLast RX5) (hK : KN D cI cN s) {kx : OS} {n : OS} {x1 : Int32} {r0 : Int32} (hret : ∀ (H : Heap) (locs : List Loc) (ls : Array Slot) (pc : Nat), decode cX5_freeForLast pc = .ok (.ireturn, 1) → narrow .int (.int r0) = .int r0 → va_S (nwA s.heap.size) s.heap H locs → W p l e (headSpec wsX5_freeForLast rm_X5_freeForLast).room s m args below meth c H locs 0 0 Q (F0 m pc ls [.int r0])) (hf : fX5_freeForLast kx n x1 = some r0) (H : Heap) (locs : List Loc) (ls : Array Slot) (hP : va_P D vwCl ((cxW ka (q 0) a1 a2 a3 a4 a5 a6 (kx.1 7)) ++ (nwW cI q n)) H) (hS : va_S (nwA s.heap.size) s.heap H locs) (hl : lv_has ls 2 [(0, .ref ka), (1, .int x1)]) : W p l e (headSpec wsX5_freeForLast rm_X5_freeForLast).room s m args below meth c H locs 0 0 Q (F0 m 0 ls []) := by
  obtain ⟨hx, hb, hml, hown, hts⟩ := id S
  have inX1 := in_X5_freeForLast_X1
  have inX5 := in_X5_freeForLast_X5
  have hA : ∀ q : Nat, s.heap.size ≤ q → nwA s.heap.size q := fun _ h => h
  unfold fX5_freeForLast at hf
  refine lv_aload_n hx hb dX5_freeForLast_0 rfl (lv_at hl 0 rfl) ?_
  refine va_get (D := D) (ci := 5) (v := .ref (q 0)) (C := RX5) (T := TX5) (N := 8) hx hb hts inX5 hown hK.1 hP 0 rfl rfl 0 (by decide) (hts (.fieldLink RX5 12 "ClosExchange" "network" "LClosExchange$Network;") (List.mem_of_getElem? (i := 1) rfl)) (fun _ h9 => h9) rfl dX5_freeForLast_1 ?_
  refine lv_iload_n hx hb dX5_freeForLast_4 rfl (lv_at hl 1 rfl) ?_
  refine cQi (As := [.int x1]) (rest := []) (q0 := 1) (ci := 1) S (c_X1_isBoard l D cI cN q _ n x1 (fX1_isBoard n x1) rfl) (cwV 1 hts gX5_freeForLast_X1_isBoard rfl rfl rfl (by decide +kernel) ⟨Nat.le_of_ble_eq_true rfl, Nat.le_of_ble_eq_true rfl⟩) hK hP hS hA (P_sel [(false, (cxW ka (q 0) a1 a2 a3 a4 a5 a6 (kx.1 7)), (cxW ka (q 0) a1 a2 a3 a4 a5 a6 (kx.1 7))), (true, (nwW cI q n), (nwW cI q n))] hP) rfl rfl rfl hl.1 rfl (Nat.le_of_ble_eq_true rfl) dX5_freeForLast_5 ⟨Nat.zero_le _, Nat.zero_le _⟩ (fun H locs hP hS => ?_)
  refine lv_if_eq (tgt := 29) hx hb dX5_freeForLast_8 (by decide) (fun c1 => ?_) (fun c1 => ?_)
  · have hf := it_t hf c1
    refine lv_iconst (v := (-1 : Int32)) hx hb dX5_freeForLast_29 kc_iconst_m1 ?_
    have e0 : (-1 : Int32) = r0 := (Option.some.inj hf)
    subst e0
    exact hret H locs ls _ dX5_freeForLast_30 rfl hS
  · have hf := it_f hf c1
    refine lv_aload_n hx hb dX5_freeForLast_11 rfl (lv_at hl 0 rfl) ?_
    refine va_get (D := D) (ci := 5) (v := .ref (q 0)) (C := RX5) (T := TX5) (N := 8) hx hb hts inX5 hown hK.1 hP 0 rfl rfl 0 (by decide) (hts (.fieldLink RX5 12 "ClosExchange" "network" "LClosExchange$Network;") (List.mem_of_getElem? (i := 1) rfl)) (fun _ h9 => h9) rfl dX5_freeForLast_12 ?_
    refine lv_aload_n hx hb dX5_freeForLast_15 rfl (lv_at hl 0 rfl) ?_
    refine va_get (D := D) (ci := 5) (v := .ref (q 0)) (C := RX5) (T := TX5) (N := 8) hx hb hts inX5 hown hK.1 hP 0 rfl rfl 0 (by decide) (hts (.fieldLink RX5 12 "ClosExchange" "network" "LClosExchange$Network;") (List.mem_of_getElem? (i := 1) rfl)) (fun _ h9 => h9) rfl dX5_freeForLast_16 ?_
    refine va_get (D := D) (ci := 1) (v := .ref (q 6)) (C := RX1) (T := TX1) (N := 16) hx hb hts inX1 hown hK.1 hP 1 rfl rfl 15 (by decide) (hts (.fieldLink RX5 161 "ClosExchange$Network" "lastLinks" "LClosExchange$Row;") (List.mem_of_getElem? (i := 2) rfl)) (fun _ h9 => h9) rfl dX5_freeForLast_19 ?_
    refine lv_iload_n hx hb dX5_freeForLast_22 rfl (lv_at hl 1 rfl) ?_
    obtain ⟨v2, hv2, hf⟩ := it_b hf
    refine cQi (As := [.ref (q 6), .int x1]) (rest := []) (q0 := 1) (ci := 1) S (c_X1_freeOnLinks5 l D cI cN q _ n x1 v2 hv2) (cwV 2 hts gX5_freeForLast_X1_freeOnLinks rfl rfl rfl (by decide +kernel) ⟨Nat.le_of_ble_eq_true rfl, Nat.le_of_ble_eq_true rfl⟩) hK hP hS hA (P_sel [(false, (cxW ka (q 0) a1 a2 a3 a4 a5 a6 (kx.1 7)), (cxW ka (q 0) a1 a2 a3 a4 a5 a6 (kx.1 7))), (true, (nwW cI q n), (nwW cI q n))] hP) rfl rfl rfl hl.1 rfl (Nat.le_of_ble_eq_true rfl) dX5_freeForLast_23 ⟨Nat.zero_le _, Nat.zero_le _⟩ (fun H locs hP hS => ?_)
    refine lv_goto (tgt := 30) hx hb dX5_freeForLast_26 (by decide) ?_
    have e0 : v2 = r0 := (Option.some.inj hf)
    subst e0
    exact hret H locs ls _ dX5_freeForLast_30 rfl hS
set_option maxRecDepth 100000 in
theorem c_X5_freeForLast (l : Launch) (D : va_G) (cI cN : ClassId) (ka a1 a2 a3 a4 a5 a6 : Nat) (q : Nat → Nat) (sz : Nat) (kx : OS) (n : OS) (x1 : Int32) (r0 : Int32) (hf : fX5_freeForLast kx n x1 = some r0) : CtP l D cI cN yX5_freeForLast wsX5_freeForLast rm_X5_freeForLast [.ref ka, .int x1] ((cxW ka (q 0) a1 a2 a3 a4 a5 a6 (kx.1 7)) ++ (nwW cI q n)) sz r0 := by
  refine mP (cc := cX5_freeForLast) (maxL := 2) (ty := .int) (by decide) rfl rfl (Nat.le_of_ble_eq_true rfl) ?_
  intro p e s m args below meth c Q S hK hP hS hret ls hl
  exact w_X5_freeForLast_0 S hK hret hf _ _ _ hP hS (lv_sub (show lv_has ls 2 [(0, .ref ka), (1, .int x1)] from hl) [0, 1] rfl)
abbrev rm_X5_inService : Room := { frames := 0, cells := 0, slots := 0, locals := 0 }
theorem in_X5_inService_X1 : ∀ w ∈ u_ws RX1 TX1 16, w ∈ wsX5_inService := fun w h => List.mem_cons_of_mem _ (List.mem_append_right _ h)
theorem in_X5_inService_X5 : ∀ w ∈ u_ws RX5 TX5 8, w ∈ wsX5_inService := fun w h => List.mem_cons_of_mem _ (List.mem_append_left _ (List.mem_append_right _ h))
set_option maxRecDepth 100000 in
set_option maxHeartbeats 4000000 in
theorem w_X5_inService_0 {p : Program} {l : Launch} {e : Env} {s : State} {m : MethodId} {args : Array Value} {below : List Frame} {meth : Method} {c : Code} {Q : State → Prop} {D : va_G} {cI cN : ClassId} {ka a1 a2 a3 a4 a5 a6 : Nat} {q : Nat → Nat} (S : CallFix p m c cX5_inService 1 s args wsX5_inService RX5) (hK : KN D cI cN s) {kx : OS} {n : OS} {r0 : Int32} (hret : ∀ (H : Heap) (locs : List Loc) (ls : Array Slot) (pc : Nat), decode cX5_inService pc = .ok (.ireturn, 1) → narrow .int (.int r0) = .int r0 → va_S (nwA s.heap.size) s.heap H locs → W p l e (headSpec wsX5_inService rm_X5_inService).room s m args below meth c H locs 0 0 Q (F0 m pc ls [.int r0])) (hf : fX5_inService kx n = r0) (H : Heap) (locs : List Loc) (ls : Array Slot) (hP : va_P D vwCl ((cxW ka (q 0) a1 a2 a3 a4 a5 a6 (kx.1 7)) ++ (nwW cI q n)) H) (hS : va_S (nwA s.heap.size) s.heap H locs) (hl : lv_has ls 1 [(0, .ref ka)]) : W p l e (headSpec wsX5_inService rm_X5_inService).room s m args below meth c H locs 0 0 Q (F0 m 0 ls []) := by
  obtain ⟨hx, hb, hml, hown, hts⟩ := id S
  have inX1 := in_X5_inService_X1
  have inX5 := in_X5_inService_X5
  have hA : ∀ q : Nat, s.heap.size ≤ q → nwA s.heap.size q := fun _ h => h
  unfold fX5_inService at hf
  refine lv_aload_n hx hb dX5_inService_0 rfl (lv_at hl 0 rfl) ?_
  refine va_get (D := D) (ci := 5) (v := .ref (q 0)) (C := RX5) (T := TX5) (N := 8) hx hb hts inX5 hown hK.1 hP 0 rfl rfl 0 (by decide) (hts (.fieldLink RX5 12 "ClosExchange" "network" "LClosExchange$Network;") (List.mem_of_getElem? (i := 1) rfl)) (fun _ h9 => h9) rfl dX5_inService_1 ?_
  refine va_get (D := D) (ci := 1) (v := .int (n.1 3)) (C := RX1) (T := TX1) (N := 16) hx hb hts inX1 hown hK.1 hP 1 rfl rfl 3 (by decide) (hts (.fieldLink RX5 171 "ClosExchange$Network" "service" "I") (List.mem_of_getElem? (i := 2) rfl)) (fun _ h9 => h9) rfl dX5_inService_4 ?_
  have e0 : (n.1 3) = r0 := hf
  subst e0
  exact hret H locs ls _ dX5_inService_7 rfl hS
set_option maxRecDepth 100000 in
theorem c_X5_inService (l : Launch) (D : va_G) (cI cN : ClassId) (ka a1 a2 a3 a4 a5 a6 : Nat) (q : Nat → Nat) (sz : Nat) (kx : OS) (n : OS) (r0 : Int32) (hf : fX5_inService kx n = r0) : CtP l D cI cN yX5_inService wsX5_inService rm_X5_inService [.ref ka] ((cxW ka (q 0) a1 a2 a3 a4 a5 a6 (kx.1 7)) ++ (nwW cI q n)) sz r0 := by
  refine mP (cc := cX5_inService) (maxL := 1) (ty := .int) (by decide) rfl rfl (Nat.le_of_ble_eq_true rfl) ?_
  intro p e s m args below meth c Q S hK hP hS hret ls hl
  exact w_X5_inService_0 S hK hret hf _ _ _ hP hS (lv_sub (show lv_has ls 1 [(0, .ref ka)] from hl) [0] rfl)
abbrev rm_X5_total : Room := { frames := 2, cells := 0, slots := 0, locals := 43 }
theorem in_X5_total_X0 : ∀ w ∈ u_ws RX0 TX0 3, w ∈ wsX5_total := fun w h => List.mem_cons_of_mem _ (List.mem_append_left _ (List.mem_append_left _ (List.mem_append_right _ h)))
theorem in_X5_total_X1 : ∀ w ∈ u_ws RX1 TX1 16, w ∈ wsX5_total := fun w h => List.mem_cons_of_mem _ (List.mem_append_left _ (List.mem_append_left _ (List.mem_append_left _ (List.mem_append_right _ h))))
theorem in_X5_total_X2 : ∀ w ∈ u_ws RX2 TX2 6, w ∈ wsX5_total := fun w h => List.mem_cons_of_mem _ (List.mem_append_left _ (List.mem_append_right _ h))
theorem in_X5_total_X5 : ∀ w ∈ u_ws RX5 TX5 8, w ∈ wsX5_total := fun w h => List.mem_cons_of_mem _ (List.mem_append_left _ (List.mem_append_left _ (List.mem_append_left _ (List.mem_append_left _ (List.mem_append_right _ h)))))
set_option maxRecDepth 100000 in
set_option maxHeartbeats 4000000 in
theorem w_X5_total_0 {p : Program} {l : Launch} {e : Env} {s : State} {m : MethodId} {args : Array Value} {below : List Frame} {meth : Method} {c : Code} {Q : State → Prop} {D : va_G} {cI cN : ClassId} {ka a1 a2 a3 a4 : Nat} {h : Nat → Nat} {hq : Nat → Nat → Nat} {u : Nat → Nat} {q : Nat → Nat} (S : CallFix p m c cX5_total 2 s args wsX5_total RX5) (hK : KN D cI cN s) {kx : OS} {hi : HS} {x : OS} {n : OS} {x1 : Int32} {r0 : Int32} (hret : ∀ (H : Heap) (locs : List Loc) (ls : Array Slot) (pc : Nat), decode cX5_total pc = .ok (.ireturn, 1) → narrow .int (.int r0) = .int r0 → va_S (nwA s.heap.size) s.heap H locs → W p l e (headSpec wsX5_total rm_X5_total).room s m args below meth c H locs 0 0 Q (F0 m pc ls [.int r0])) (hf : fX5_total kx hi x n x1 = some r0) (H : Heap) (locs : List Loc) (ls : Array Slot) (hP : va_P D vwCl ((cxW ka (q 0) a1 a2 a3 a4 (h 0) (u 0) (kx.1 7)) ++ ((hiW cI cN h hq hi) ++ ((txW cI u x) ++ (nwW cI q n)))) H) (hS : va_S (nwA s.heap.size) s.heap H locs) (hl : lv_has ls 2 [(0, .ref ka), (1, .int x1)]) : W p l e (headSpec wsX5_total rm_X5_total).room s m args below meth c H locs 0 0 Q (F0 m 0 ls []) := by
  obtain ⟨hx, hb, hml, hown, hts⟩ := id S
  have inX0 := in_X5_total_X0
  have inX1 := in_X5_total_X1
  have inX2 := in_X5_total_X2
  have inX5 := in_X5_total_X5
  have hA : ∀ q : Nat, s.heap.size ≤ q → nwA s.heap.size q := fun _ h => h
  unfold fX5_total at hf
  refine lv_iload_n hx hb dX5_total_0 rfl (lv_at hl 1 rfl) ?_
  refine lv_topi (fun y1 ey1 => ?_)
  by_cases c_y1_0 : x1 = (0 : Int32)
  · have hf := it_t hf c_y1_0
    obtain rfl := ey1.trans c_y1_0
    refine lv_tableIn (tgt := 64) hx hb dX5_total_1 (by decide) (by decide) rfl (by decide) ?_
    refine lv_aload_n hx hb dX5_total_64 rfl (lv_at hl 0 rfl) ?_
    refine va_get (D := D) (ci := 5) (v := .ref (q 0)) (C := RX5) (T := TX5) (N := 8) hx hb hts inX5 hown hK.1 hP 0 rfl rfl 0 (by decide) (hts (.fieldLink RX5 12 "ClosExchange" "network" "LClosExchange$Network;") (List.mem_of_getElem? (i := 1) rfl)) (fun _ h9 => h9) rfl dX5_total_65 ?_
    refine va_get (D := D) (ci := 1) (v := .int (n.1 0)) (C := RX1) (T := TX1) (N := 16) hx hb hts inX1 hown hK.1 hP 58 rfl rfl 0 (by decide) (hts (.fieldLink RX5 174 "ClosExchange$Network" "boards" "I") (List.mem_of_getElem? (i := 2) rfl)) (fun _ h9 => h9) rfl dX5_total_68 ?_
    have e0 : (n.1 0) = r0 := (Option.some.inj hf)
    subst e0
    exact hret H locs ls _ dX5_total_71 rfl hS
  · have hf := it_f hf c_y1_0
    by_cases c_y1_1 : x1 = (1 : Int32)
    · have hf := it_t hf c_y1_1
      obtain rfl := ey1.trans c_y1_1
      refine lv_tableIn (tgt := 72) hx hb dX5_total_1 (by decide) (by decide) rfl (by decide) ?_
      refine lv_aload_n hx hb dX5_total_72 rfl (lv_at hl 0 rfl) ?_
      refine va_get (D := D) (ci := 5) (v := .ref (q 0)) (C := RX5) (T := TX5) (N := 8) hx hb hts inX5 hown hK.1 hP 0 rfl rfl 0 (by decide) (hts (.fieldLink RX5 12 "ClosExchange" "network" "LClosExchange$Network;") (List.mem_of_getElem? (i := 1) rfl)) (fun _ h9 => h9) rfl dX5_total_73 ?_
      refine va_get (D := D) (ci := 1) (v := .int (n.1 1)) (C := RX1) (T := TX1) (N := 16) hx hb hts inX1 hown hK.1 hP 58 rfl rfl 1 (by decide) (hts (.fieldLink RX5 177 "ClosExchange$Network" "lines" "I") (List.mem_of_getElem? (i := 3) rfl)) (fun _ h9 => h9) rfl dX5_total_76 ?_
      have e0 : (n.1 1) = r0 := (Option.some.inj hf)
      subst e0
      exact hret H locs ls _ dX5_total_79 rfl hS
    · have hf := it_f hf c_y1_1
      by_cases c_y1_2 : x1 = (2 : Int32)
      · have hf := it_t hf c_y1_2
        obtain rfl := ey1.trans c_y1_2
        refine lv_tableIn (tgt := 80) hx hb dX5_total_1 (by decide) (by decide) rfl (by decide) ?_
        refine lv_aload_n hx hb dX5_total_80 rfl (lv_at hl 0 rfl) ?_
        refine va_get (D := D) (ci := 5) (v := .ref (q 0)) (C := RX5) (T := TX5) (N := 8) hx hb hts inX5 hown hK.1 hP 0 rfl rfl 0 (by decide) (hts (.fieldLink RX5 12 "ClosExchange" "network" "LClosExchange$Network;") (List.mem_of_getElem? (i := 1) rfl)) (fun _ h9 => h9) rfl dX5_total_81 ?_
        refine va_get (D := D) (ci := 1) (v := .int (n.1 2)) (C := RX1) (T := TX1) (N := 16) hx hb hts inX1 hown hK.1 hP 58 rfl rfl 2 (by decide) (hts (.fieldLink RX5 180 "ClosExchange$Network" "middles" "I") (List.mem_of_getElem? (i := 4) rfl)) (fun _ h9 => h9) rfl dX5_total_84 ?_
        have e0 : (n.1 2) = r0 := (Option.some.inj hf)
        subst e0
        exact hret H locs ls _ dX5_total_87 rfl hS
      · have hf := it_f hf c_y1_2
        by_cases c_y1_3 : x1 = (3 : Int32)
        · have hf := it_t hf c_y1_3
          obtain rfl := ey1.trans c_y1_3
          refine lv_tableIn (tgt := 88) hx hb dX5_total_1 (by decide) (by decide) rfl (by decide) ?_
          refine lv_aload_n hx hb dX5_total_88 rfl (lv_at hl 0 rfl) ?_
          refine va_get (D := D) (ci := 5) (v := .ref (q 0)) (C := RX5) (T := TX5) (N := 8) hx hb hts inX5 hown hK.1 hP 0 rfl rfl 0 (by decide) (hts (.fieldLink RX5 12 "ClosExchange" "network" "LClosExchange$Network;") (List.mem_of_getElem? (i := 1) rfl)) (fun _ h9 => h9) rfl dX5_total_89 ?_
          refine va_get (D := D) (ci := 1) (v := .int (n.1 4)) (C := RX1) (T := TX1) (N := 16) hx hb hts inX1 hown hK.1 hP 58 rfl rfl 4 (by decide) (hts (.fieldLink RX5 62 "ClosExchange$Network" "choiceRule" "I") (List.mem_of_getElem? (i := 5) rfl)) (fun _ h9 => h9) rfl dX5_total_92 ?_
          have e0 : (n.1 4) = r0 := (Option.some.inj hf)
          subst e0
          exact hret H locs ls _ dX5_total_95 rfl hS
        · have hf := it_f hf c_y1_3
          by_cases c_y1_4 : x1 = (4 : Int32)
          · have hf := it_t hf c_y1_4
            obtain rfl := ey1.trans c_y1_4
            refine lv_tableIn (tgt := 96) hx hb dX5_total_1 (by decide) (by decide) rfl (by decide) ?_
            refine lv_aload_n hx hb dX5_total_96 rfl (lv_at hl 0 rfl) ?_
            refine va_get (D := D) (ci := 5) (v := .ref (q 0)) (C := RX5) (T := TX5) (N := 8) hx hb hts inX5 hown hK.1 hP 0 rfl rfl 0 (by decide) (hts (.fieldLink RX5 12 "ClosExchange" "network" "LClosExchange$Network;") (List.mem_of_getElem? (i := 1) rfl)) (fun _ h9 => h9) rfl dX5_total_97 ?_
            refine va_get (D := D) (ci := 1) (v := .int (n.1 5)) (C := RX1) (T := TX1) (N := 16) hx hb hts inX1 hown hK.1 hP 58 rfl rfl 5 (by decide) (hts (.fieldLink RX5 66 "ClosExchange$Network" "pairRule" "I") (List.mem_of_getElem? (i := 6) rfl)) (fun _ h9 => h9) rfl dX5_total_100 ?_
            have e0 : (n.1 5) = r0 := (Option.some.inj hf)
            subst e0
            exact hret H locs ls _ dX5_total_103 rfl hS
          · have hf := it_f hf c_y1_4
            by_cases c_y1_5 : x1 = (5 : Int32)
            · have hf := it_t hf c_y1_5
              obtain rfl := ey1.trans c_y1_5
              refine lv_tableIn (tgt := 104) hx hb dX5_total_1 (by decide) (by decide) rfl (by decide) ?_
              refine lv_aload_n hx hb dX5_total_104 rfl (lv_at hl 0 rfl) ?_
              refine va_get (D := D) (ci := 5) (v := .ref (q 0)) (C := RX5) (T := TX5) (N := 8) hx hb hts inX5 hown hK.1 hP 0 rfl rfl 0 (by decide) (hts (.fieldLink RX5 12 "ClosExchange" "network" "LClosExchange$Network;") (List.mem_of_getElem? (i := 1) rfl)) (fun _ h9 => h9) rfl dX5_total_105 ?_
              obtain ⟨v2, hv2, hf⟩ := it_b hf
              refine cQi (As := []) (rest := []) (q0 := 58) (ci := 1) S (c_X1_countCalls l D cI cN q _ n v2 hv2) (cwV 0 hts gX5_total_X1_countCalls rfl rfl rfl (by decide +kernel) ⟨Nat.le_of_ble_eq_true rfl, Nat.le_of_ble_eq_true rfl⟩) hK hP hS hA (P_sel [(false, (cxW ka (q 0) a1 a2 a3 a4 (h 0) (u 0) (kx.1 7)), (cxW ka (q 0) a1 a2 a3 a4 (h 0) (u 0) (kx.1 7))), (false, (hiW cI cN h hq hi), (hiW cI cN h hq hi)), (false, (txW cI u x), (txW cI u x)), (true, (nwW cI q n), (nwW cI q n))] hP) rfl rfl rfl hl.1 rfl (Nat.le_of_ble_eq_true rfl) dX5_total_108 ⟨Nat.zero_le _, Nat.zero_le _⟩ (fun H locs hP hS => ?_)
              have e0 : v2 = r0 := (Option.some.inj hf)
              subst e0
              exact hret H locs ls _ dX5_total_111 rfl hS
            · have hf := it_f hf c_y1_5
              by_cases c_y1_6 : x1 = (6 : Int32)
              · have hf := it_t hf c_y1_6
                obtain rfl := ey1.trans c_y1_6
                refine lv_tableIn (tgt := 112) hx hb dX5_total_1 (by decide) (by decide) rfl (by decide) ?_
                refine lv_aload_n hx hb dX5_total_112 rfl (lv_at hl 0 rfl) ?_
                refine va_get (D := D) (ci := 5) (v := .ref (q 0)) (C := RX5) (T := TX5) (N := 8) hx hb hts inX5 hown hK.1 hP 0 rfl rfl 0 (by decide) (hts (.fieldLink RX5 12 "ClosExchange" "network" "LClosExchange$Network;") (List.mem_of_getElem? (i := 1) rfl)) (fun _ h9 => h9) rfl dX5_total_113 ?_
                refine va_get (D := D) (ci := 1) (v := .int (n.1 6)) (C := RX1) (T := TX1) (N := 16) hx hb hts inX1 hown hK.1 hP 58 rfl rfl 6 (by decide) (hts (.fieldLink RX5 183 "ClosExchange$Network" "connected" "I") (List.mem_of_getElem? (i := 7) rfl)) (fun _ h9 => h9) rfl dX5_total_116 ?_
                have e0 : (n.1 6) = r0 := (Option.some.inj hf)
                subst e0
                exact hret H locs ls _ dX5_total_119 rfl hS
              · have hf := it_f hf c_y1_6
                by_cases c_y1_7 : x1 = (7 : Int32)
                · have hf := it_t hf c_y1_7
                  obtain rfl := ey1.trans c_y1_7
                  refine lv_tableIn (tgt := 120) hx hb dX5_total_1 (by decide) (by decide) rfl (by decide) ?_
                  refine lv_aload_n hx hb dX5_total_120 rfl (lv_at hl 0 rfl) ?_
                  refine va_get (D := D) (ci := 5) (v := .ref (q 0)) (C := RX5) (T := TX5) (N := 8) hx hb hts inX5 hown hK.1 hP 0 rfl rfl 0 (by decide) (hts (.fieldLink RX5 12 "ClosExchange" "network" "LClosExchange$Network;") (List.mem_of_getElem? (i := 1) rfl)) (fun _ h9 => h9) rfl dX5_total_121 ?_
                  refine va_get (D := D) (ci := 1) (v := .int (n.1 7)) (C := RX1) (T := TX1) (N := 16) hx hb hts inX1 hown hK.1 hP 58 rfl rfl 7 (by decide) (hts (.fieldLink RX5 186 "ClosExchange$Network" "ended" "I") (List.mem_of_getElem? (i := 8) rfl)) (fun _ h9 => h9) rfl dX5_total_124 ?_
                  have e0 : (n.1 7) = r0 := (Option.some.inj hf)
                  subst e0
                  exact hret H locs ls _ dX5_total_127 rfl hS
                · have hf := it_f hf c_y1_7
                  by_cases c_y1_8 : x1 = (8 : Int32)
                  · have hf := it_t hf c_y1_8
                    obtain rfl := ey1.trans c_y1_8
                    refine lv_tableIn (tgt := 128) hx hb dX5_total_1 (by decide) (by decide) rfl (by decide) ?_
                    refine lv_aload_n hx hb dX5_total_128 rfl (lv_at hl 0 rfl) ?_
                    refine va_get (D := D) (ci := 5) (v := .ref (q 0)) (C := RX5) (T := TX5) (N := 8) hx hb hts inX5 hown hK.1 hP 0 rfl rfl 0 (by decide) (hts (.fieldLink RX5 12 "ClosExchange" "network" "LClosExchange$Network;") (List.mem_of_getElem? (i := 1) rfl)) (fun _ h9 => h9) rfl dX5_total_129 ?_
                    refine va_get (D := D) (ci := 1) (v := .int (n.1 8)) (C := RX1) (T := TX1) (N := 16) hx hb hts inX1 hown hK.1 hP 58 rfl rfl 8 (by decide) (hts (.fieldLink RX5 189 "ClosExchange$Network" "dropped" "I") (List.mem_of_getElem? (i := 9) rfl)) (fun _ h9 => h9) rfl dX5_total_132 ?_
                    have e0 : (n.1 8) = r0 := (Option.some.inj hf)
                    subst e0
                    exact hret H locs ls _ dX5_total_135 rfl hS
                  · have hf := it_f hf c_y1_8
                    by_cases c_y1_9 : x1 = (9 : Int32)
                    · have hf := it_t hf c_y1_9
                      obtain rfl := ey1.trans c_y1_9
                      refine lv_tableIn (tgt := 136) hx hb dX5_total_1 (by decide) (by decide) rfl (by decide) ?_
                      refine lv_aload_n hx hb dX5_total_136 rfl (lv_at hl 0 rfl) ?_
                      refine va_get (D := D) (ci := 5) (v := .ref (q 0)) (C := RX5) (T := TX5) (N := 8) hx hb hts inX5 hown hK.1 hP 0 rfl rfl 0 (by decide) (hts (.fieldLink RX5 12 "ClosExchange" "network" "LClosExchange$Network;") (List.mem_of_getElem? (i := 1) rfl)) (fun _ h9 => h9) rfl dX5_total_137 ?_
                      refine va_get (D := D) (ci := 1) (v := .int (n.1 9)) (C := RX1) (T := TX1) (N := 16) hx hb hts inX1 hown hK.1 hP 58 rfl rfl 9 (by decide) (hts (.fieldLink RX5 192 "ClosExchange$Network" "moved" "I") (List.mem_of_getElem? (i := 10) rfl)) (fun _ h9 => h9) rfl dX5_total_140 ?_
                      have e0 : (n.1 9) = r0 := (Option.some.inj hf)
                      subst e0
                      exact hret H locs ls _ dX5_total_143 rfl hS
                    · have hf := it_f hf c_y1_9
                      by_cases c_y1_10 : x1 = (10 : Int32)
                      · have hf := it_t hf c_y1_10
                        obtain rfl := ey1.trans c_y1_10
                        refine lv_tableIn (tgt := 144) hx hb dX5_total_1 (by decide) (by decide) rfl (by decide) ?_
                        refine lv_aload_n hx hb dX5_total_144 rfl (lv_at hl 0 rfl) ?_
                        refine va_get (D := D) (ci := 5) (v := .ref (h 0)) (C := RX5) (T := TX5) (N := 8) hx hb hts inX5 hown hK.1 hP 0 rfl rfl 5 (by decide) (hts (.fieldLink RX5 35 "ClosExchange" "history" "LClosExchange$History;") (List.mem_of_getElem? (i := 11) rfl)) (fun _ h9 => h9) rfl dX5_total_145 ?_
                        refine va_get (D := D) (ci := 0) (v := .int (hi.1 2)) (C := RX0) (T := TX0) (N := 3) hx hb hts inX0 hown hK.1 hP 1 rfl rfl 2 (by decide) (hts (.fieldLink RX5 195 "ClosExchange$History" "count" "I") (List.mem_of_getElem? (i := 12) rfl)) (fun _ h9 => h9) rfl dX5_total_148 ?_
                        have e0 : (hi.1 2) = r0 := (Option.some.inj hf)
                        subst e0
                        exact hret H locs ls _ dX5_total_151 rfl hS
                      · have hf := it_f hf c_y1_10
                        by_cases c_y1_11 : x1 = (11 : Int32)
                        · have hf := it_t hf c_y1_11
                          obtain rfl := ey1.trans c_y1_11
                          refine lv_tableIn (tgt := 152) hx hb dX5_total_1 (by decide) (by decide) rfl (by decide) ?_
                          refine lv_aload_n hx hb dX5_total_152 rfl (lv_at hl 0 rfl) ?_
                          refine va_get (D := D) (ci := 5) (v := .ref (u 0)) (C := RX5) (T := TX5) (N := 8) hx hb hts inX5 hown hK.1 hP 0 rfl rfl 6 (by decide) (hts (.fieldLink RX5 42 "ClosExchange" "text" "LClosExchange$OrderText;") (List.mem_of_getElem? (i := 13) rfl)) (fun _ h9 => h9) rfl dX5_total_153 ?_
                          refine va_get (D := D) (ci := 2) (v := .int (x.1 1)) (C := RX2) (T := TX2) (N := 6) hx hb hts inX2 hown hK.1 hP 55 rfl rfl 1 (by decide) (hts (.fieldLink RX5 97 "ClosExchange$OrderText" "length" "I") (List.mem_of_getElem? (i := 14) rfl)) (fun _ h9 => h9) rfl dX5_total_156 ?_
                          have e0 : (x.1 1) = r0 := (Option.some.inj hf)
                          subst e0
                          exact hret H locs ls _ dX5_total_159 rfl hS
                        · have hf := it_f hf c_y1_11
                          refine lv_tableOut (tgt := 160) hx hb dX5_total_1 (by have h0 := lv_neT (x := y1) (fun h => c_y1_0 (ey1.symm.trans h)) (a := 0) (by decide); have h1 := lv_neT (x := y1) (fun h => c_y1_1 (ey1.symm.trans h)) (a := 1) (by decide); have h2 := lv_neT (x := y1) (fun h => c_y1_2 (ey1.symm.trans h)) (a := 2) (by decide); have h3 := lv_neT (x := y1) (fun h => c_y1_3 (ey1.symm.trans h)) (a := 3) (by decide); have h4 := lv_neT (x := y1) (fun h => c_y1_4 (ey1.symm.trans h)) (a := 4) (by decide); have h5 := lv_neT (x := y1) (fun h => c_y1_5 (ey1.symm.trans h)) (a := 5) (by decide); have h6 := lv_neT (x := y1) (fun h => c_y1_6 (ey1.symm.trans h)) (a := 6) (by decide); have h7 := lv_neT (x := y1) (fun h => c_y1_7 (ey1.symm.trans h)) (a := 7) (by decide); have h8 := lv_neT (x := y1) (fun h => c_y1_8 (ey1.symm.trans h)) (a := 8) (by decide); have h9 := lv_neT (x := y1) (fun h => c_y1_9 (ey1.symm.trans h)) (a := 9) (by decide); have h10 := lv_neT (x := y1) (fun h => c_y1_10 (ey1.symm.trans h)) (a := 10) (by decide); have h11 := lv_neT (x := y1) (fun h => c_y1_11 (ey1.symm.trans h)) (a := 11) (by decide); omega) (by decide) ?_
                          refine lv_bipush (v := (-2 : Int32)) hx hb dX5_total_160 kc_bipush_m2 ?_
                          have e0 : (-2 : Int32) = r0 := (Option.some.inj hf)
                          subst e0
                          exact hret H locs ls _ dX5_total_162 rfl hS
set_option maxRecDepth 100000 in
theorem c_X5_total (l : Launch) (D : va_G) (cI cN : ClassId) (ka a1 a2 a3 a4 : Nat) (h : Nat → Nat) (hq : Nat → Nat → Nat) (u : Nat → Nat) (q : Nat → Nat) (sz : Nat) (kx : OS) (hi : HS) (x : OS) (n : OS) (x1 : Int32) (r0 : Int32) (hf : fX5_total kx hi x n x1 = some r0) : CtP l D cI cN yX5_total wsX5_total rm_X5_total [.ref ka, .int x1] ((cxW ka (q 0) a1 a2 a3 a4 (h 0) (u 0) (kx.1 7)) ++ ((hiW cI cN h hq hi) ++ ((txW cI u x) ++ (nwW cI q n)))) sz r0 := by
  refine mP (cc := cX5_total) (maxL := 2) (ty := .int) (by decide) rfl rfl (Nat.le_of_ble_eq_true rfl) ?_
  intro p e s m args below meth c Q S hK hP hS hret ls hl
  exact w_X5_total_0 S hK hret hf _ _ _ hP hS (lv_sub (show lv_has ls 2 [(0, .ref ka), (1, .int x1)] from hl) [0, 1] rfl)
abbrev rm_X5_wouldMove : Room := { frames := 5, cells := 0, slots := 0, locals := 129 }
theorem in_X5_wouldMove_X3 : ∀ w ∈ u_ws RX3 TX3 5, w ∈ wsX5_wouldMove := fun w h => List.mem_cons_of_mem _ (List.mem_append_left _ (List.mem_append_left _ (List.mem_append_right _ h)))
theorem in_X5_wouldMove_X5 : ∀ w ∈ u_ws RX5 TX5 8, w ∈ wsX5_wouldMove := fun w h => List.mem_cons_of_mem _ (List.mem_append_left _ (List.mem_append_left _ (List.mem_append_left _ (List.mem_append_right _ h))))
set_option maxRecDepth 100000 in
set_option maxHeartbeats 4000000 in
theorem w_X5_wouldMove_0 {p : Program} {l : Launch} {e : Env} {s : State} {m : MethodId} {args : Array Value} {below : List Frame} {meth : Method} {c : Code} {Q : State → Prop} {D : va_G} {cI cN : ClassId} {A : Nat → Prop} {ka a1 a2 a3 a5 a6 : Nat} {t : Nat → Nat} {q : Nat → Nat} (S : CallFix p m c cX5_wouldMove 4 s args wsX5_wouldMove RX5) (hK : KN D cI cN s) (hA : ∀ q : Nat, s.heap.size ≤ q → A q) {kx : OS} {r : OS} {n : OS} {x1 : Int32} {x2 : Int32} {r0 : Int32} {r' : OS} (hret : ∀ (H : Heap) (locs : List Loc) (ls : Array Slot) (pc : Nat), decode cX5_wouldMove pc = .ok (.ireturn, 1) → narrow .int (.int r0) = .int r0 → va_P D vwCl ((cxW ka (q 0) a1 a2 a3 (t 0) a5 a6 (kx.1 7)) ++ ((rtW cI t r') ++ (nwW cI q n))) H → va_D A ((cxW ka (q 0) a1 a2 a3 (t 0) a5 a6 (kx.1 7)) ++ ((rtW cI t r') ++ (nwW cI q n))) → va_S A s.heap H locs → W p l e (headSpec wsX5_wouldMove rm_X5_wouldMove).room s m args below meth c H locs 0 0 Q (F0 m pc ls [.int r0])) (hf : fX5_wouldMove kx r n x1 x2 = some (r0, r')) (H : Heap) (locs : List Loc) (ls : Array Slot) (hP : va_P D vwCl ((cxW ka (q 0) a1 a2 a3 (t 0) a5 a6 (kx.1 7)) ++ ((rtW cI t r) ++ (nwW cI q n))) H) (hD : va_D A ((cxW ka (q 0) a1 a2 a3 (t 0) a5 a6 (kx.1 7)) ++ ((rtW cI t r) ++ (nwW cI q n)))) (hS : va_S A s.heap H locs) (hl : lv_has ls 4 [(0, .ref ka), (1, .int x1), (2, .int x2)]) : W p l e (headSpec wsX5_wouldMove rm_X5_wouldMove).room s m args below meth c H locs 0 0 Q (F0 m 0 ls []) := by
  obtain ⟨hx, hb, hml, hown, hts⟩ := id S
  have inX3 := in_X5_wouldMove_X3
  have inX5 := in_X5_wouldMove_X5
  unfold fX5_wouldMove at hf
  refine lv_aload_n hx hb dX5_wouldMove_0 rfl (lv_at hl 0 rfl) ?_
  refine va_get (D := D) (ci := 5) (v := .ref (t 0)) (C := RX5) (T := TX5) (N := 8) hx hb hts inX5 hown hK.1 hP 0 rfl rfl 4 (by decide) (hts (.fieldLink RX5 28 "ClosExchange" "router" "LClosExchange$Router;") (List.mem_of_getElem? (i := 1) rfl)) (fun _ h9 => h9) rfl dX5_wouldMove_1 ?_
  refine lv_aload_n hx hb dX5_wouldMove_4 rfl (lv_at hl 0 rfl) ?_
  refine va_get (D := D) (ci := 5) (v := .ref (q 0)) (C := RX5) (T := TX5) (N := 8) hx hb hts inX5 hown hK.1 hP 0 rfl rfl 0 (by decide) (hts (.fieldLink RX5 12 "ClosExchange" "network" "LClosExchange$Network;") (List.mem_of_getElem? (i := 2) rfl)) (fun _ h9 => h9) rfl dX5_wouldMove_5 ?_
  refine lv_iload_n hx hb dX5_wouldMove_8 rfl (lv_at hl 1 rfl) ?_
  refine lv_iload_n hx hb dX5_wouldMove_9 rfl (lv_at hl 2 rfl) ?_
  obtain ⟨v1, hv1, hf⟩ := it_b hf
  refine cBi (As := [.ref (q 0), .int x1, .int x2]) (rest := []) (q0 := 1) (ci := 3) [(false, (cxW ka (q 0) a1 a2 a3 (t 0) a5 a6 (kx.1 7)), (cxW ka (q 0) a1 a2 a3 (t 0) a5 a6 (kx.1 7))), (true, (rtW cI t r), (rtW cI t v1.2)), (true, (nwW cI q n), (nwW cI q n))] ⟨rfl, (fun _ => rfl), ad_rtr, (fun h => Bool.noConfusion h), ad_net, (fun h => Bool.noConfusion h), trivial⟩ S (c_X3_tryCall l D cI cN t q _ r n x1 x2 v1.1 v1.2 hv1) (cwV 3 hts gX5_wouldMove_X3_tryCall rfl rfl rfl (by decide +kernel) ⟨Nat.le_of_ble_eq_true rfl, Nat.le_of_ble_eq_true rfl⟩) hK hP hD hS hA rfl rfl rfl hl.1 rfl (Nat.le_of_ble_eq_true rfl) dX5_wouldMove_10 ⟨Nat.zero_le _, Nat.zero_le _⟩ (fun H locs hP hD hS => ?_)
  refine lv_istore_n (lv' := [(3, .int v1.1), (0, .ref ka), (1, .int x1), (2, .int x2)]) hx hb dX5_wouldMove_13 rfl hl (by decide) rfl (fun ls hl => ?_)
  refine lv_iload_n hx hb dX5_wouldMove_14 rfl (lv_at hl 0 rfl) ?_
  refine lv_if_ge (tgt := 22) hx hb dX5_wouldMove_15 (by decide) (fun c2 => ?_) (fun c2 => ?_)
  · have hf := it_t hf c2
    refine lv_aload_n hx hb dX5_wouldMove_22 rfl (lv_at hl 1 rfl) ?_
    refine va_get (D := D) (ci := 5) (v := .ref (t 0)) (C := RX5) (T := TX5) (N := 8) hx hb hts inX5 hown hK.1 hP 0 rfl rfl 4 (by decide) (hts (.fieldLink RX5 28 "ClosExchange" "router" "LClosExchange$Router;") (List.mem_of_getElem? (i := 1) rfl)) (fun _ h9 => h9) rfl dX5_wouldMove_23 ?_
    refine va_get (D := D) (ci := 3) (v := .int (v1.2.1 1)) (C := RX3) (T := TX3) (N := 5) hx hb hts inX3 hown hK.1 hP 1 rfl rfl 1 (by decide) (hts (.fieldLink RX5 201 "ClosExchange$Router" "chainLength" "I") (List.mem_of_getElem? (i := 3) rfl)) (fun _ h9 => h9) rfl dX5_wouldMove_26 ?_
    have e0 : (v1.2.1 1) = r0 := congrArg (fun z => z.1) (Option.some.inj hf)
    have e1 : v1.2 = r' := congrArg (fun z => z.2) (Option.some.inj hf)
    subst e0
    subst e1
    exact hret H locs ls _ dX5_wouldMove_29 rfl hP hD hS
  · have hf := it_f hf c2
    refine lv_iload_n hx hb dX5_wouldMove_18 rfl (lv_at hl 0 rfl) ?_
    refine lv_goto (tgt := 29) hx hb dX5_wouldMove_19 (by decide) ?_
    have e0 : v1.1 = r0 := congrArg (fun z => z.1) (Option.some.inj hf)
    have e1 : v1.2 = r' := congrArg (fun z => z.2) (Option.some.inj hf)
    subst e0
    subst e1
    exact hret H locs ls _ dX5_wouldMove_29 rfl hP hD hS
set_option maxRecDepth 100000 in
theorem c_X5_wouldMove (l : Launch) (D : va_G) (cI cN : ClassId) (ka a1 a2 a3 a5 a6 : Nat) (t : Nat → Nat) (q : Nat → Nat) (sz : Nat) (kx : OS) (r : OS) (n : OS) (x1 : Int32) (x2 : Int32) (r0 : Int32) (r' : OS) (hf : fX5_wouldMove kx r n x1 x2 = some (r0, r')) : CtI l D cI cN yX5_wouldMove wsX5_wouldMove rm_X5_wouldMove 0 0 [.ref ka, .int x1, .int x2] ((cxW ka (q 0) a1 a2 a3 (t 0) a5 a6 (kx.1 7)) ++ ((rtW cI t r) ++ (nwW cI q n))) sz r0 ((cxW ka (q 0) a1 a2 a3 (t 0) a5 a6 (kx.1 7)) ++ ((rtW cI t r') ++ (nwW cI q n))) := by
  refine mW (cc := cX5_wouldMove) (maxL := 4) (ty := .int) (by decide) rfl rfl (Nat.le_of_ble_eq_true rfl) ?_
  intro p e s m args below meth c Q A S hK hP hD hS hA hret ls hl
  exact w_X5_wouldMove_0 S hK hA hret hf _ _ _ hP hD hS (lv_sub (show lv_has ls 4 [(0, .ref ka), (1, .int x1), (2, .int x2)] from hl) [0, 1, 2] rfl)
abbrev rm_X5_chainCall : Room := { frames := 5, cells := 0, slots := 0, locals := 129 }
theorem in_X5_chainCall_X1 : ∀ w ∈ u_ws RX1 TX1 16, w ∈ wsX5_chainCall := fun w h => List.mem_cons_of_mem _ (List.mem_append_left _ (List.mem_append_right _ h))
theorem in_X5_chainCall_X3 : ∀ w ∈ u_ws RX3 TX3 5, w ∈ wsX5_chainCall := fun w h => List.mem_cons_of_mem _ (List.mem_append_left _ (List.mem_append_left _ (List.mem_append_right _ h)))
theorem in_X5_chainCall_X5 : ∀ w ∈ u_ws RX5 TX5 8, w ∈ wsX5_chainCall := fun w h => List.mem_cons_of_mem _ (List.mem_append_left _ (List.mem_append_left _ (List.mem_append_left _ (List.mem_append_right _ h))))
set_option maxRecDepth 100000 in
set_option maxHeartbeats 4000000 in
theorem w_X5_chainCall_0 {p : Program} {l : Launch} {e : Env} {s : State} {m : MethodId} {args : Array Value} {below : List Frame} {meth : Method} {c : Code} {Q : State → Prop} {D : va_G} {cI cN : ClassId} {A : Nat → Prop} {ka a1 a2 a3 a5 a6 : Nat} {t : Nat → Nat} {q : Nat → Nat} (S : CallFix p m c cX5_chainCall 5 s args wsX5_chainCall RX5) (hK : KN D cI cN s) (hA : ∀ q : Nat, s.heap.size ≤ q → A q) {kx : OS} {r : OS} {n : OS} {x1 : Int32} {x2 : Int32} {x3 : Int32} {r0 : Int32} {r' : OS} (hret : ∀ (H : Heap) (locs : List Loc) (ls : Array Slot) (pc : Nat), decode cX5_chainCall pc = .ok (.ireturn, 1) → narrow .int (.int r0) = .int r0 → va_P D vwCl ((cxW ka (q 0) a1 a2 a3 (t 0) a5 a6 (kx.1 7)) ++ ((rtW cI t r') ++ (nwW cI q n))) H → va_D A ((cxW ka (q 0) a1 a2 a3 (t 0) a5 a6 (kx.1 7)) ++ ((rtW cI t r') ++ (nwW cI q n))) → va_S A s.heap H locs → W p l e (headSpec wsX5_chainCall rm_X5_chainCall).room s m args below meth c H locs 0 0 Q (F0 m pc ls [.int r0])) (hf : fX5_chainCall kx r n x1 x2 x3 = some (r0, r')) (H : Heap) (locs : List Loc) (ls : Array Slot) (hP : va_P D vwCl ((cxW ka (q 0) a1 a2 a3 (t 0) a5 a6 (kx.1 7)) ++ ((rtW cI t r) ++ (nwW cI q n))) H) (hD : va_D A ((cxW ka (q 0) a1 a2 a3 (t 0) a5 a6 (kx.1 7)) ++ ((rtW cI t r) ++ (nwW cI q n)))) (hS : va_S A s.heap H locs) (hl : lv_has ls 5 [(0, .ref ka), (1, .int x1), (2, .int x2), (3, .int x3)]) : W p l e (headSpec wsX5_chainCall rm_X5_chainCall).room s m args below meth c H locs 0 0 Q (F0 m 0 ls []) := by
  obtain ⟨hx, hb, hml, hown, hts⟩ := id S
  have inX1 := in_X5_chainCall_X1
  have inX3 := in_X5_chainCall_X3
  have inX5 := in_X5_chainCall_X5
  unfold fX5_chainCall at hf
  refine lv_aload_n hx hb dX5_chainCall_0 rfl (lv_at hl 0 rfl) ?_
  refine va_get (D := D) (ci := 5) (v := .ref (t 0)) (C := RX5) (T := TX5) (N := 8) hx hb hts inX5 hown hK.1 hP 0 rfl rfl 4 (by decide) (hts (.fieldLink RX5 28 "ClosExchange" "router" "LClosExchange$Router;") (List.mem_of_getElem? (i := 1) rfl)) (fun _ h9 => h9) rfl dX5_chainCall_1 ?_
  refine lv_aload_n hx hb dX5_chainCall_4 rfl (lv_at hl 0 rfl) ?_
  refine va_get (D := D) (ci := 5) (v := .ref (q 0)) (C := RX5) (T := TX5) (N := 8) hx hb hts inX5 hown hK.1 hP 0 rfl rfl 0 (by decide) (hts (.fieldLink RX5 12 "ClosExchange" "network" "LClosExchange$Network;") (List.mem_of_getElem? (i := 2) rfl)) (fun _ h9 => h9) rfl dX5_chainCall_5 ?_
  refine lv_iload_n hx hb dX5_chainCall_8 rfl (lv_at hl 1 rfl) ?_
  refine lv_iload_n hx hb dX5_chainCall_9 rfl (lv_at hl 2 rfl) ?_
  obtain ⟨v1, hv1, hf⟩ := it_b hf
  refine cBi (As := [.ref (q 0), .int x1, .int x2]) (rest := []) (q0 := 1) (ci := 3) [(false, (cxW ka (q 0) a1 a2 a3 (t 0) a5 a6 (kx.1 7)), (cxW ka (q 0) a1 a2 a3 (t 0) a5 a6 (kx.1 7))), (true, (rtW cI t r), (rtW cI t v1.2)), (true, (nwW cI q n), (nwW cI q n))] ⟨rfl, (fun _ => rfl), ad_rtr, (fun h => Bool.noConfusion h), ad_net, (fun h => Bool.noConfusion h), trivial⟩ S (c_X3_tryCall l D cI cN t q _ r n x1 x2 v1.1 v1.2 hv1) (cwV 3 hts gX5_chainCall_X3_tryCall rfl rfl rfl (by decide +kernel) ⟨Nat.le_of_ble_eq_true rfl, Nat.le_of_ble_eq_true rfl⟩) hK hP hD hS hA rfl rfl rfl hl.1 rfl (Nat.le_of_ble_eq_true rfl) dX5_chainCall_10 ⟨Nat.zero_le _, Nat.zero_le _⟩ (fun H locs hP hD hS => ?_)
  refine lv_istore (lv' := [(4, .int v1.1), (0, .ref ka), (1, .int x1), (2, .int x2), (3, .int x3)]) hx hb dX5_chainCall_13 hl (by decide) rfl (fun ls hl => ?_)
  refine lv_iload hx hb dX5_chainCall_15 (lv_at hl 0 rfl) ?_
  refine lv_if_ge (tgt := 23) hx hb dX5_chainCall_17 (by decide) (fun c2 => ?_) (fun c2 => ?_)
  · have hf := it_t hf c2
    refine lv_iload_n hx hb dX5_chainCall_23 rfl (lv_at hl 4 rfl) ?_
    refine lv_if_ge (tgt := 30) hx hb dX5_chainCall_24 (by decide) (fun c3 => ?_) (fun c3 => ?_)
    · have hf := it_t hf c3
      refine lv_iload_n hx hb dX5_chainCall_30 rfl (lv_at hl 4 rfl) ?_
      refine lv_aload_n hx hb dX5_chainCall_31 rfl (lv_at hl 1 rfl) ?_
      refine va_get (D := D) (ci := 5) (v := .ref (t 0)) (C := RX5) (T := TX5) (N := 8) hx hb hts inX5 hown hK.1 hP 0 rfl rfl 4 (by decide) (hts (.fieldLink RX5 28 "ClosExchange" "router" "LClosExchange$Router;") (List.mem_of_getElem? (i := 1) rfl)) (fun _ h9 => h9) rfl dX5_chainCall_32 ?_
      refine va_get (D := D) (ci := 3) (v := .int (v1.2.1 1)) (C := RX3) (T := TX3) (N := 5) hx hb hts inX3 hown hK.1 hP 1 rfl rfl 1 (by decide) (hts (.fieldLink RX5 201 "ClosExchange$Router" "chainLength" "I") (List.mem_of_getElem? (i := 3) rfl)) (fun _ h9 => h9) rfl dX5_chainCall_35 ?_
      refine lv_icmp_ge (tgt := 65) hx hb dX5_chainCall_38 (by decide) (fun c4 => ?_) (fun c4 => ?_)
      · have hf := it_t hf c4
        refine lv_bipush (v := (-6 : Int32)) hx hb dX5_chainCall_65 kc_bipush_m6 ?_
        have e0 : (-6 : Int32) = r0 := congrArg (fun z => z.1) (Option.some.inj hf)
        have e1 : v1.2 = r' := congrArg (fun z => z.2) (Option.some.inj hf)
        subst e0
        subst e1
        exact hret H locs ls _ dX5_chainCall_67 rfl hP hD hS
      · have hf := it_f hf c4
        refine lv_aload_n hx hb dX5_chainCall_41 rfl (lv_at hl 1 rfl) ?_
        refine va_get (D := D) (ci := 5) (v := .ref (q 0)) (C := RX5) (T := TX5) (N := 8) hx hb hts inX5 hown hK.1 hP 0 rfl rfl 0 (by decide) (hts (.fieldLink RX5 12 "ClosExchange" "network" "LClosExchange$Network;") (List.mem_of_getElem? (i := 2) rfl)) (fun _ h9 => h9) rfl dX5_chainCall_42 ?_
        refine va_get (D := D) (ci := 1) (v := .ref (q 1)) (C := RX1) (T := TX1) (N := 16) hx hb hts inX1 hown hK.1 hP 6 rfl rfl 10 (by decide) (hts (.fieldLink RX5 127 "ClosExchange$Network" "numbers" "LClosExchange$Row;") (List.mem_of_getElem? (i := 4) rfl)) (fun _ h9 => h9) rfl dX5_chainCall_45 ?_
        refine lv_aload_n hx hb dX5_chainCall_48 rfl (lv_at hl 1 rfl) ?_
        refine va_get (D := D) (ci := 5) (v := .ref (t 0)) (C := RX5) (T := TX5) (N := 8) hx hb hts inX5 hown hK.1 hP 0 rfl rfl 4 (by decide) (hts (.fieldLink RX5 28 "ClosExchange" "router" "LClosExchange$Router;") (List.mem_of_getElem? (i := 1) rfl)) (fun _ h9 => h9) rfl dX5_chainCall_49 ?_
        refine va_get (D := D) (ci := 3) (v := .ref (t 1)) (C := RX3) (T := TX3) (N := 5) hx hb hts inX3 hown hK.1 hP 1 rfl rfl 0 (by decide) (hts (.fieldLink RX5 204 "ClosExchange$Router" "chain" "LClosExchange$Row;") (List.mem_of_getElem? (i := 5) rfl)) (fun _ h9 => h9) rfl dX5_chainCall_52 ?_
        refine lv_iload_n hx hb dX5_chainCall_55 rfl (lv_at hl 4 rfl) ?_
        refine cQi (As := [.int x3]) (rest := [.ref (q 1)]) (q0 := 2) (ci := 4) S (c_X4_get l D cI cN (t 1) (t 3) 16 (Nat.le_of_ble_eq_true rfl) _ (v1.2.2 0) x3) (cwV 1 hts gX5_chainCall_X4_get rfl rfl rfl (by decide +kernel) ⟨Nat.le_of_ble_eq_true rfl, Nat.le_of_ble_eq_true rfl⟩) hK hP hS hA (P_two (i0 := 2) (i1 := 4) hP rfl rfl) rfl rfl rfl hl.1 rfl (Nat.le_of_ble_eq_true rfl) dX5_chainCall_56 ⟨Nat.zero_le _, Nat.zero_le _⟩ (fun H locs hP hS => ?_)
        refine cQi (As := [.int (rget (v1.2.2 0) 16 x3)]) (rest := []) (q0 := 7) (ci := 4) S (c_X4_get l D cI cN (q 1) (q 7) 48 (Nat.le_of_ble_eq_true rfl) _ (n.2 0) (rget (v1.2.2 0) 16 x3)) (cwV 1 hts gX5_chainCall_X4_get rfl rfl rfl (by decide +kernel) ⟨Nat.le_of_ble_eq_true rfl, Nat.le_of_ble_eq_true rfl⟩) hK hP hS hA (P_two (i0 := 7) (i1 := 13) hP rfl rfl) rfl rfl rfl hl.1 rfl (Nat.le_of_ble_eq_true rfl) dX5_chainCall_59 ⟨Nat.zero_le _, Nat.zero_le _⟩ (fun H locs hP hS => ?_)
        refine lv_goto (tgt := 67) hx hb dX5_chainCall_62 (by decide) ?_
        have e0 : (rget (n.2 0) 48 (rget (v1.2.2 0) 16 x3)) = r0 := congrArg (fun z => z.1) (Option.some.inj hf)
        have e1 : v1.2 = r' := congrArg (fun z => z.2) (Option.some.inj hf)
        subst e0
        subst e1
        exact hret H locs ls _ dX5_chainCall_67 rfl hP hD hS
    · have hf := it_f hf c3
      refine lv_bipush (v := (-2 : Int32)) hx hb dX5_chainCall_27 kc_bipush_m2 ?_
      have e0 : (-2 : Int32) = r0 := congrArg (fun z => z.1) (Option.some.inj hf)
      have e1 : v1.2 = r' := congrArg (fun z => z.2) (Option.some.inj hf)
      subst e0
      subst e1
      exact hret H locs ls _ dX5_chainCall_29 rfl hP hD hS
  · have hf := it_f hf c2
    refine lv_iload hx hb dX5_chainCall_20 (lv_at hl 0 rfl) ?_
    have e0 : v1.1 = r0 := congrArg (fun z => z.1) (Option.some.inj hf)
    have e1 : v1.2 = r' := congrArg (fun z => z.2) (Option.some.inj hf)
    subst e0
    subst e1
    exact hret H locs ls _ dX5_chainCall_22 rfl hP hD hS
set_option maxRecDepth 100000 in
theorem c_X5_chainCall (l : Launch) (D : va_G) (cI cN : ClassId) (ka a1 a2 a3 a5 a6 : Nat) (t : Nat → Nat) (q : Nat → Nat) (sz : Nat) (kx : OS) (r : OS) (n : OS) (x1 : Int32) (x2 : Int32) (x3 : Int32) (r0 : Int32) (r' : OS) (hf : fX5_chainCall kx r n x1 x2 x3 = some (r0, r')) : CtI l D cI cN yX5_chainCall wsX5_chainCall rm_X5_chainCall 0 0 [.ref ka, .int x1, .int x2, .int x3] ((cxW ka (q 0) a1 a2 a3 (t 0) a5 a6 (kx.1 7)) ++ ((rtW cI t r) ++ (nwW cI q n))) sz r0 ((cxW ka (q 0) a1 a2 a3 (t 0) a5 a6 (kx.1 7)) ++ ((rtW cI t r') ++ (nwW cI q n))) := by
  refine mW (cc := cX5_chainCall) (maxL := 5) (ty := .int) (by decide) rfl rfl (Nat.le_of_ble_eq_true rfl) ?_
  intro p e s m args below meth c Q A S hK hP hD hS hA hret ls hl
  exact w_X5_chainCall_0 S hK hA hret hf _ _ _ hP hD hS (lv_sub (show lv_has ls 5 [(0, .ref ka), (1, .int x1), (2, .int x2), (3, .int x3)] from hl) [0, 1, 2, 3] rfl)
abbrev rm_X5_reason : Room := { frames := 2, cells := 0, slots := 0, locals := 45 }
theorem in_X5_reason_X1 : ∀ w ∈ u_ws RX1 TX1 16, w ∈ wsX5_reason := fun w h => List.mem_cons_of_mem _ (List.mem_append_left _ (List.mem_append_right _ h))
theorem in_X5_reason_X5 : ∀ w ∈ u_ws RX5 TX5 8, w ∈ wsX5_reason := fun w h => List.mem_cons_of_mem _ (List.mem_append_left _ (List.mem_append_left _ (List.mem_append_right _ h)))
set_option maxRecDepth 100000 in
set_option maxHeartbeats 4000000 in
theorem w_X5_reason_0 {p : Program} {l : Launch} {e : Env} {s : State} {m : MethodId} {args : Array Value} {below : List Frame} {meth : Method} {c : Code} {Q : State → Prop} {D : va_G} {cI cN : ClassId} {ka a1 a2 a3 a4 a5 a6 : Nat} {q : Nat → Nat} (S : CallFix p m c cX5_reason 5 s args wsX5_reason RX5) (hK : KN D cI cN s) {kx : OS} {n : OS} {x1 : Int32} {x2 : Int32} {r0 : Int32} (hret : ∀ (H : Heap) (locs : List Loc) (ls : Array Slot) (pc : Nat), decode cX5_reason pc = .ok (.ireturn, 1) → narrow .int (.int r0) = .int r0 → va_S (nwA s.heap.size) s.heap H locs → W p l e (headSpec wsX5_reason rm_X5_reason).room s m args below meth c H locs 0 0 Q (F0 m pc ls [.int r0])) (hf : fX5_reason kx n x1 x2 = some r0) (H : Heap) (locs : List Loc) (ls : Array Slot) (hP : va_P D vwCl ((cxW ka (q 0) a1 a2 a3 a4 a5 a6 (kx.1 7)) ++ (nwW cI q n)) H) (hS : va_S (nwA s.heap.size) s.heap H locs) (hl : lv_has ls 5 [(0, .ref ka), (1, .int x1), (2, .int x2)]) : W p l e (headSpec wsX5_reason rm_X5_reason).room s m args below meth c H locs 0 0 Q (F0 m 0 ls []) := by
  obtain ⟨hx, hb, hml, hown, hts⟩ := id S
  have inX1 := in_X5_reason_X1
  have inX5 := in_X5_reason_X5
  have hA : ∀ q : Nat, s.heap.size ≤ q → nwA s.heap.size q := fun _ h => h
  unfold fX5_reason at hf
  refine lv_aload_n hx hb dX5_reason_0 rfl (lv_at hl 0 rfl) ?_
  refine va_get (D := D) (ci := 5) (v := .ref (q 0)) (C := RX5) (T := TX5) (N := 8) hx hb hts inX5 hown hK.1 hP 0 rfl rfl 0 (by decide) (hts (.fieldLink RX5 12 "ClosExchange" "network" "LClosExchange$Network;") (List.mem_of_getElem? (i := 1) rfl)) (fun _ h9 => h9) rfl dX5_reason_1 ?_
  refine lv_iload_n hx hb dX5_reason_4 rfl (lv_at hl 1 rfl) ?_
  refine cQi (As := [.int x1]) (rest := []) (q0 := 1) (ci := 1) S (c_X1_isLine l D cI cN q _ n x1 (fX1_isLine n x1) rfl) (cwV 1 hts gX5_reason_X1_isLine rfl rfl rfl (by decide +kernel) ⟨Nat.le_of_ble_eq_true rfl, Nat.le_of_ble_eq_true rfl⟩) hK hP hS hA (P_sel [(false, (cxW ka (q 0) a1 a2 a3 a4 a5 a6 (kx.1 7)), (cxW ka (q 0) a1 a2 a3 a4 a5 a6 (kx.1 7))), (true, (nwW cI q n), (nwW cI q n))] hP) rfl rfl rfl hl.1 rfl (Nat.le_of_ble_eq_true rfl) dX5_reason_5 ⟨Nat.zero_le _, Nat.zero_le _⟩ (fun H locs hP hS => ?_)
  refine lv_if_eq (tgt := 22) hx hb dX5_reason_8 (by decide) (fun c1 => ?_) (fun c1 => ?_)
  · have hf := it_t hf c1
    refine lv_iconst (v := (-1 : Int32)) hx hb dX5_reason_22 kc_iconst_m1 ?_
    have e0 : (-1 : Int32) = r0 := (Option.some.inj hf)
    subst e0
    exact hret H locs ls _ dX5_reason_23 rfl hS
  · have hf := it_f hf c1
    refine lv_aload_n hx hb dX5_reason_11 rfl (lv_at hl 0 rfl) ?_
    refine va_get (D := D) (ci := 5) (v := .ref (q 0)) (C := RX5) (T := TX5) (N := 8) hx hb hts inX5 hown hK.1 hP 0 rfl rfl 0 (by decide) (hts (.fieldLink RX5 12 "ClosExchange" "network" "LClosExchange$Network;") (List.mem_of_getElem? (i := 1) rfl)) (fun _ h9 => h9) rfl dX5_reason_12 ?_
    refine lv_iload_n hx hb dX5_reason_15 rfl (lv_at hl 2 rfl) ?_
    refine cQi (As := [.int x2]) (rest := []) (q0 := 1) (ci := 1) S (c_X1_isLine l D cI cN q _ n x2 (fX1_isLine n x2) rfl) (cwV 1 hts gX5_reason_X1_isLine rfl rfl rfl (by decide +kernel) ⟨Nat.le_of_ble_eq_true rfl, Nat.le_of_ble_eq_true rfl⟩) hK hP hS hA (P_sel [(false, (cxW ka (q 0) a1 a2 a3 a4 a5 a6 (kx.1 7)), (cxW ka (q 0) a1 a2 a3 a4 a5 a6 (kx.1 7))), (true, (nwW cI q n), (nwW cI q n))] hP) rfl rfl rfl hl.1 rfl (Nat.le_of_ble_eq_true rfl) dX5_reason_16 ⟨Nat.zero_le _, Nat.zero_le _⟩ (fun H locs hP hS => ?_)
    refine lv_if_ne (tgt := 24) hx hb dX5_reason_19 (by decide) (fun c2 => ?_) (fun c2 => ?_)
    · have hf := it_f hf c2
      refine lv_aload_n hx hb dX5_reason_24 rfl (lv_at hl 0 rfl) ?_
      refine va_get (D := D) (ci := 5) (v := .ref (q 0)) (C := RX5) (T := TX5) (N := 8) hx hb hts inX5 hown hK.1 hP 0 rfl rfl 0 (by decide) (hts (.fieldLink RX5 12 "ClosExchange" "network" "LClosExchange$Network;") (List.mem_of_getElem? (i := 1) rfl)) (fun _ h9 => h9) rfl dX5_reason_25 ?_
      refine lv_iload_n hx hb dX5_reason_28 rfl (lv_at hl 1 rfl) ?_
      refine cQi (As := [.int x1]) (rest := []) (q0 := 1) (ci := 1) S (c_X1_isInletBusy l D cI cN q _ n x1 (fX1_isInletBusy n x1) rfl) (cwV 1 hts gX5_reason_X1_isInletBusy rfl rfl rfl (by decide +kernel) ⟨Nat.le_of_ble_eq_true rfl, Nat.le_of_ble_eq_true rfl⟩) hK hP hS hA (P_sel [(false, (cxW ka (q 0) a1 a2 a3 a4 a5 a6 (kx.1 7)), (cxW ka (q 0) a1 a2 a3 a4 a5 a6 (kx.1 7))), (true, (nwW cI q n), (nwW cI q n))] hP) rfl rfl rfl hl.1 rfl (Nat.le_of_ble_eq_true rfl) dX5_reason_29 ⟨Nat.zero_le _, Nat.zero_le _⟩ (fun H locs hP hS => ?_)
      refine lv_if_eq (tgt := 37) hx hb dX5_reason_32 (by decide) (fun c3 => ?_) (fun c3 => ?_)
      · have hf := it_t hf c3
        refine lv_aload_n hx hb dX5_reason_37 rfl (lv_at hl 0 rfl) ?_
        refine va_get (D := D) (ci := 5) (v := .ref (q 0)) (C := RX5) (T := TX5) (N := 8) hx hb hts inX5 hown hK.1 hP 0 rfl rfl 0 (by decide) (hts (.fieldLink RX5 12 "ClosExchange" "network" "LClosExchange$Network;") (List.mem_of_getElem? (i := 1) rfl)) (fun _ h9 => h9) rfl dX5_reason_38 ?_
        refine lv_iload_n hx hb dX5_reason_41 rfl (lv_at hl 2 rfl) ?_
        refine cQi (As := [.int x2]) (rest := []) (q0 := 1) (ci := 1) S (c_X1_isOutletBusy l D cI cN q _ n x2 (fX1_isOutletBusy n x2) rfl) (cwV 1 hts gX5_reason_X1_isOutletBusy rfl rfl rfl (by decide +kernel) ⟨Nat.le_of_ble_eq_true rfl, Nat.le_of_ble_eq_true rfl⟩) hK hP hS hA (P_sel [(false, (cxW ka (q 0) a1 a2 a3 a4 a5 a6 (kx.1 7)), (cxW ka (q 0) a1 a2 a3 a4 a5 a6 (kx.1 7))), (true, (nwW cI q n), (nwW cI q n))] hP) rfl rfl rfl hl.1 rfl (Nat.le_of_ble_eq_true rfl) dX5_reason_42 ⟨Nat.zero_le _, Nat.zero_le _⟩ (fun H locs hP hS => ?_)
        refine lv_if_eq (tgt := 50) hx hb dX5_reason_45 (by decide) (fun c4 => ?_) (fun c4 => ?_)
        · have hf := it_t hf c4
          refine lv_aload_n hx hb dX5_reason_50 rfl (lv_at hl 0 rfl) ?_
          refine va_get (D := D) (ci := 5) (v := .ref (q 0)) (C := RX5) (T := TX5) (N := 8) hx hb hts inX5 hown hK.1 hP 0 rfl rfl 0 (by decide) (hts (.fieldLink RX5 12 "ClosExchange" "network" "LClosExchange$Network;") (List.mem_of_getElem? (i := 1) rfl)) (fun _ h9 => h9) rfl dX5_reason_51 ?_
          refine lv_aload_n hx hb dX5_reason_54 rfl (lv_at hl 0 rfl) ?_
          refine va_get (D := D) (ci := 5) (v := .ref (q 0)) (C := RX5) (T := TX5) (N := 8) hx hb hts inX5 hown hK.1 hP 0 rfl rfl 0 (by decide) (hts (.fieldLink RX5 12 "ClosExchange" "network" "LClosExchange$Network;") (List.mem_of_getElem? (i := 1) rfl)) (fun _ h9 => h9) rfl dX5_reason_55 ?_
          refine va_get (D := D) (ci := 1) (v := .ref (q 5)) (C := RX1) (T := TX1) (N := 16) hx hb hts inX1 hown hK.1 hP 1 rfl rfl 14 (by decide) (hts (.fieldLink RX5 154 "ClosExchange$Network" "firstLinks" "LClosExchange$Row;") (List.mem_of_getElem? (i := 2) rfl)) (fun _ h9 => h9) rfl dX5_reason_58 ?_
          refine lv_aload_n hx hb dX5_reason_61 rfl (lv_at hl 0 rfl) ?_
          refine va_get (D := D) (ci := 5) (v := .ref (q 0)) (C := RX5) (T := TX5) (N := 8) hx hb hts inX5 hown hK.1 hP 0 rfl rfl 0 (by decide) (hts (.fieldLink RX5 12 "ClosExchange" "network" "LClosExchange$Network;") (List.mem_of_getElem? (i := 1) rfl)) (fun _ h9 => h9) rfl dX5_reason_62 ?_
          refine lv_iload_n hx hb dX5_reason_65 rfl (lv_at hl 1 rfl) ?_
          refine cQi (As := [.int x1]) (rest := [.ref (q 5), .ref (q 0)]) (q0 := 1) (ci := 1) S (c_X1_boardOf l D cI cN q _ n x1 (fX1_boardOf n x1) rfl) (cwV 1 hts gX5_reason_X1_boardOf rfl rfl rfl (by decide +kernel) ⟨Nat.le_of_ble_eq_true rfl, Nat.le_of_ble_eq_true rfl⟩) hK hP hS hA (P_sel [(false, (cxW ka (q 0) a1 a2 a3 a4 a5 a6 (kx.1 7)), (cxW ka (q 0) a1 a2 a3 a4 a5 a6 (kx.1 7))), (true, (nwW cI q n), (nwW cI q n))] hP) rfl rfl rfl hl.1 rfl (Nat.le_of_ble_eq_true rfl) dX5_reason_66 ⟨Nat.zero_le _, Nat.zero_le _⟩ (fun H locs hP hS => ?_)
          obtain ⟨v5, hv5, hf⟩ := it_b hf
          refine cQi (As := [.ref (q 5), .int (fX1_boardOf n x1)]) (rest := []) (q0 := 1) (ci := 1) S (c_X1_freeOnLinks4 l D cI cN q _ n (fX1_boardOf n x1) v5 hv5) (cwV 2 hts gX5_reason_X1_freeOnLinks rfl rfl rfl (by decide +kernel) ⟨Nat.le_of_ble_eq_true rfl, Nat.le_of_ble_eq_true rfl⟩) hK hP hS hA (P_sel [(false, (cxW ka (q 0) a1 a2 a3 a4 a5 a6 (kx.1 7)), (cxW ka (q 0) a1 a2 a3 a4 a5 a6 (kx.1 7))), (true, (nwW cI q n), (nwW cI q n))] hP) rfl rfl rfl hl.1 rfl (Nat.le_of_ble_eq_true rfl) dX5_reason_69 ⟨Nat.zero_le _, Nat.zero_le _⟩ (fun H locs hP hS => ?_)
          refine lv_istore_n (lv' := [(3, .int v5), (0, .ref ka), (1, .int x1), (2, .int x2)]) hx hb dX5_reason_72 rfl hl (by decide) rfl (fun ls hl => ?_)
          refine lv_aload_n hx hb dX5_reason_73 rfl (lv_at hl 1 rfl) ?_
          refine va_get (D := D) (ci := 5) (v := .ref (q 0)) (C := RX5) (T := TX5) (N := 8) hx hb hts inX5 hown hK.1 hP 0 rfl rfl 0 (by decide) (hts (.fieldLink RX5 12 "ClosExchange" "network" "LClosExchange$Network;") (List.mem_of_getElem? (i := 1) rfl)) (fun _ h9 => h9) rfl dX5_reason_74 ?_
          refine lv_aload_n hx hb dX5_reason_77 rfl (lv_at hl 1 rfl) ?_
          refine va_get (D := D) (ci := 5) (v := .ref (q 0)) (C := RX5) (T := TX5) (N := 8) hx hb hts inX5 hown hK.1 hP 0 rfl rfl 0 (by decide) (hts (.fieldLink RX5 12 "ClosExchange" "network" "LClosExchange$Network;") (List.mem_of_getElem? (i := 1) rfl)) (fun _ h9 => h9) rfl dX5_reason_78 ?_
          refine va_get (D := D) (ci := 1) (v := .ref (q 6)) (C := RX1) (T := TX1) (N := 16) hx hb hts inX1 hown hK.1 hP 1 rfl rfl 15 (by decide) (hts (.fieldLink RX5 161 "ClosExchange$Network" "lastLinks" "LClosExchange$Row;") (List.mem_of_getElem? (i := 3) rfl)) (fun _ h9 => h9) rfl dX5_reason_81 ?_
          refine lv_aload_n hx hb dX5_reason_84 rfl (lv_at hl 1 rfl) ?_
          refine va_get (D := D) (ci := 5) (v := .ref (q 0)) (C := RX5) (T := TX5) (N := 8) hx hb hts inX5 hown hK.1 hP 0 rfl rfl 0 (by decide) (hts (.fieldLink RX5 12 "ClosExchange" "network" "LClosExchange$Network;") (List.mem_of_getElem? (i := 1) rfl)) (fun _ h9 => h9) rfl dX5_reason_85 ?_
          refine lv_iload_n hx hb dX5_reason_88 rfl (lv_at hl 3 rfl) ?_
          refine cQi (As := [.int x2]) (rest := [.ref (q 6), .ref (q 0)]) (q0 := 1) (ci := 1) S (c_X1_boardOf l D cI cN q _ n x2 (fX1_boardOf n x2) rfl) (cwV 1 hts gX5_reason_X1_boardOf rfl rfl rfl (by decide +kernel) ⟨Nat.le_of_ble_eq_true rfl, Nat.le_of_ble_eq_true rfl⟩) hK hP hS hA (P_sel [(false, (cxW ka (q 0) a1 a2 a3 a4 a5 a6 (kx.1 7)), (cxW ka (q 0) a1 a2 a3 a4 a5 a6 (kx.1 7))), (true, (nwW cI q n), (nwW cI q n))] hP) rfl rfl rfl hl.1 rfl (Nat.le_of_ble_eq_true rfl) dX5_reason_89 ⟨Nat.zero_le _, Nat.zero_le _⟩ (fun H locs hP hS => ?_)
          obtain ⟨v6, hv6, hf⟩ := it_b hf
          refine cQi (As := [.ref (q 6), .int (fX1_boardOf n x2)]) (rest := []) (q0 := 1) (ci := 1) S (c_X1_freeOnLinks5 l D cI cN q _ n (fX1_boardOf n x2) v6 hv6) (cwV 2 hts gX5_reason_X1_freeOnLinks rfl rfl rfl (by decide +kernel) ⟨Nat.le_of_ble_eq_true rfl, Nat.le_of_ble_eq_true rfl⟩) hK hP hS hA (P_sel [(false, (cxW ka (q 0) a1 a2 a3 a4 a5 a6 (kx.1 7)), (cxW ka (q 0) a1 a2 a3 a4 a5 a6 (kx.1 7))), (true, (nwW cI q n), (nwW cI q n))] hP) rfl rfl rfl hl.1 rfl (Nat.le_of_ble_eq_true rfl) dX5_reason_92 ⟨Nat.zero_le _, Nat.zero_le _⟩ (fun H locs hP hS => ?_)
          refine lv_istore (lv' := [(4, .int v6), (3, .int v5), (0, .ref ka), (1, .int x1), (2, .int x2)]) hx hb dX5_reason_95 hl (by decide) rfl (fun ls hl => ?_)
          refine lv_iload_n hx hb dX5_reason_97 rfl (lv_at hl 1 rfl) ?_
          refine lv_if_ne (tgt := 103) hx hb dX5_reason_98 (by decide) (fun c7 => ?_) (fun c7 => ?_)
          · have hf := it_f hf c7
            refine lv_iload hx hb dX5_reason_103 (lv_at hl 0 rfl) ?_
            refine lv_if_ne (tgt := 110) hx hb dX5_reason_105 (by decide) (fun c8 => ?_) (fun c8 => ?_)
            · have hf := it_f hf c8
              refine lv_iload_n hx hb dX5_reason_110 rfl (lv_at hl 1 rfl) ?_
              refine lv_iload hx hb dX5_reason_111 (lv_at hl 0 rfl) ?_
              refine lv_iand hx hb dX5_reason_113 ?_
              refine lv_if_eq (tgt := 121) hx hb dX5_reason_114 (by decide) (fun c9 => ?_) (fun c9 => ?_)
              · have hf := it_t hf c9
                refine lv_iconst (v := (1 : Int32)) hx hb dX5_reason_121 kc_iconst_1 ?_
                have e0 : (1 : Int32) = r0 := (Option.some.inj hf)
                subst e0
                exact hret H locs ls _ dX5_reason_122 rfl hS
              · have hf := it_f hf c9
                refine lv_iconst (v := (0 : Int32)) hx hb dX5_reason_117 kc_iconst_0 ?_
                refine lv_goto (tgt := 122) hx hb dX5_reason_118 (by decide) ?_
                have e0 : (0 : Int32) = r0 := (Option.some.inj hf)
                subst e0
                exact hret H locs ls _ dX5_reason_122 rfl hS
            · have hf := it_t hf c8
              refine lv_iconst (v := (5 : Int32)) hx hb dX5_reason_108 kc_iconst_5 ?_
              have e0 : (5 : Int32) = r0 := (Option.some.inj hf)
              subst e0
              exact hret H locs ls _ dX5_reason_109 rfl hS
          · have hf := it_t hf c7
            refine lv_iconst (v := (4 : Int32)) hx hb dX5_reason_101 kc_iconst_4 ?_
            have e0 : (4 : Int32) = r0 := (Option.some.inj hf)
            subst e0
            exact hret H locs ls _ dX5_reason_102 rfl hS
        · have hf := it_f hf c4
          refine lv_iconst (v := (3 : Int32)) hx hb dX5_reason_48 kc_iconst_3 ?_
          have e0 : (3 : Int32) = r0 := (Option.some.inj hf)
          subst e0
          exact hret H locs ls _ dX5_reason_49 rfl hS
      · have hf := it_f hf c3
        refine lv_iconst (v := (2 : Int32)) hx hb dX5_reason_35 kc_iconst_2 ?_
        have e0 : (2 : Int32) = r0 := (Option.some.inj hf)
        subst e0
        exact hret H locs ls _ dX5_reason_36 rfl hS
    · have hf := it_t hf c2
      refine lv_iconst (v := (-1 : Int32)) hx hb dX5_reason_22 kc_iconst_m1 ?_
      have e0 : (-1 : Int32) = r0 := (Option.some.inj hf)
      subst e0
      exact hret H locs ls _ dX5_reason_23 rfl hS
set_option maxRecDepth 100000 in
theorem c_X5_reason (l : Launch) (D : va_G) (cI cN : ClassId) (ka a1 a2 a3 a4 a5 a6 : Nat) (q : Nat → Nat) (sz : Nat) (kx : OS) (n : OS) (x1 : Int32) (x2 : Int32) (r0 : Int32) (hf : fX5_reason kx n x1 x2 = some r0) : CtP l D cI cN yX5_reason wsX5_reason rm_X5_reason [.ref ka, .int x1, .int x2] ((cxW ka (q 0) a1 a2 a3 a4 a5 a6 (kx.1 7)) ++ (nwW cI q n)) sz r0 := by
  refine mP (cc := cX5_reason) (maxL := 5) (ty := .int) (by decide) rfl rfl (Nat.le_of_ble_eq_true rfl) ?_
  intro p e s m args below meth c Q S hK hP hS hret ls hl
  exact w_X5_reason_0 S hK hret hf _ _ _ hP hS (lv_sub (show lv_has ls 5 [(0, .ref ka), (1, .int x1), (2, .int x2)] from hl) [0, 1, 2] rfl)
abbrev rm_X5_leastMiddles : Room := { frames := 3, cells := 0, slots := 0, locals := 67 }
theorem in_X5_leastMiddles_X5 : ∀ w ∈ u_ws RX5 TX5 8, w ∈ wsX5_leastMiddles := fun w h => List.mem_cons_of_mem _ (List.mem_append_left _ (List.mem_append_left _ (List.mem_append_right _ h)))
set_option maxRecDepth 100000 in
set_option maxHeartbeats 4000000 in
theorem w_X5_leastMiddles_0 {p : Program} {l : Launch} {e : Env} {s : State} {m : MethodId} {args : Array Value} {below : List Frame} {meth : Method} {c : Code} {Q : State → Prop} {D : va_G} {cI cN : ClassId} {ka a1 a2 a3 a4 a5 a6 : Nat} {q : Nat → Nat} (S : CallFix p m c cX5_leastMiddles 1 s args wsX5_leastMiddles RX5) (hK : KN D cI cN s) {kx : OS} {n : OS} {r0 : Int32} (hret : ∀ (H : Heap) (locs : List Loc) (ls : Array Slot) (pc : Nat), decode cX5_leastMiddles pc = .ok (.ireturn, 1) → narrow .int (.int r0) = .int r0 → va_S (nwA s.heap.size) s.heap H locs → W p l e (headSpec wsX5_leastMiddles rm_X5_leastMiddles).room s m args below meth c H locs 0 0 Q (F0 m pc ls [.int r0])) (hf : fX5_leastMiddles kx n = some r0) (H : Heap) (locs : List Loc) (ls : Array Slot) (hP : va_P D vwCl ((cxW ka (q 0) a1 a2 a3 a4 a5 a6 (kx.1 7)) ++ (nwW cI q n)) H) (hS : va_S (nwA s.heap.size) s.heap H locs) (hl : lv_has ls 1 [(0, .ref ka)]) : W p l e (headSpec wsX5_leastMiddles rm_X5_leastMiddles).room s m args below meth c H locs 0 0 Q (F0 m 0 ls []) := by
  obtain ⟨hx, hb, hml, hown, hts⟩ := id S
  have inX5 := in_X5_leastMiddles_X5
  have hA : ∀ q : Nat, s.heap.size ≤ q → nwA s.heap.size q := fun _ h => h
  unfold fX5_leastMiddles at hf
  refine lv_aload_n hx hb dX5_leastMiddles_0 rfl (lv_at hl 0 rfl) ?_
  refine va_get (D := D) (ci := 5) (v := .ref (q 0)) (C := RX5) (T := TX5) (N := 8) hx hb hts inX5 hown hK.1 hP 0 rfl rfl 0 (by decide) (hts (.fieldLink RX5 12 "ClosExchange" "network" "LClosExchange$Network;") (List.mem_of_getElem? (i := 1) rfl)) (fun _ h9 => h9) rfl dX5_leastMiddles_1 ?_
  obtain ⟨v1, hv1, hf⟩ := it_b hf
  refine cQi (As := []) (rest := []) (q0 := 1) (ci := 1) S (c_X1_fullestBoard l D cI cN q _ n v1 hv1) (cwV 0 hts gX5_leastMiddles_X1_fullestBoard rfl rfl rfl (by decide +kernel) ⟨Nat.le_of_ble_eq_true rfl, Nat.le_of_ble_eq_true rfl⟩) hK hP hS hA (P_sel [(false, (cxW ka (q 0) a1 a2 a3 a4 a5 a6 (kx.1 7)), (cxW ka (q 0) a1 a2 a3 a4 a5 a6 (kx.1 7))), (true, (nwW cI q n), (nwW cI q n))] hP) rfl rfl rfl hl.1 rfl (Nat.le_of_ble_eq_true rfl) dX5_leastMiddles_4 ⟨Nat.zero_le _, Nat.zero_le _⟩ (fun H locs hP hS => ?_)
  have e0 : v1 = r0 := (Option.some.inj hf)
  subst e0
  exact hret H locs ls _ dX5_leastMiddles_7 rfl hS
set_option maxRecDepth 100000 in
theorem c_X5_leastMiddles (l : Launch) (D : va_G) (cI cN : ClassId) (ka a1 a2 a3 a4 a5 a6 : Nat) (q : Nat → Nat) (sz : Nat) (kx : OS) (n : OS) (r0 : Int32) (hf : fX5_leastMiddles kx n = some r0) : CtP l D cI cN yX5_leastMiddles wsX5_leastMiddles rm_X5_leastMiddles [.ref ka] ((cxW ka (q 0) a1 a2 a3 a4 a5 a6 (kx.1 7)) ++ (nwW cI q n)) sz r0 := by
  refine mP (cc := cX5_leastMiddles) (maxL := 1) (ty := .int) (by decide) rfl rfl (Nat.le_of_ble_eq_true rfl) ?_
  intro p e s m args below meth c Q S hK hP hS hret ls hl
  exact w_X5_leastMiddles_0 S hK hret hf _ _ _ hP hS (lv_sub (show lv_has ls 1 [(0, .ref ka)] from hl) [0] rfl)
abbrev rm_X5_reachable : Room := { frames := 2, cells := 0, slots := 0, locals := 45 }
theorem in_X5_reachable_X1 : ∀ w ∈ u_ws RX1 TX1 16, w ∈ wsX5_reachable := fun w h => List.mem_cons_of_mem _ (List.mem_append_left _ (List.mem_append_right _ h))
theorem in_X5_reachable_X5 : ∀ w ∈ u_ws RX5 TX5 8, w ∈ wsX5_reachable := fun w h => List.mem_cons_of_mem _ (List.mem_append_left _ (List.mem_append_left _ (List.mem_append_right _ h)))
set_option maxRecDepth 100000 in
set_option maxHeartbeats 4000000 in
theorem w_X5_reachable_55 {p : Program} {l : Launch} {e : Env} {s : State} {m : MethodId} {args : Array Value} {below : List Frame} {meth : Method} {c : Code} {Q : State → Prop} {D : va_G} {cI cN : ClassId} {ka a1 a2 a3 a4 a5 a6 : Nat} {q : Nat → Nat} (S : CallFix p m c cX5_reachable 6 s args wsX5_reachable RX5) (hK : KN D cI cN s) {kx : OS} {n : OS} {x2 : Int32} {r0 : Int32} (hret : ∀ (H : Heap) (locs : List Loc) (ls : Array Slot) (pc : Nat), decode cX5_reachable pc = .ok (.ireturn, 1) → narrow .int (.int r0) = .int r0 → va_S (nwA s.heap.size) s.heap H locs → W p l e (headSpec wsX5_reachable rm_X5_reachable).room s m args below meth c H locs 0 0 Q (F0 m pc ls [.int r0])) : ∀ (k : Nat) (x3 : Int32) (x4 : Int32), fX5_reachable_55 kx n x2 k x3 x4 = some r0 → ∀ (H : Heap) (locs : List Loc) (ls : Array Slot), va_P D vwCl ((cxW ka (q 0) a1 a2 a3 a4 a5 a6 (kx.1 7)) ++ (nwW cI q n)) H → va_S (nwA s.heap.size) s.heap H locs → lv_has ls 6 [(0, .ref ka), (2, .int x2), (3, .int x3), (4, .int x4)] → W p l e (headSpec wsX5_reachable rm_X5_reachable).room s m args below meth c H locs 0 0 Q (F0 m 55 ls []) := by
  obtain ⟨hx, hb, hml, hown, hts⟩ := id S
  have inX1 := in_X5_reachable_X1
  have inX5 := in_X5_reachable_X5
  have hA : ∀ q : Nat, s.heap.size ≤ q → nwA s.heap.size q := fun _ h => h
  intro k
  induction k with
  | zero => intro x3 x4 hf; rw [fX5_reachable_55_z] at hf; cases hf
  | succ k ih =>
    intro x3 x4 hf H locs ls hP hS hl
    rw [fX5_reachable_55_s] at hf
    refine lv_iload hx hb dX5_reachable_55 (lv_at hl 3 rfl) ?_
    refine lv_bipush (v := (48 : Int32)) hx hb dX5_reachable_57 kc_bipush_48 ?_
    refine lv_icmp_ge (tgt := 132) hx hb dX5_reachable_59 (by decide) (fun c4 => ?_) (fun c4 => ?_)
    · have hf := it_t hf c4
      refine lv_iload_n hx hb dX5_reachable_132 rfl (lv_at hl 2 rfl) ?_
      have e0 : x3 = r0 := (Option.some.inj hf)
      subst e0
      exact hret H locs ls _ dX5_reachable_133 rfl hS
    · have hf := it_f hf c4
      refine lv_aload_n hx hb dX5_reachable_62 rfl (lv_at hl 0 rfl) ?_
      refine va_get (D := D) (ci := 5) (v := .ref (q 0)) (C := RX5) (T := TX5) (N := 8) hx hb hts inX5 hown hK.1 hP 0 rfl rfl 0 (by decide) (hts (.fieldLink RX5 12 "ClosExchange" "network" "LClosExchange$Network;") (List.mem_of_getElem? (i := 1) rfl)) (fun _ h9 => h9) rfl dX5_reachable_63 ?_
      refine lv_iload hx hb dX5_reachable_66 (lv_at hl 3 rfl) ?_
      refine cQi (As := [.int x4]) (rest := []) (q0 := 1) (ci := 1) S (c_X1_isLine l D cI cN q _ n x4 (fX1_isLine n x4) rfl) (cwV 1 hts gX5_reachable_X1_isLine rfl rfl rfl (by decide +kernel) ⟨Nat.le_of_ble_eq_true rfl, Nat.le_of_ble_eq_true rfl⟩) hK hP hS hA (P_sel [(false, (cxW ka (q 0) a1 a2 a3 a4 a5 a6 (kx.1 7)), (cxW ka (q 0) a1 a2 a3 a4 a5 a6 (kx.1 7))), (true, (nwW cI q n), (nwW cI q n))] hP) rfl rfl rfl hl.1 rfl (Nat.le_of_ble_eq_true rfl) dX5_reachable_68 ⟨Nat.zero_le _, Nat.zero_le _⟩ (fun H locs hP hS => ?_)
      refine lv_if_eq (tgt := 126) hx hb dX5_reachable_71 (by decide) (fun c5 => ?_) (fun c5 => ?_)
      · have hf := it_t hf c5
        refine lv_iinc (v := (x4 + (1 : Int32))) (lv' := [(4, .int (x4 + (1 : Int32))), (0, .ref ka), (2, .int x2), (3, .int x3)]) hx hb dX5_reachable_126 hl (k := 3) rfl rfl (by decide) rfl (fun ls hl => ?_)
        refine lv_goto (tgt := 55) hx hb dX5_reachable_129 (by decide) ?_
        exact ih _ _ hf H locs ls hP hS (lv_sub hl [1, 2, 3, 0] rfl)
      · have hf := it_f hf c5
        refine lv_aload_n hx hb dX5_reachable_74 rfl (lv_at hl 0 rfl) ?_
        refine va_get (D := D) (ci := 5) (v := .ref (q 0)) (C := RX5) (T := TX5) (N := 8) hx hb hts inX5 hown hK.1 hP 0 rfl rfl 0 (by decide) (hts (.fieldLink RX5 12 "ClosExchange" "network" "LClosExchange$Network;") (List.mem_of_getElem? (i := 1) rfl)) (fun _ h9 => h9) rfl dX5_reachable_75 ?_
        refine lv_iload hx hb dX5_reachable_78 (lv_at hl 3 rfl) ?_
        refine cQi (As := [.int x4]) (rest := []) (q0 := 1) (ci := 1) S (c_X1_isOutletBusy l D cI cN q _ n x4 (fX1_isOutletBusy n x4) rfl) (cwV 1 hts gX5_reachable_X1_isOutletBusy rfl rfl rfl (by decide +kernel) ⟨Nat.le_of_ble_eq_true rfl, Nat.le_of_ble_eq_true rfl⟩) hK hP hS hA (P_sel [(false, (cxW ka (q 0) a1 a2 a3 a4 a5 a6 (kx.1 7)), (cxW ka (q 0) a1 a2 a3 a4 a5 a6 (kx.1 7))), (true, (nwW cI q n), (nwW cI q n))] hP) rfl rfl rfl hl.1 rfl (Nat.le_of_ble_eq_true rfl) dX5_reachable_80 ⟨Nat.zero_le _, Nat.zero_le _⟩ (fun H locs hP hS => ?_)
        refine lv_if_ne (tgt := 126) hx hb dX5_reachable_83 (by decide) (fun c6 => ?_) (fun c6 => ?_)
        · have hf := it_f hf c6
          refine lv_iinc (v := (x4 + (1 : Int32))) (lv' := [(4, .int (x4 + (1 : Int32))), (0, .ref ka), (2, .int x2), (3, .int x3)]) hx hb dX5_reachable_126 hl (k := 3) rfl rfl (by decide) rfl (fun ls hl => ?_)
          refine lv_goto (tgt := 55) hx hb dX5_reachable_129 (by decide) ?_
          exact ih _ _ hf H locs ls hP hS (lv_sub hl [1, 2, 3, 0] rfl)
        · have hf := it_t hf c6
          refine lv_aload_n hx hb dX5_reachable_86 rfl (lv_at hl 0 rfl) ?_
          refine va_get (D := D) (ci := 5) (v := .ref (q 0)) (C := RX5) (T := TX5) (N := 8) hx hb hts inX5 hown hK.1 hP 0 rfl rfl 0 (by decide) (hts (.fieldLink RX5 12 "ClosExchange" "network" "LClosExchange$Network;") (List.mem_of_getElem? (i := 1) rfl)) (fun _ h9 => h9) rfl dX5_reachable_87 ?_
          refine lv_aload_n hx hb dX5_reachable_90 rfl (lv_at hl 0 rfl) ?_
          refine va_get (D := D) (ci := 5) (v := .ref (q 0)) (C := RX5) (T := TX5) (N := 8) hx hb hts inX5 hown hK.1 hP 0 rfl rfl 0 (by decide) (hts (.fieldLink RX5 12 "ClosExchange" "network" "LClosExchange$Network;") (List.mem_of_getElem? (i := 1) rfl)) (fun _ h9 => h9) rfl dX5_reachable_91 ?_
          refine va_get (D := D) (ci := 1) (v := .ref (q 6)) (C := RX1) (T := TX1) (N := 16) hx hb hts inX1 hown hK.1 hP 1 rfl rfl 15 (by decide) (hts (.fieldLink RX5 161 "ClosExchange$Network" "lastLinks" "LClosExchange$Row;") (List.mem_of_getElem? (i := 3) rfl)) (fun _ h9 => h9) rfl dX5_reachable_94 ?_
          refine lv_aload_n hx hb dX5_reachable_97 rfl (lv_at hl 0 rfl) ?_
          refine va_get (D := D) (ci := 5) (v := .ref (q 0)) (C := RX5) (T := TX5) (N := 8) hx hb hts inX5 hown hK.1 hP 0 rfl rfl 0 (by decide) (hts (.fieldLink RX5 12 "ClosExchange" "network" "LClosExchange$Network;") (List.mem_of_getElem? (i := 1) rfl)) (fun _ h9 => h9) rfl dX5_reachable_98 ?_
          refine lv_iload hx hb dX5_reachable_101 (lv_at hl 3 rfl) ?_
          refine cQi (As := [.int x4]) (rest := [.ref (q 6), .ref (q 0)]) (q0 := 1) (ci := 1) S (c_X1_boardOf l D cI cN q _ n x4 (fX1_boardOf n x4) rfl) (cwV 1 hts gX5_reachable_X1_boardOf rfl rfl rfl (by decide +kernel) ⟨Nat.le_of_ble_eq_true rfl, Nat.le_of_ble_eq_true rfl⟩) hK hP hS hA (P_sel [(false, (cxW ka (q 0) a1 a2 a3 a4 a5 a6 (kx.1 7)), (cxW ka (q 0) a1 a2 a3 a4 a5 a6 (kx.1 7))), (true, (nwW cI q n), (nwW cI q n))] hP) rfl rfl rfl hl.1 rfl (Nat.le_of_ble_eq_true rfl) dX5_reachable_103 ⟨Nat.zero_le _, Nat.zero_le _⟩ (fun H locs hP hS => ?_)
          obtain ⟨v7, hv7, hf⟩ := it_b hf
          refine cQi (As := [.ref (q 6), .int (fX1_boardOf n x4)]) (rest := []) (q0 := 1) (ci := 1) S (c_X1_freeOnLinks5 l D cI cN q _ n (fX1_boardOf n x4) v7 hv7) (cwV 2 hts gX5_reachable_X1_freeOnLinks rfl rfl rfl (by decide +kernel) ⟨Nat.le_of_ble_eq_true rfl, Nat.le_of_ble_eq_true rfl⟩) hK hP hS hA (P_sel [(false, (cxW ka (q 0) a1 a2 a3 a4 a5 a6 (kx.1 7)), (cxW ka (q 0) a1 a2 a3 a4 a5 a6 (kx.1 7))), (true, (nwW cI q n), (nwW cI q n))] hP) rfl rfl rfl hl.1 rfl (Nat.le_of_ble_eq_true rfl) dX5_reachable_106 ⟨Nat.zero_le _, Nat.zero_le _⟩ (fun H locs hP hS => ?_)
          refine lv_istore (lv' := [(5, .int v7), (0, .ref ka), (2, .int x2), (3, .int x3), (4, .int x4)]) hx hb dX5_reachable_109 hl (by decide) rfl (fun ls hl => ?_)
          refine lv_iload_n hx hb dX5_reachable_111 rfl (lv_at hl 3 rfl) ?_
          refine lv_iload_n hx hb dX5_reachable_112 rfl (lv_at hl 2 rfl) ?_
          refine lv_iload hx hb dX5_reachable_113 (lv_at hl 0 rfl) ?_
          refine lv_iand hx hb dX5_reachable_115 ?_
          refine lv_if_eq (tgt := 123) hx hb dX5_reachable_116 (by decide) (fun c8 => ?_) (fun c8 => ?_)
          · have hf := it_t hf c8
            refine lv_iconst (v := (0 : Int32)) hx hb dX5_reachable_123 kc_iconst_0 ?_
            refine lv_iadd hx hb dX5_reachable_124 ?_
            refine lv_istore_n (lv' := [(3, .int (x3 + (0 : Int32))), (5, .int v7), (0, .ref ka), (2, .int x2), (4, .int x4)]) hx hb dX5_reachable_125 rfl hl (by decide) rfl (fun ls hl => ?_)
            refine lv_iinc (v := (x4 + (1 : Int32))) (lv' := [(4, .int (x4 + (1 : Int32))), (3, .int (x3 + (0 : Int32))), (5, .int v7), (0, .ref ka), (2, .int x2)]) hx hb dX5_reachable_126 hl (k := 4) rfl rfl (by decide) rfl (fun ls hl => ?_)
            refine lv_goto (tgt := 55) hx hb dX5_reachable_129 (by decide) ?_
            exact ih _ _ hf H locs ls hP hS (lv_sub hl [3, 4, 1, 0] rfl)
          · have hf := it_f hf c8
            refine lv_iconst (v := (1 : Int32)) hx hb dX5_reachable_119 kc_iconst_1 ?_
            refine lv_goto (tgt := 124) hx hb dX5_reachable_120 (by decide) ?_
            refine lv_iadd hx hb dX5_reachable_124 ?_
            refine lv_istore_n (lv' := [(3, .int (x3 + (1 : Int32))), (5, .int v7), (0, .ref ka), (2, .int x2), (4, .int x4)]) hx hb dX5_reachable_125 rfl hl (by decide) rfl (fun ls hl => ?_)
            refine lv_iinc (v := (x4 + (1 : Int32))) (lv' := [(4, .int (x4 + (1 : Int32))), (3, .int (x3 + (1 : Int32))), (5, .int v7), (0, .ref ka), (2, .int x2)]) hx hb dX5_reachable_126 hl (k := 4) rfl rfl (by decide) rfl (fun ls hl => ?_)
            refine lv_goto (tgt := 55) hx hb dX5_reachable_129 (by decide) ?_
            exact ih _ _ hf H locs ls hP hS (lv_sub hl [3, 4, 1, 0] rfl)
set_option maxRecDepth 100000 in
set_option maxHeartbeats 4000000 in
theorem w_X5_reachable_0 {p : Program} {l : Launch} {e : Env} {s : State} {m : MethodId} {args : Array Value} {below : List Frame} {meth : Method} {c : Code} {Q : State → Prop} {D : va_G} {cI cN : ClassId} {ka a1 a2 a3 a4 a5 a6 : Nat} {q : Nat → Nat} (S : CallFix p m c cX5_reachable 6 s args wsX5_reachable RX5) (hK : KN D cI cN s) {kx : OS} {n : OS} {x1 : Int32} {r0 : Int32} (hret : ∀ (H : Heap) (locs : List Loc) (ls : Array Slot) (pc : Nat), decode cX5_reachable pc = .ok (.ireturn, 1) → narrow .int (.int r0) = .int r0 → va_S (nwA s.heap.size) s.heap H locs → W p l e (headSpec wsX5_reachable rm_X5_reachable).room s m args below meth c H locs 0 0 Q (F0 m pc ls [.int r0])) (hf : fX5_reachable kx n x1 = some r0) (H : Heap) (locs : List Loc) (ls : Array Slot) (hP : va_P D vwCl ((cxW ka (q 0) a1 a2 a3 a4 a5 a6 (kx.1 7)) ++ (nwW cI q n)) H) (hS : va_S (nwA s.heap.size) s.heap H locs) (hl : lv_has ls 6 [(0, .ref ka), (1, .int x1)]) : W p l e (headSpec wsX5_reachable rm_X5_reachable).room s m args below meth c H locs 0 0 Q (F0 m 0 ls []) := by
  obtain ⟨hx, hb, hml, hown, hts⟩ := id S
  have inX1 := in_X5_reachable_X1
  have inX5 := in_X5_reachable_X5
  have hA : ∀ q : Nat, s.heap.size ≤ q → nwA s.heap.size q := fun _ h => h
  unfold fX5_reachable at hf
  refine lv_aload_n hx hb dX5_reachable_0 rfl (lv_at hl 0 rfl) ?_
  refine va_get (D := D) (ci := 5) (v := .ref (q 0)) (C := RX5) (T := TX5) (N := 8) hx hb hts inX5 hown hK.1 hP 0 rfl rfl 0 (by decide) (hts (.fieldLink RX5 12 "ClosExchange" "network" "LClosExchange$Network;") (List.mem_of_getElem? (i := 1) rfl)) (fun _ h9 => h9) rfl dX5_reachable_1 ?_
  refine lv_iload_n hx hb dX5_reachable_4 rfl (lv_at hl 1 rfl) ?_
  refine cQi (As := [.int x1]) (rest := []) (q0 := 1) (ci := 1) S (c_X1_isLine l D cI cN q _ n x1 (fX1_isLine n x1) rfl) (cwV 1 hts gX5_reachable_X1_isLine rfl rfl rfl (by decide +kernel) ⟨Nat.le_of_ble_eq_true rfl, Nat.le_of_ble_eq_true rfl⟩) hK hP hS hA (P_sel [(false, (cxW ka (q 0) a1 a2 a3 a4 a5 a6 (kx.1 7)), (cxW ka (q 0) a1 a2 a3 a4 a5 a6 (kx.1 7))), (true, (nwW cI q n), (nwW cI q n))] hP) rfl rfl rfl hl.1 rfl (Nat.le_of_ble_eq_true rfl) dX5_reachable_5 ⟨Nat.zero_le _, Nat.zero_le _⟩ (fun H locs hP hS => ?_)
  refine lv_if_ne (tgt := 13) hx hb dX5_reachable_8 (by decide) (fun c1 => ?_) (fun c1 => ?_)
  · have hf := it_f hf c1
    refine lv_aload_n hx hb dX5_reachable_13 rfl (lv_at hl 0 rfl) ?_
    refine va_get (D := D) (ci := 5) (v := .ref (q 0)) (C := RX5) (T := TX5) (N := 8) hx hb hts inX5 hown hK.1 hP 0 rfl rfl 0 (by decide) (hts (.fieldLink RX5 12 "ClosExchange" "network" "LClosExchange$Network;") (List.mem_of_getElem? (i := 1) rfl)) (fun _ h9 => h9) rfl dX5_reachable_14 ?_
    refine lv_iload_n hx hb dX5_reachable_17 rfl (lv_at hl 1 rfl) ?_
    refine cQi (As := [.int x1]) (rest := []) (q0 := 1) (ci := 1) S (c_X1_isInletBusy l D cI cN q _ n x1 (fX1_isInletBusy n x1) rfl) (cwV 1 hts gX5_reachable_X1_isInletBusy rfl rfl rfl (by decide +kernel) ⟨Nat.le_of_ble_eq_true rfl, Nat.le_of_ble_eq_true rfl⟩) hK hP hS hA (P_sel [(false, (cxW ka (q 0) a1 a2 a3 a4 a5 a6 (kx.1 7)), (cxW ka (q 0) a1 a2 a3 a4 a5 a6 (kx.1 7))), (true, (nwW cI q n), (nwW cI q n))] hP) rfl rfl rfl hl.1 rfl (Nat.le_of_ble_eq_true rfl) dX5_reachable_18 ⟨Nat.zero_le _, Nat.zero_le _⟩ (fun H locs hP hS => ?_)
    refine lv_if_eq (tgt := 27) hx hb dX5_reachable_21 (by decide) (fun c2 => ?_) (fun c2 => ?_)
    · have hf := it_t hf c2
      refine lv_aload_n hx hb dX5_reachable_27 rfl (lv_at hl 0 rfl) ?_
      refine va_get (D := D) (ci := 5) (v := .ref (q 0)) (C := RX5) (T := TX5) (N := 8) hx hb hts inX5 hown hK.1 hP 0 rfl rfl 0 (by decide) (hts (.fieldLink RX5 12 "ClosExchange" "network" "LClosExchange$Network;") (List.mem_of_getElem? (i := 1) rfl)) (fun _ h9 => h9) rfl dX5_reachable_28 ?_
      refine lv_aload_n hx hb dX5_reachable_31 rfl (lv_at hl 0 rfl) ?_
      refine va_get (D := D) (ci := 5) (v := .ref (q 0)) (C := RX5) (T := TX5) (N := 8) hx hb hts inX5 hown hK.1 hP 0 rfl rfl 0 (by decide) (hts (.fieldLink RX5 12 "ClosExchange" "network" "LClosExchange$Network;") (List.mem_of_getElem? (i := 1) rfl)) (fun _ h9 => h9) rfl dX5_reachable_32 ?_
      refine va_get (D := D) (ci := 1) (v := .ref (q 5)) (C := RX1) (T := TX1) (N := 16) hx hb hts inX1 hown hK.1 hP 1 rfl rfl 14 (by decide) (hts (.fieldLink RX5 154 "ClosExchange$Network" "firstLinks" "LClosExchange$Row;") (List.mem_of_getElem? (i := 2) rfl)) (fun _ h9 => h9) rfl dX5_reachable_35 ?_
      refine lv_aload_n hx hb dX5_reachable_38 rfl (lv_at hl 0 rfl) ?_
      refine va_get (D := D) (ci := 5) (v := .ref (q 0)) (C := RX5) (T := TX5) (N := 8) hx hb hts inX5 hown hK.1 hP 0 rfl rfl 0 (by decide) (hts (.fieldLink RX5 12 "ClosExchange" "network" "LClosExchange$Network;") (List.mem_of_getElem? (i := 1) rfl)) (fun _ h9 => h9) rfl dX5_reachable_39 ?_
      refine lv_iload_n hx hb dX5_reachable_42 rfl (lv_at hl 1 rfl) ?_
      refine cQi (As := [.int x1]) (rest := [.ref (q 5), .ref (q 0)]) (q0 := 1) (ci := 1) S (c_X1_boardOf l D cI cN q _ n x1 (fX1_boardOf n x1) rfl) (cwV 1 hts gX5_reachable_X1_boardOf rfl rfl rfl (by decide +kernel) ⟨Nat.le_of_ble_eq_true rfl, Nat.le_of_ble_eq_true rfl⟩) hK hP hS hA (P_sel [(false, (cxW ka (q 0) a1 a2 a3 a4 a5 a6 (kx.1 7)), (cxW ka (q 0) a1 a2 a3 a4 a5 a6 (kx.1 7))), (true, (nwW cI q n), (nwW cI q n))] hP) rfl rfl rfl hl.1 rfl (Nat.le_of_ble_eq_true rfl) dX5_reachable_43 ⟨Nat.zero_le _, Nat.zero_le _⟩ (fun H locs hP hS => ?_)
      obtain ⟨v3, hv3, hf⟩ := it_b hf
      refine cQi (As := [.ref (q 5), .int (fX1_boardOf n x1)]) (rest := []) (q0 := 1) (ci := 1) S (c_X1_freeOnLinks4 l D cI cN q _ n (fX1_boardOf n x1) v3 hv3) (cwV 2 hts gX5_reachable_X1_freeOnLinks rfl rfl rfl (by decide +kernel) ⟨Nat.le_of_ble_eq_true rfl, Nat.le_of_ble_eq_true rfl⟩) hK hP hS hA (P_sel [(false, (cxW ka (q 0) a1 a2 a3 a4 a5 a6 (kx.1 7)), (cxW ka (q 0) a1 a2 a3 a4 a5 a6 (kx.1 7))), (true, (nwW cI q n), (nwW cI q n))] hP) rfl rfl rfl hl.1 rfl (Nat.le_of_ble_eq_true rfl) dX5_reachable_46 ⟨Nat.zero_le _, Nat.zero_le _⟩ (fun H locs hP hS => ?_)
      refine lv_istore_n (lv' := [(2, .int v3), (0, .ref ka), (1, .int x1)]) hx hb dX5_reachable_49 rfl hl (by decide) rfl (fun ls hl => ?_)
      refine lv_iconst (v := (0 : Int32)) hx hb dX5_reachable_50 kc_iconst_0 ?_
      refine lv_istore_n (lv' := [(3, .int (0 : Int32)), (2, .int v3), (0, .ref ka), (1, .int x1)]) hx hb dX5_reachable_51 rfl hl (by decide) rfl (fun ls hl => ?_)
      refine lv_iconst (v := (0 : Int32)) hx hb dX5_reachable_52 kc_iconst_0 ?_
      refine lv_istore (lv' := [(4, .int (0 : Int32)), (3, .int (0 : Int32)), (2, .int v3), (0, .ref ka), (1, .int x1)]) hx hb dX5_reachable_53 hl (by decide) rfl (fun ls hl => ?_)
      exact w_X5_reachable_55 S hK hret _ _ _ hf H locs ls hP hS (lv_sub hl [3, 2, 1, 0] rfl)
    · have hf := it_f hf c2
      refine lv_bipush (v := (-3 : Int32)) hx hb dX5_reachable_24 kc_bipush_m3 ?_
      have e0 : (-3 : Int32) = r0 := (Option.some.inj hf)
      subst e0
      exact hret H locs ls _ dX5_reachable_26 rfl hS
  · have hf := it_t hf c1
    refine lv_iconst (v := (-1 : Int32)) hx hb dX5_reachable_11 kc_iconst_m1 ?_
    have e0 : (-1 : Int32) = r0 := (Option.some.inj hf)
    subst e0
    exact hret H locs ls _ dX5_reachable_12 rfl hS
set_option maxRecDepth 100000 in
theorem c_X5_reachable (l : Launch) (D : va_G) (cI cN : ClassId) (ka a1 a2 a3 a4 a5 a6 : Nat) (q : Nat → Nat) (sz : Nat) (kx : OS) (n : OS) (x1 : Int32) (r0 : Int32) (hf : fX5_reachable kx n x1 = some r0) : CtP l D cI cN yX5_reachable wsX5_reachable rm_X5_reachable [.ref ka, .int x1] ((cxW ka (q 0) a1 a2 a3 a4 a5 a6 (kx.1 7)) ++ (nwW cI q n)) sz r0 := by
  refine mP (cc := cX5_reachable) (maxL := 6) (ty := .int) (by decide) rfl rfl (Nat.le_of_ble_eq_true rfl) ?_
  intro p e s m args below meth c Q S hK hP hS hret ls hl
  exact w_X5_reachable_0 S hK hret hf _ _ _ hP hS (lv_sub (show lv_has ls 6 [(0, .ref ka), (1, .int x1)] from hl) [0, 1] rfl)
