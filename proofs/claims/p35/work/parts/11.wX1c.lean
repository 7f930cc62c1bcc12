abbrev rm_J6_bitCount_0f7a4 : Room := { frames := 0, cells := 0, slots := 0, locals := 0 }
set_option maxRecDepth 100000 in
set_option maxHeartbeats 4000000 in
theorem w_J6_bitCount_0f7a4_0 {p : Program} {l : Launch} {e : Env} {s : State} {m : MethodId} {args : Array Value} {below : List Frame} {meth : Method} {c : Code} {Q : State → Prop} {D : va_G} {cI cN : ClassId}  (S : CallFix p m c cJ6_bitCount_0f7a4 1 s args wsJ6_bitCount_0f7a4 RJ6) (hK : KN D cI cN s) {x0 : Int32} {r0 : Int32} (hret : ∀ (H : Heap) (locs : List Loc) (ls : Array Slot) (pc : Nat), decode cJ6_bitCount_0f7a4 pc = .ok (.ireturn, 1) → narrow .int (.int r0) = .int r0 → va_S (nwA s.heap.size) s.heap H locs → W p l e (headSpec wsJ6_bitCount_0f7a4 rm_J6_bitCount_0f7a4).room s m args below meth c H locs 0 0 Q (F0 m pc ls [.int r0])) (hf : fJ6_bitCount_0f7a4 x0 = r0) (H : Heap) (locs : List Loc) (ls : Array Slot) (hP : va_P D vwCl ([] : va_W) H) (hS : va_S (nwA s.heap.size) s.heap H locs) (hl : lv_has ls 1 [(0, .int x0)]) : W p l e (headSpec wsJ6_bitCount_0f7a4 rm_J6_bitCount_0f7a4).room s m args below meth c H locs 0 0 Q (F0 m 0 ls []) := by
  obtain ⟨hx, hb, hml, hown, hts⟩ := id S
  have hA : ∀ q : Nat, s.heap.size ≤ q → nwA s.heap.size q := fun _ h => h
  unfold fJ6_bitCount_0f7a4 at hf
  refine lv_iload_n hx hb dJ6_bitCount_0f7a4_0 rfl (lv_at hl 0 rfl) ?_
  refine lv_iload_n hx hb dJ6_bitCount_0f7a4_1 rfl (lv_at hl 0 rfl) ?_
  refine lv_iconst (v := (1 : Int32)) hx hb dJ6_bitCount_0f7a4_2 kc_iconst_1 ?_
  refine lv_iushr (v := ((x0).toUInt32 >>> (((1 : Int32)).toUInt32 &&& Int32.toUInt32 31)).toInt32) hx hb dJ6_bitCount_0f7a4_3 rfl ?_
  refine lv_ldcw (v := (1431655765 : Int32)) hx hb hown (hts (.constant RJ6 265 (1431655765)) (List.mem_of_getElem? (i := 1) rfl)) dJ6_bitCount_0f7a4_4 ?_
  refine lv_iand hx hb dJ6_bitCount_0f7a4_7 ?_
  refine lv_isub hx hb dJ6_bitCount_0f7a4_8 ?_
  obtain ⟨w1, hw1, hf⟩ := it_j hf
  rw [hw1]
  refine lv_istore_n (lv' := [(0, .int w1)]) hx hb dJ6_bitCount_0f7a4_9 rfl hl (by decide) rfl (fun ls hl => ?_)
  refine lv_iload_n hx hb dJ6_bitCount_0f7a4_10 rfl (lv_at hl 0 rfl) ?_
  refine lv_ldcw (v := (858993459 : Int32)) hx hb hown (hts (.constant RJ6 266 (858993459)) (List.mem_of_getElem? (i := 2) rfl)) dJ6_bitCount_0f7a4_11 ?_
  refine lv_iand hx hb dJ6_bitCount_0f7a4_14 ?_
  refine lv_iload_n hx hb dJ6_bitCount_0f7a4_15 rfl (lv_at hl 0 rfl) ?_
  refine lv_iconst (v := (2 : Int32)) hx hb dJ6_bitCount_0f7a4_16 kc_iconst_2 ?_
  refine lv_iushr (v := ((w1).toUInt32 >>> (((2 : Int32)).toUInt32 &&& Int32.toUInt32 31)).toInt32) hx hb dJ6_bitCount_0f7a4_17 rfl ?_
  refine lv_ldcw (v := (858993459 : Int32)) hx hb hown (hts (.constant RJ6 266 (858993459)) (List.mem_of_getElem? (i := 2) rfl)) dJ6_bitCount_0f7a4_18 ?_
  refine lv_iand hx hb dJ6_bitCount_0f7a4_21 ?_
  refine lv_iadd hx hb dJ6_bitCount_0f7a4_22 ?_
  obtain ⟨w2, hw2, hf⟩ := it_j hf
  rw [hw2]
  refine lv_istore_n (lv' := [(0, .int w2)]) hx hb dJ6_bitCount_0f7a4_23 rfl hl (by decide) rfl (fun ls hl => ?_)
  refine lv_iload_n hx hb dJ6_bitCount_0f7a4_24 rfl (lv_at hl 0 rfl) ?_
  refine lv_iload_n hx hb dJ6_bitCount_0f7a4_25 rfl (lv_at hl 0 rfl) ?_
  refine lv_iconst (v := (4 : Int32)) hx hb dJ6_bitCount_0f7a4_26 kc_iconst_4 ?_
  refine lv_iushr (v := ((w2).toUInt32 >>> (((4 : Int32)).toUInt32 &&& Int32.toUInt32 31)).toInt32) hx hb dJ6_bitCount_0f7a4_27 rfl ?_
  refine lv_iadd hx hb dJ6_bitCount_0f7a4_28 ?_
  refine lv_ldcw (v := (252645135 : Int32)) hx hb hown (hts (.constant RJ6 267 (252645135)) (List.mem_of_getElem? (i := 3) rfl)) dJ6_bitCount_0f7a4_29 ?_
  refine lv_iand hx hb dJ6_bitCount_0f7a4_32 ?_
  obtain ⟨w3, hw3, hf⟩ := it_j hf
  rw [hw3]
  refine lv_istore_n (lv' := [(0, .int w3)]) hx hb dJ6_bitCount_0f7a4_33 rfl hl (by decide) rfl (fun ls hl => ?_)
  refine lv_iload_n hx hb dJ6_bitCount_0f7a4_34 rfl (lv_at hl 0 rfl) ?_
  refine lv_iload_n hx hb dJ6_bitCount_0f7a4_35 rfl (lv_at hl 0 rfl) ?_
  refine lv_bipush (v := (8 : Int32)) hx hb dJ6_bitCount_0f7a4_36 kc_bipush_8 ?_
  refine lv_iushr (v := ((w3).toUInt32 >>> (((8 : Int32)).toUInt32 &&& Int32.toUInt32 31)).toInt32) hx hb dJ6_bitCount_0f7a4_38 rfl ?_
  refine lv_iadd hx hb dJ6_bitCount_0f7a4_39 ?_
  obtain ⟨w4, hw4, hf⟩ := it_j hf
  rw [hw4]
  refine lv_istore_n (lv' := [(0, .int w4)]) hx hb dJ6_bitCount_0f7a4_40 rfl hl (by decide) rfl (fun ls hl => ?_)
  refine lv_iload_n hx hb dJ6_bitCount_0f7a4_41 rfl (lv_at hl 0 rfl) ?_
  refine lv_iload_n hx hb dJ6_bitCount_0f7a4_42 rfl (lv_at hl 0 rfl) ?_
  refine lv_bipush (v := (16 : Int32)) hx hb dJ6_bitCount_0f7a4_43 kc_bipush_16 ?_
  refine lv_iushr (v := ((w4).toUInt32 >>> (((16 : Int32)).toUInt32 &&& Int32.toUInt32 31)).toInt32) hx hb dJ6_bitCount_0f7a4_45 rfl ?_
  refine lv_iadd hx hb dJ6_bitCount_0f7a4_46 ?_
  obtain ⟨w5, hw5, hf⟩ := it_j hf
  rw [hw5]
  refine lv_istore_n (lv' := [(0, .int w5)]) hx hb dJ6_bitCount_0f7a4_47 rfl hl (by decide) rfl (fun ls hl => ?_)
  refine lv_iload_n hx hb dJ6_bitCount_0f7a4_48 rfl (lv_at hl 0 rfl) ?_
  refine lv_bipush (v := (63 : Int32)) hx hb dJ6_bitCount_0f7a4_49 kc_bipush_63 ?_
  refine lv_iand hx hb dJ6_bitCount_0f7a4_51 ?_
  have e0 : (w5 &&& (63 : Int32)) = r0 := hf
  subst e0
  exact hret H locs ls _ dJ6_bitCount_0f7a4_52 rfl hS
set_option maxRecDepth 100000 in
theorem c_J6_bitCount_0f7a4 (l : Launch) (D : va_G) (cI cN : ClassId)  (sz : Nat) (x0 : Int32) (r0 : Int32) (hf : fJ6_bitCount_0f7a4 x0 = r0) : CtP l D cI cN yJ6_bitCount_0f7a4 wsJ6_bitCount_0f7a4 rm_J6_bitCount_0f7a4 [.int x0] ([] : va_W) sz r0 := by
  refine mP (cc := cJ6_bitCount_0f7a4) (maxL := 1) (ty := .int) (by decide) rfl rfl (Nat.le_of_ble_eq_true rfl) ?_
  intro p e s m args below meth c Q S hK hP hS hret ls hl
  exact w_J6_bitCount_0f7a4_0 S hK hret hf _ _ _ hP hS (lv_sub (show lv_has ls 1 [(0, .int x0)] from hl) [0] rfl)
abbrev rm_X1_rebuild : Room := { frames := 2, cells := 0, slots := 0, locals := 44 }
theorem in_X1_rebuild_X1 : ∀ w ∈ u_ws RX1 TX1 16, w ∈ wsX1_rebuild := fun w h => List.mem_cons_of_mem _ (List.mem_append_left _ (List.mem_append_right _ h))
set_option maxRecDepth 100000 in
set_option maxHeartbeats 4000000 in
theorem w_X1_rebuild_0 {p : Program} {l : Launch} {e : Env} {s : State} {m : MethodId} {args : Array Value} {below : List Frame} {meth : Method} {c : Code} {Q : State → Prop} {D : va_G} {cI cN : ClassId} {A : Nat → Prop} {q : Nat → Nat} (S : CallFix p m c cX1_rebuild 5 s args wsX1_rebuild RX1) (hK : KN D cI cN s) (hA : ∀ q : Nat, s.heap.size ≤ q → A q) {n : OS} {x1 : Int32} {x2 : Int32} {x3 : Int32} {r0 : Int32} {n' : OS} (hret : ∀ (H : Heap) (locs : List Loc) (ls : Array Slot) (pc : Nat), decode cX1_rebuild pc = .ok (.ireturn, 1) → narrow .int (.int r0) = .int r0 → va_P D vwCl (nwW cI q n') H → va_D A (nwW cI q n') → va_S A s.heap H locs → W p l e (headSpec wsX1_rebuild rm_X1_rebuild).room s m args below meth c H locs 0 0 Q (F0 m pc ls [.int r0])) (hf : fX1_rebuild n x1 x2 x3 = some (r0, n')) (H : Heap) (locs : List Loc) (ls : Array Slot) (hP : va_P D vwCl (nwW cI q n) H) (hD : va_D A (nwW cI q n)) (hS : va_S A s.heap H locs) (hl : lv_has ls 5 [(0, .ref (q 0)), (1, .int x1), (2, .int x2), (3, .int x3)]) : W p l e (headSpec wsX1_rebuild rm_X1_rebuild).room s m args below meth c H locs 0 0 Q (F0 m 0 ls []) := by
  obtain ⟨hx, hb, hml, hown, hts⟩ := id S
  have inX1 := in_X1_rebuild_X1
  unfold fX1_rebuild at hf
  refine lv_aload_n hx hb dX1_rebuild_0 rfl (lv_at hl 0 rfl) ?_
  obtain ⟨v1, hv1, hf⟩ := it_b hf
  refine cQi (As := []) (rest := []) (q0 := 0) (ci := 1) S (c_X1_countCalls l D cI cN q _ n v1 hv1) (cwV 0 hts gX1_rebuild_X1_countCalls rfl rfl rfl (by decide +kernel) ⟨Nat.le_of_ble_eq_true rfl, Nat.le_of_ble_eq_true rfl⟩) hK hP hS hA hP rfl rfl rfl hl.1 rfl (Nat.le_of_ble_eq_true rfl) dX1_rebuild_1 ⟨Nat.zero_le _, Nat.zero_le _⟩ (fun H locs hP hS => ?_)
  refine lv_istore (lv' := [(4, .int v1), (0, .ref (q 0)), (1, .int x1), (2, .int x2), (3, .int x3)]) hx hb dX1_rebuild_4 hl (by decide) rfl (fun ls hl => ?_)
  refine lv_aload_n hx hb dX1_rebuild_6 rfl (lv_at hl 1 rfl) ?_
  refine lv_dup hx hb dX1_rebuild_7 rfl ?_
  refine va_get (D := D) (ci := 1) (v := .int (n.1 7)) (C := RX1) (T := TX1) (N := 16) hx hb hts inX1 hown hK.1 hP 0 rfl rfl 7 (by decide) (hts (.fieldLink RX1 57 "ClosExchange$Network" "ended" "I") (List.mem_of_getElem? (i := 1) rfl)) (fun _ h9 => h9) rfl dX1_rebuild_8 ?_
  refine lv_iload hx hb dX1_rebuild_11 (lv_at hl 0 rfl) ?_
  refine lv_iadd hx hb dX1_rebuild_13 ?_
  obtain ⟨w2, hw2, hf⟩ := it_j hf
  rw [hw2]
  refine gput (D := D) (ci := 1) (v := .int w2) (ty := .int) (C := RX1) (T := TX1) (N := 16) (wf := (nwW cI q (setF n 7 w2))) hx hb hts inX1 tyX1 tyX1_ok nmX1 hown hK.1 hP hD hS 0 rfl rfl 7 (by decide) (hts (.fieldLink RX1 57 "ClosExchange$Network" "ended" "I") (List.mem_of_getElem? (i := 1) rfl)) (fun _ h9 => h9) rfl (by decide +kernel) rfl rfl (Nat.le_of_ble_eq_true rfl) dX1_rebuild_14 rfl (fun H locs hP hD hS => ?_)
  refine lv_aload_n hx hb dX1_rebuild_17 rfl (lv_at hl 1 rfl) ?_
  refine lv_iload_n hx hb dX1_rebuild_18 rfl (lv_at hl 2 rfl) ?_
  refine gput (D := D) (ci := 1) (v := .int x1) (ty := .int) (C := RX1) (T := TX1) (N := 16) (wf := (nwW cI q (setF (setF n 7 w2) 0 x1))) hx hb hts inX1 tyX1 tyX1_ok nmX1 hown hK.1 hP hD hS 0 rfl rfl 0 (by decide) (hts (.fieldLink RX1 9 "ClosExchange$Network" "boards" "I") (List.mem_of_getElem? (i := 2) rfl)) (fun _ h9 => h9) rfl (by decide +kernel) rfl rfl (Nat.le_of_ble_eq_true rfl) dX1_rebuild_19 rfl (fun H locs hP hD hS => ?_)
  refine lv_aload_n hx hb dX1_rebuild_22 rfl (lv_at hl 1 rfl) ?_
  refine lv_iload_n hx hb dX1_rebuild_23 rfl (lv_at hl 3 rfl) ?_
  refine gput (D := D) (ci := 1) (v := .int x2) (ty := .int) (C := RX1) (T := TX1) (N := 16) (wf := (nwW cI q (setF (setF (setF n 7 w2) 0 x1) 1 x2))) hx hb hts inX1 tyX1 tyX1_ok nmX1 hown hK.1 hP hD hS 0 rfl rfl 1 (by decide) (hts (.fieldLink RX1 15 "ClosExchange$Network" "lines" "I") (List.mem_of_getElem? (i := 3) rfl)) (fun _ h9 => h9) rfl (by decide +kernel) rfl rfl (Nat.le_of_ble_eq_true rfl) dX1_rebuild_24 rfl (fun H locs hP hD hS => ?_)
  refine lv_aload_n hx hb dX1_rebuild_27 rfl (lv_at hl 1 rfl) ?_
  refine lv_iload_n hx hb dX1_rebuild_28 rfl (lv_at hl 4 rfl) ?_
  refine gput (D := D) (ci := 1) (v := .int x3) (ty := .int) (C := RX1) (T := TX1) (N := 16) (wf := (nwW cI q (setF (setF (setF (setF n 7 w2) 0 x1) 1 x2) 2 x3))) hx hb hts inX1 tyX1 tyX1_ok nmX1 hown hK.1 hP hD hS 0 rfl rfl 2 (by decide) (hts (.fieldLink RX1 18 "ClosExchange$Network" "middles" "I") (List.mem_of_getElem? (i := 4) rfl)) (fun _ h9 => h9) rfl (by decide +kernel) rfl rfl (Nat.le_of_ble_eq_true rfl) dX1_rebuild_29 rfl (fun H locs hP hD hS => ?_)
  refine lv_aload_n hx hb dX1_rebuild_32 rfl (lv_at hl 1 rfl) ?_
  refine lv_iconst (v := (1 : Int32)) hx hb dX1_rebuild_33 kc_iconst_1 ?_
  refine lv_iload_n hx hb dX1_rebuild_34 rfl (lv_at hl 4 rfl) ?_
  refine lv_ishl hx hb dX1_rebuild_35 ?_
  refine lv_iconst (v := (1 : Int32)) hx hb dX1_rebuild_36 kc_iconst_1 ?_
  refine lv_isub hx hb dX1_rebuild_37 ?_
  obtain ⟨w3, hw3, hf⟩ := it_j hf
  rw [hw3]
  refine gput (D := D) (ci := 1) (v := .int w3) (ty := .int) (C := RX1) (T := TX1) (N := 16) (wf := (nwW cI q (setF (setF (setF (setF (setF n 7 w2) 0 x1) 1 x2) 2 x3) 3 w3))) hx hb hts inX1 tyX1 tyX1_ok nmX1 hown hK.1 hP hD hS 0 rfl rfl 3 (by decide) (hts (.fieldLink RX1 21 "ClosExchange$Network" "service" "I") (List.mem_of_getElem? (i := 5) rfl)) (fun _ h9 => h9) rfl (by decide +kernel) rfl rfl (Nat.le_of_ble_eq_true rfl) dX1_rebuild_38 rfl (fun H locs hP hD hS => ?_)
  refine lv_aload_n hx hb dX1_rebuild_41 rfl (lv_at hl 1 rfl) ?_
  refine va_get (D := D) (ci := 1) (v := .ref (q 1)) (C := RX1) (T := TX1) (N := 16) hx hb hts inX1 hown hK.1 hP 0 rfl rfl 10 (by decide) (hts (.fieldLink RX1 29 "ClosExchange$Network" "numbers" "LClosExchange$Row;") (List.mem_of_getElem? (i := 6) rfl)) (fun _ h9 => h9) rfl dX1_rebuild_42 ?_
  refine cRv (As := []) (rest := []) (i0 := 1) (i1 := 7) (wf := (nwW cI q (setR (setF (setF (setF (setF (setF n 7 w2) 0 x1) 1 x2) 2 x3) 3 w3) 0 rowN))) S (c_X4_empty l D cI cN (q 1) (q 7) 48 (Nat.le_of_ble_eq_true rfl) _ (n.2 0)) (cwV 0 hts gX1_rebuild_X4_empty rfl rfl rfl (by decide +kernel) ⟨Nat.le_of_ble_eq_true rfl, Nat.le_of_ble_eq_true rfl⟩) hK hP hD hS hA rfl rfl (by decide) rfl rfl hl.1 rfl (Nat.le_of_ble_eq_true rfl) dX1_rebuild_45 ⟨Nat.zero_le _, Nat.zero_le _⟩ (fun H locs hP hD hS => ?_)
  refine lv_aload_n hx hb dX1_rebuild_48 rfl (lv_at hl 1 rfl) ?_
  refine va_get (D := D) (ci := 1) (v := .ref (q 2)) (C := RX1) (T := TX1) (N := 16) hx hb hts inX1 hown hK.1 hP 0 rfl rfl 11 (by decide) (hts (.fieldLink RX1 33 "ClosExchange$Network" "outlets" "LClosExchange$Row;") (List.mem_of_getElem? (i := 7) rfl)) (fun _ h9 => h9) rfl dX1_rebuild_49 ?_
  refine cRv (As := []) (rest := []) (i0 := 2) (i1 := 8) (wf := (nwW cI q (setR (setR (setF (setF (setF (setF (setF n 7 w2) 0 x1) 1 x2) 2 x3) 3 w3) 0 rowN) 1 rowN))) S (c_X4_empty l D cI cN (q 2) (q 8) 48 (Nat.le_of_ble_eq_true rfl) _ (n.2 1)) (cwV 0 hts gX1_rebuild_X4_empty rfl rfl rfl (by decide +kernel) ⟨Nat.le_of_ble_eq_true rfl, Nat.le_of_ble_eq_true rfl⟩) hK hP hD hS hA rfl rfl (by decide) rfl rfl hl.1 rfl (Nat.le_of_ble_eq_true rfl) dX1_rebuild_52 ⟨Nat.zero_le _, Nat.zero_le _⟩ (fun H locs hP hD hS => ?_)
  refine lv_aload_n hx hb dX1_rebuild_55 rfl (lv_at hl 1 rfl) ?_
  refine va_get (D := D) (ci := 1) (v := .ref (q 3)) (C := RX1) (T := TX1) (N := 16) hx hb hts inX1 hown hK.1 hP 0 rfl rfl 12 (by decide) (hts (.fieldLink RX1 36 "ClosExchange$Network" "vias" "LClosExchange$Row;") (List.mem_of_getElem? (i := 8) rfl)) (fun _ h9 => h9) rfl dX1_rebuild_56 ?_
  refine cRv (As := []) (rest := []) (i0 := 3) (i1 := 9) (wf := (nwW cI q (setR (setR (setR (setF (setF (setF (setF (setF n 7 w2) 0 x1) 1 x2) 2 x3) 3 w3) 0 rowN) 1 rowN) 2 rowN))) S (c_X4_empty l D cI cN (q 3) (q 9) 48 (Nat.le_of_ble_eq_true rfl) _ (n.2 2)) (cwV 0 hts gX1_rebuild_X4_empty rfl rfl rfl (by decide +kernel) ⟨Nat.le_of_ble_eq_true rfl, Nat.le_of_ble_eq_true rfl⟩) hK hP hD hS hA rfl rfl (by decide) rfl rfl hl.1 rfl (Nat.le_of_ble_eq_true rfl) dX1_rebuild_59 ⟨Nat.zero_le _, Nat.zero_le _⟩ (fun H locs hP hD hS => ?_)
  refine lv_aload_n hx hb dX1_rebuild_62 rfl (lv_at hl 1 rfl) ?_
  refine va_get (D := D) (ci := 1) (v := .ref (q 4)) (C := RX1) (T := TX1) (N := 16) hx hb hts inX1 hown hK.1 hP 0 rfl rfl 13 (by decide) (hts (.fieldLink RX1 39 "ClosExchange$Network" "inlets" "LClosExchange$Row;") (List.mem_of_getElem? (i := 9) rfl)) (fun _ h9 => h9) rfl dX1_rebuild_63 ?_
  refine cRv (As := []) (rest := []) (i0 := 4) (i1 := 10) (wf := (nwW cI q (setR (setR (setR (setR (setF (setF (setF (setF (setF n 7 w2) 0 x1) 1 x2) 2 x3) 3 w3) 0 rowN) 1 rowN) 2 rowN) 3 rowN))) S (c_X4_empty l D cI cN (q 4) (q 10) 48 (Nat.le_of_ble_eq_true rfl) _ (n.2 3)) (cwV 0 hts gX1_rebuild_X4_empty rfl rfl rfl (by decide +kernel) ⟨Nat.le_of_ble_eq_true rfl, Nat.le_of_ble_eq_true rfl⟩) hK hP hD hS hA rfl rfl (by decide) rfl rfl hl.1 rfl (Nat.le_of_ble_eq_true rfl) dX1_rebuild_66 ⟨Nat.zero_le _, Nat.zero_le _⟩ (fun H locs hP hD hS => ?_)
  refine lv_aload_n hx hb dX1_rebuild_69 rfl (lv_at hl 1 rfl) ?_
  refine va_get (D := D) (ci := 1) (v := .ref (q 5)) (C := RX1) (T := TX1) (N := 16) hx hb hts inX1 hown hK.1 hP 0 rfl rfl 14 (by decide) (hts (.fieldLink RX1 42 "ClosExchange$Network" "firstLinks" "LClosExchange$Row;") (List.mem_of_getElem? (i := 10) rfl)) (fun _ h9 => h9) rfl dX1_rebuild_70 ?_
  refine cRv (As := []) (rest := []) (i0 := 5) (i1 := 11) (wf := (nwW cI q (setR (setR (setR (setR (setR (setF (setF (setF (setF (setF n 7 w2) 0 x1) 1 x2) 2 x3) 3 w3) 0 rowN) 1 rowN) 2 rowN) 3 rowN) 4 rowN))) S (c_X4_empty l D cI cN (q 5) (q 11) 64 (Nat.le_of_ble_eq_true rfl) _ (n.2 4)) (cwV 0 hts gX1_rebuild_X4_empty rfl rfl rfl (by decide +kernel) ⟨Nat.le_of_ble_eq_true rfl, Nat.le_of_ble_eq_true rfl⟩) hK hP hD hS hA rfl rfl (by decide) rfl rfl hl.1 rfl (Nat.le_of_ble_eq_true rfl) dX1_rebuild_73 ⟨Nat.zero_le _, Nat.zero_le _⟩ (fun H locs hP hD hS => ?_)
  refine lv_aload_n hx hb dX1_rebuild_76 rfl (lv_at hl 1 rfl) ?_
  refine va_get (D := D) (ci := 1) (v := .ref (q 6)) (C := RX1) (T := TX1) (N := 16) hx hb hts inX1 hown hK.1 hP 0 rfl rfl 15 (by decide) (hts (.fieldLink RX1 45 "ClosExchange$Network" "lastLinks" "LClosExchange$Row;") (List.mem_of_getElem? (i := 11) rfl)) (fun _ h9 => h9) rfl dX1_rebuild_77 ?_
  refine cRv (As := []) (rest := []) (i0 := 6) (i1 := 12) (wf := (nwW cI q (setR (setR (setR (setR (setR (setR (setF (setF (setF (setF (setF n 7 w2) 0 x1) 1 x2) 2 x3) 3 w3) 0 rowN) 1 rowN) 2 rowN) 3 rowN) 4 rowN) 5 rowN))) S (c_X4_empty l D cI cN (q 6) (q 12) 64 (Nat.le_of_ble_eq_true rfl) _ (n.2 5)) (cwV 0 hts gX1_rebuild_X4_empty rfl rfl rfl (by decide +kernel) ⟨Nat.le_of_ble_eq_true rfl, Nat.le_of_ble_eq_true rfl⟩) hK hP hD hS hA rfl rfl (by decide) rfl rfl hl.1 rfl (Nat.le_of_ble_eq_true rfl) dX1_rebuild_80 ⟨Nat.zero_le _, Nat.zero_le _⟩ (fun H locs hP hD hS => ?_)
  refine lv_iload hx hb dX1_rebuild_83 (lv_at hl 0 rfl) ?_
  have e0 : v1 = r0 := congrArg (fun z => z.1) (Option.some.inj hf)
  have e1 : (setR (setR (setR (setR (setR (setR (setF (setF (setF (setF (setF n 7 w2) 0 x1) 1 x2) 2 x3) 3 w3) 0 rowN) 1 rowN) 2 rowN) 3 rowN) 4 rowN) 5 rowN) = n' := congrArg (fun z => z.2) (Option.some.inj hf)
  subst e0
  subst e1
  exact hret H locs ls _ dX1_rebuild_85 rfl hP hD hS
set_option maxRecDepth 100000 in
theorem c_X1_rebuild (l : Launch) (D : va_G) (cI cN : ClassId) (q : Nat → Nat) (sz : Nat) (n : OS) (x1 : Int32) (x2 : Int32) (x3 : Int32) (r0 : Int32) (n' : OS) (hf : fX1_rebuild n x1 x2 x3 = some (r0, n')) : CtI l D cI cN yX1_rebuild wsX1_rebuild rm_X1_rebuild 0 0 [.ref (q 0), .int x1, .int x2, .int x3] (nwW cI q n) sz r0 (nwW cI q n') := by
  refine mW (cc := cX1_rebuild) (maxL := 5) (ty := .int) (by decide) rfl rfl (Nat.le_of_ble_eq_true rfl) ?_
  intro p e s m args below meth c Q A S hK hP hD hS hA hret ls hl
  exact w_X1_rebuild_0 S hK hA hret hf _ _ _ hP hD hS (lv_sub (show lv_has ls 5 [(0, .ref (q 0)), (1, .int x1), (2, .int x2), (3, .int x3)] from hl) [0, 1, 2, 3] rfl)
abbrev rm_X1_copyFromA : Room := { frames := 2, cells := 0, slots := 0, locals := 51 }
theorem in_X1_copyFromA_X1 : ∀ w ∈ u_ws RX1 TX1 16, w ∈ wsX1_copyFrom := fun w h => List.mem_cons_of_mem _ (List.mem_append_left _ (List.mem_append_right _ h))
set_option maxRecDepth 100000 in
set_option maxHeartbeats 4000000 in
theorem w_X1_copyFromA_0 {p : Program} {l : Launch} {e : Env} {s : State} {m : MethodId} {args : Array Value} {below : List Frame} {meth : Method} {c : Code} {Q : State → Prop} {D : va_G} {cI cN : ClassId} {A : Nat → Prop} {q : Nat → Nat} {qo : Nat → Nat} (S : CallFix p m c cX1_copyFrom 2 s args wsX1_copyFrom RX1) (hK : KN D cI cN s) (hA : ∀ q : Nat, s.heap.size ≤ q → A q) {n : OS} {o : OS} {n' : OS} (hret : ∀ (H : Heap) (locs : List Loc) (ls : Array Slot) (pc : Nat), decode cX1_copyFrom pc = .ok (.return_, 1) → va_P D vwCl ((nwW cI q n') ++ (nwW cI qo o)) H → va_D A ((nwW cI q n') ++ (nwW cI qo o)) → va_S A s.heap H locs → W p l e (headSpec wsX1_copyFrom rm_X1_copyFromA).room s m args below meth c H locs 0 0 Q (F0 m pc ls [])) (hf : fX1_copyFromA n o = n') (H : Heap) (locs : List Loc) (ls : Array Slot) (hP : va_P D vwCl ((nwW cI q n) ++ (nwW cI qo o)) H) (hD : va_D A ((nwW cI q n) ++ (nwW cI qo o))) (hS : va_S A s.heap H locs) (hl : lv_has ls 2 [(0, .ref (q 0)), (1, .ref (qo 0))]) : W p l e (headSpec wsX1_copyFrom rm_X1_copyFromA).room s m args below meth c H locs 0 0 Q (F0 m 0 ls []) := by
  obtain ⟨hx, hb, hml, hown, hts⟩ := id S
  have inX1 := in_X1_copyFromA_X1
  unfold fX1_copyFromA at hf
  refine lv_aload_n hx hb dX1_copyFrom_0 rfl (lv_at hl 0 rfl) ?_
  refine lv_aload_n hx hb dX1_copyFrom_1 rfl (lv_at hl 1 rfl) ?_
  refine va_get (D := D) (ci := 1) (v := .int (o.1 0)) (C := RX1) (T := TX1) (N := 16) hx hb hts inX1 hown hK.1 hP 13 rfl rfl 0 (by decide) (hts (.fieldLink RX1 9 "ClosExchange$Network" "boards" "I") (List.mem_of_getElem? (i := 1) rfl)) (fun _ h9 => h9) rfl dX1_copyFrom_2 ?_
  refine gput (D := D) (ci := 1) (v := .int (o.1 0)) (ty := .int) (C := RX1) (T := TX1) (N := 16) (wf := ((nwW cI q (setF n 0 (o.1 0))) ++ (nwW cI qo o))) hx hb hts inX1 tyX1 tyX1_ok nmX1 hown hK.1 hP hD hS 0 rfl rfl 0 (by decide) (hts (.fieldLink RX1 9 "ClosExchange$Network" "boards" "I") (List.mem_of_getElem? (i := 1) rfl)) (fun _ h9 => h9) rfl (by decide +kernel) rfl rfl (Nat.le_of_ble_eq_true rfl) dX1_copyFrom_5 rfl (fun H locs hP hD hS => ?_)
  refine lv_aload_n hx hb dX1_copyFrom_8 rfl (lv_at hl 0 rfl) ?_
  refine lv_aload_n hx hb dX1_copyFrom_9 rfl (lv_at hl 1 rfl) ?_
  refine va_get (D := D) (ci := 1) (v := .int (o.1 1)) (C := RX1) (T := TX1) (N := 16) hx hb hts inX1 hown hK.1 hP 13 rfl rfl 1 (by decide) (hts (.fieldLink RX1 15 "ClosExchange$Network" "lines" "I") (List.mem_of_getElem? (i := 2) rfl)) (fun _ h9 => h9) rfl dX1_copyFrom_10 ?_
  refine gput (D := D) (ci := 1) (v := .int (o.1 1)) (ty := .int) (C := RX1) (T := TX1) (N := 16) (wf := ((nwW cI q (setF (setF n 0 (o.1 0)) 1 (o.1 1))) ++ (nwW cI qo o))) hx hb hts inX1 tyX1 tyX1_ok nmX1 hown hK.1 hP hD hS 0 rfl rfl 1 (by decide) (hts (.fieldLink RX1 15 "ClosExchange$Network" "lines" "I") (List.mem_of_getElem? (i := 2) rfl)) (fun _ h9 => h9) rfl (by decide +kernel) rfl rfl (Nat.le_of_ble_eq_true rfl) dX1_copyFrom_13 rfl (fun H locs hP hD hS => ?_)
  refine lv_aload_n hx hb dX1_copyFrom_16 rfl (lv_at hl 0 rfl) ?_
  refine lv_aload_n hx hb dX1_copyFrom_17 rfl (lv_at hl 1 rfl) ?_
  refine va_get (D := D) (ci := 1) (v := .int (o.1 2)) (C := RX1) (T := TX1) (N := 16) hx hb hts inX1 hown hK.1 hP 13 rfl rfl 2 (by decide) (hts (.fieldLink RX1 18 "ClosExchange$Network" "middles" "I") (List.mem_of_getElem? (i := 3) rfl)) (fun _ h9 => h9) rfl dX1_copyFrom_18 ?_
  refine gput (D := D) (ci := 1) (v := .int (o.1 2)) (ty := .int) (C := RX1) (T := TX1) (N := 16) (wf := ((nwW cI q (setF (setF (setF n 0 (o.1 0)) 1 (o.1 1)) 2 (o.1 2))) ++ (nwW cI qo o))) hx hb hts inX1 tyX1 tyX1_ok nmX1 hown hK.1 hP hD hS 0 rfl rfl 2 (by decide) (hts (.fieldLink RX1 18 "ClosExchange$Network" "middles" "I") (List.mem_of_getElem? (i := 3) rfl)) (fun _ h9 => h9) rfl (by decide +kernel) rfl rfl (Nat.le_of_ble_eq_true rfl) dX1_copyFrom_21 rfl (fun H locs hP hD hS => ?_)
  refine lv_aload_n hx hb dX1_copyFrom_24 rfl (lv_at hl 0 rfl) ?_
  refine lv_aload_n hx hb dX1_copyFrom_25 rfl (lv_at hl 1 rfl) ?_
  refine va_get (D := D) (ci := 1) (v := .int (o.1 3)) (C := RX1) (T := TX1) (N := 16) hx hb hts inX1 hown hK.1 hP 13 rfl rfl 3 (by decide) (hts (.fieldLink RX1 21 "ClosExchange$Network" "service" "I") (List.mem_of_getElem? (i := 4) rfl)) (fun _ h9 => h9) rfl dX1_copyFrom_26 ?_
  refine gput (D := D) (ci := 1) (v := .int (o.1 3)) (ty := .int) (C := RX1) (T := TX1) (N := 16) (wf := ((nwW cI q (setF (setF (setF (setF n 0 (o.1 0)) 1 (o.1 1)) 2 (o.1 2)) 3 (o.1 3))) ++ (nwW cI qo o))) hx hb hts inX1 tyX1 tyX1_ok nmX1 hown hK.1 hP hD hS 0 rfl rfl 3 (by decide) (hts (.fieldLink RX1 21 "ClosExchange$Network" "service" "I") (List.mem_of_getElem? (i := 4) rfl)) (fun _ h9 => h9) rfl (by decide +kernel) rfl rfl (Nat.le_of_ble_eq_true rfl) dX1_copyFrom_29 rfl (fun H locs hP hD hS => ?_)
  refine lv_aload_n hx hb dX1_copyFrom_32 rfl (lv_at hl 0 rfl) ?_
  refine lv_aload_n hx hb dX1_copyFrom_33 rfl (lv_at hl 1 rfl) ?_
  refine va_get (D := D) (ci := 1) (v := .int (o.1 4)) (C := RX1) (T := TX1) (N := 16) hx hb hts inX1 hown hK.1 hP 13 rfl rfl 4 (by decide) (hts (.fieldLink RX1 48 "ClosExchange$Network" "choiceRule" "I") (List.mem_of_getElem? (i := 5) rfl)) (fun _ h9 => h9) rfl dX1_copyFrom_34 ?_
  refine gput (D := D) (ci := 1) (v := .int (o.1 4)) (ty := .int) (C := RX1) (T := TX1) (N := 16) (wf := ((nwW cI q (setF (setF (setF (setF (setF n 0 (o.1 0)) 1 (o.1 1)) 2 (o.1 2)) 3 (o.1 3)) 4 (o.1 4))) ++ (nwW cI qo o))) hx hb hts inX1 tyX1 tyX1_ok nmX1 hown hK.1 hP hD hS 0 rfl rfl 4 (by decide) (hts (.fieldLink RX1 48 "ClosExchange$Network" "choiceRule" "I") (List.mem_of_getElem? (i := 5) rfl)) (fun _ h9 => h9) rfl (by decide +kernel) rfl rfl (Nat.le_of_ble_eq_true rfl) dX1_copyFrom_37 rfl (fun H locs hP hD hS => ?_)
  refine lv_aload_n hx hb dX1_copyFrom_40 rfl (lv_at hl 0 rfl) ?_
  refine lv_aload_n hx hb dX1_copyFrom_41 rfl (lv_at hl 1 rfl) ?_
  refine va_get (D := D) (ci := 1) (v := .int (o.1 5)) (C := RX1) (T := TX1) (N := 16) hx hb hts inX1 hown hK.1 hP 13 rfl rfl 5 (by decide) (hts (.fieldLink RX1 51 "ClosExchange$Network" "pairRule" "I") (List.mem_of_getElem? (i := 6) rfl)) (fun _ h9 => h9) rfl dX1_copyFrom_42 ?_
  refine gput (D := D) (ci := 1) (v := .int (o.1 5)) (ty := .int) (C := RX1) (T := TX1) (N := 16) (wf := ((nwW cI q (setF (setF (setF (setF (setF (setF n 0 (o.1 0)) 1 (o.1 1)) 2 (o.1 2)) 3 (o.1 3)) 4 (o.1 4)) 5 (o.1 5))) ++ (nwW cI qo o))) hx hb hts inX1 tyX1 tyX1_ok nmX1 hown hK.1 hP hD hS 0 rfl rfl 5 (by decide) (hts (.fieldLink RX1 51 "ClosExchange$Network" "pairRule" "I") (List.mem_of_getElem? (i := 6) rfl)) (fun _ h9 => h9) rfl (by decide +kernel) rfl rfl (Nat.le_of_ble_eq_true rfl) dX1_copyFrom_45 rfl (fun H locs hP hD hS => ?_)
  refine lv_aload_n hx hb dX1_copyFrom_48 rfl (lv_at hl 0 rfl) ?_
  refine lv_aload_n hx hb dX1_copyFrom_49 rfl (lv_at hl 1 rfl) ?_
  refine va_get (D := D) (ci := 1) (v := .int (o.1 6)) (C := RX1) (T := TX1) (N := 16) hx hb hts inX1 hown hK.1 hP 13 rfl rfl 6 (by decide) (hts (.fieldLink RX1 54 "ClosExchange$Network" "connected" "I") (List.mem_of_getElem? (i := 7) rfl)) (fun _ h9 => h9) rfl dX1_copyFrom_50 ?_
  refine gput (D := D) (ci := 1) (v := .int (o.1 6)) (ty := .int) (C := RX1) (T := TX1) (N := 16) (wf := ((nwW cI q (setF (setF (setF (setF (setF (setF (setF n 0 (o.1 0)) 1 (o.1 1)) 2 (o.1 2)) 3 (o.1 3)) 4 (o.1 4)) 5 (o.1 5)) 6 (o.1 6))) ++ (nwW cI qo o))) hx hb hts inX1 tyX1 tyX1_ok nmX1 hown hK.1 hP hD hS 0 rfl rfl 6 (by decide) (hts (.fieldLink RX1 54 "ClosExchange$Network" "connected" "I") (List.mem_of_getElem? (i := 7) rfl)) (fun _ h9 => h9) rfl (by decide +kernel) rfl rfl (Nat.le_of_ble_eq_true rfl) dX1_copyFrom_53 rfl (fun H locs hP hD hS => ?_)
  refine lv_aload_n hx hb dX1_copyFrom_56 rfl (lv_at hl 0 rfl) ?_
  refine lv_aload_n hx hb dX1_copyFrom_57 rfl (lv_at hl 1 rfl) ?_
  refine va_get (D := D) (ci := 1) (v := .int (o.1 7)) (C := RX1) (T := TX1) (N := 16) hx hb hts inX1 hown hK.1 hP 13 rfl rfl 7 (by decide) (hts (.fieldLink RX1 57 "ClosExchange$Network" "ended" "I") (List.mem_of_getElem? (i := 8) rfl)) (fun _ h9 => h9) rfl dX1_copyFrom_58 ?_
  refine gput (D := D) (ci := 1) (v := .int (o.1 7)) (ty := .int) (C := RX1) (T := TX1) (N := 16) (wf := ((nwW cI q (setF (setF (setF (setF (setF (setF (setF (setF n 0 (o.1 0)) 1 (o.1 1)) 2 (o.1 2)) 3 (o.1 3)) 4 (o.1 4)) 5 (o.1 5)) 6 (o.1 6)) 7 (o.1 7))) ++ (nwW cI qo o))) hx hb hts inX1 tyX1 tyX1_ok nmX1 hown hK.1 hP hD hS 0 rfl rfl 7 (by decide) (hts (.fieldLink RX1 57 "ClosExchange$Network" "ended" "I") (List.mem_of_getElem? (i := 8) rfl)) (fun _ h9 => h9) rfl (by decide +kernel) rfl rfl (Nat.le_of_ble_eq_true rfl) dX1_copyFrom_61 rfl (fun H locs hP hD hS => ?_)
  refine lv_aload_n hx hb dX1_copyFrom_64 rfl (lv_at hl 0 rfl) ?_
  refine lv_aload_n hx hb dX1_copyFrom_65 rfl (lv_at hl 1 rfl) ?_
  refine va_get (D := D) (ci := 1) (v := .int (o.1 8)) (C := RX1) (T := TX1) (N := 16) hx hb hts inX1 hown hK.1 hP 13 rfl rfl 8 (by decide) (hts (.fieldLink RX1 60 "ClosExchange$Network" "dropped" "I") (List.mem_of_getElem? (i := 9) rfl)) (fun _ h9 => h9) rfl dX1_copyFrom_66 ?_
  refine gput (D := D) (ci := 1) (v := .int (o.1 8)) (ty := .int) (C := RX1) (T := TX1) (N := 16) (wf := ((nwW cI q (setF (setF (setF (setF (setF (setF (setF (setF (setF n 0 (o.1 0)) 1 (o.1 1)) 2 (o.1 2)) 3 (o.1 3)) 4 (o.1 4)) 5 (o.1 5)) 6 (o.1 6)) 7 (o.1 7)) 8 (o.1 8))) ++ (nwW cI qo o))) hx hb hts inX1 tyX1 tyX1_ok nmX1 hown hK.1 hP hD hS 0 rfl rfl 8 (by decide) (hts (.fieldLink RX1 60 "ClosExchange$Network" "dropped" "I") (List.mem_of_getElem? (i := 9) rfl)) (fun _ h9 => h9) rfl (by decide +kernel) rfl rfl (Nat.le_of_ble_eq_true rfl) dX1_copyFrom_69 rfl (fun H locs hP hD hS => ?_)
  refine lv_aload_n hx hb dX1_copyFrom_72 rfl (lv_at hl 0 rfl) ?_
  refine lv_aload_n hx hb dX1_copyFrom_73 rfl (lv_at hl 1 rfl) ?_
  refine va_get (D := D) (ci := 1) (v := .int (o.1 9)) (C := RX1) (T := TX1) (N := 16) hx hb hts inX1 hown hK.1 hP 13 rfl rfl 9 (by decide) (hts (.fieldLink RX1 63 "ClosExchange$Network" "moved" "I") (List.mem_of_getElem? (i := 10) rfl)) (fun _ h9 => h9) rfl dX1_copyFrom_74 ?_
  refine gput (D := D) (ci := 1) (v := .int (o.1 9)) (ty := .int) (C := RX1) (T := TX1) (N := 16) (wf := ((nwW cI q (setF (setF (setF (setF (setF (setF (setF (setF (setF (setF n 0 (o.1 0)) 1 (o.1 1)) 2 (o.1 2)) 3 (o.1 3)) 4 (o.1 4)) 5 (o.1 5)) 6 (o.1 6)) 7 (o.1 7)) 8 (o.1 8)) 9 (o.1 9))) ++ (nwW cI qo o))) hx hb hts inX1 tyX1 tyX1_ok nmX1 hown hK.1 hP hD hS 0 rfl rfl 9 (by decide) (hts (.fieldLink RX1 63 "ClosExchange$Network" "moved" "I") (List.mem_of_getElem? (i := 10) rfl)) (fun _ h9 => h9) rfl (by decide +kernel) rfl rfl (Nat.le_of_ble_eq_true rfl) dX1_copyFrom_77 rfl (fun H locs hP hD hS => ?_)
  refine lv_aload_n hx hb dX1_copyFrom_80 rfl (lv_at hl 0 rfl) ?_
  refine va_get (D := D) (ci := 1) (v := .ref (q 1)) (C := RX1) (T := TX1) (N := 16) hx hb hts inX1 hown hK.1 hP 0 rfl rfl 10 (by decide) (hts (.fieldLink RX1 29 "ClosExchange$Network" "numbers" "LClosExchange$Row;") (List.mem_of_getElem? (i := 11) rfl)) (fun _ h9 => h9) rfl dX1_copyFrom_81 ?_
  refine lv_aload_n hx hb dX1_copyFrom_84 rfl (lv_at hl 1 rfl) ?_
  refine va_get (D := D) (ci := 1) (v := .ref (qo 1)) (C := RX1) (T := TX1) (N := 16) hx hb hts inX1 hown hK.1 hP 13 rfl rfl 10 (by decide) (hts (.fieldLink RX1 29 "ClosExchange$Network" "numbers" "LClosExchange$Row;") (List.mem_of_getElem? (i := 11) rfl)) (fun _ h9 => h9) rfl dX1_copyFrom_85 ?_
  refine cRc (rest := []) (i0 := 1) (i1 := 7) (j0 := 14) (j1 := 20) (wf := ((nwW cI q (setR (setF (setF (setF (setF (setF (setF (setF (setF (setF (setF n 0 (o.1 0)) 1 (o.1 1)) 2 (o.1 2)) 3 (o.1 3)) 4 (o.1 4)) 5 (o.1 5)) 6 (o.1 6)) 7 (o.1 7)) 8 (o.1 8)) 9 (o.1 9)) 0 (o.2 0))) ++ (nwW cI qo o))) S (c_X4_copyFrom l D cI cN (q 1) (q 7) (qo 1) (qo 7) 48 (Nat.le_of_ble_eq_true rfl) _ (n.2 0) (o.2 0)) (cwV 1 hts gX1_copyFrom_X4_copyFrom rfl rfl rfl (by decide +kernel) ⟨Nat.le_of_ble_eq_true rfl, Nat.le_of_ble_eq_true rfl⟩) hK hP hD hS hA rfl rfl rfl rfl rfl (by decide) rfl hl.1 rfl (Nat.le_of_ble_eq_true rfl) dX1_copyFrom_88 ⟨Nat.zero_le _, Nat.zero_le _⟩ (fun H locs hP hD hS => ?_)
  refine lv_aload_n hx hb dX1_copyFrom_91 rfl (lv_at hl 0 rfl) ?_
  refine va_get (D := D) (ci := 1) (v := .ref (q 2)) (C := RX1) (T := TX1) (N := 16) hx hb hts inX1 hown hK.1 hP 0 rfl rfl 11 (by decide) (hts (.fieldLink RX1 33 "ClosExchange$Network" "outlets" "LClosExchange$Row;") (List.mem_of_getElem? (i := 12) rfl)) (fun _ h9 => h9) rfl dX1_copyFrom_92 ?_
  refine lv_aload_n hx hb dX1_copyFrom_95 rfl (lv_at hl 1 rfl) ?_
  refine va_get (D := D) (ci := 1) (v := .ref (qo 2)) (C := RX1) (T := TX1) (N := 16) hx hb hts inX1 hown hK.1 hP 13 rfl rfl 11 (by decide) (hts (.fieldLink RX1 33 "ClosExchange$Network" "outlets" "LClosExchange$Row;") (List.mem_of_getElem? (i := 12) rfl)) (fun _ h9 => h9) rfl dX1_copyFrom_96 ?_
  refine cRc (rest := []) (i0 := 2) (i1 := 8) (j0 := 15) (j1 := 21) (wf := ((nwW cI q (setR (setR (setF (setF (setF (setF (setF (setF (setF (setF (setF (setF n 0 (o.1 0)) 1 (o.1 1)) 2 (o.1 2)) 3 (o.1 3)) 4 (o.1 4)) 5 (o.1 5)) 6 (o.1 6)) 7 (o.1 7)) 8 (o.1 8)) 9 (o.1 9)) 0 (o.2 0)) 1 (o.2 1))) ++ (nwW cI qo o))) S (c_X4_copyFrom l D cI cN (q 2) (q 8) (qo 2) (qo 8) 48 (Nat.le_of_ble_eq_true rfl) _ (n.2 1) (o.2 1)) (cwV 1 hts gX1_copyFrom_X4_copyFrom rfl rfl rfl (by decide +kernel) ⟨Nat.le_of_ble_eq_true rfl, Nat.le_of_ble_eq_true rfl⟩) hK hP hD hS hA rfl rfl rfl rfl rfl (by decide) rfl hl.1 rfl (Nat.le_of_ble_eq_true rfl) dX1_copyFrom_99 ⟨Nat.zero_le _, Nat.zero_le _⟩ (fun H locs hP hD hS => ?_)
  refine lv_aload_n hx hb dX1_copyFrom_102 rfl (lv_at hl 0 rfl) ?_
  refine va_get (D := D) (ci := 1) (v := .ref (q 3)) (C := RX1) (T := TX1) (N := 16) hx hb hts inX1 hown hK.1 hP 0 rfl rfl 12 (by decide) (hts (.fieldLink RX1 36 "ClosExchange$Network" "vias" "LClosExchange$Row;") (List.mem_of_getElem? (i := 13) rfl)) (fun _ h9 => h9) rfl dX1_copyFrom_103 ?_
  refine lv_aload_n hx hb dX1_copyFrom_106 rfl (lv_at hl 1 rfl) ?_
  refine va_get (D := D) (ci := 1) (v := .ref (qo 3)) (C := RX1) (T := TX1) (N := 16) hx hb hts inX1 hown hK.1 hP 13 rfl rfl 12 (by decide) (hts (.fieldLink RX1 36 "ClosExchange$Network" "vias" "LClosExchange$Row;") (List.mem_of_getElem? (i := 13) rfl)) (fun _ h9 => h9) rfl dX1_copyFrom_107 ?_
  refine cRc (rest := []) (i0 := 3) (i1 := 9) (j0 := 16) (j1 := 22) (wf := ((nwW cI q (setR (setR (setR (setF (setF (setF (setF (setF (setF (setF (setF (setF (setF n 0 (o.1 0)) 1 (o.1 1)) 2 (o.1 2)) 3 (o.1 3)) 4 (o.1 4)) 5 (o.1 5)) 6 (o.1 6)) 7 (o.1 7)) 8 (o.1 8)) 9 (o.1 9)) 0 (o.2 0)) 1 (o.2 1)) 2 (o.2 2))) ++ (nwW cI qo o))) S (c_X4_copyFrom l D cI cN (q 3) (q 9) (qo 3) (qo 9) 48 (Nat.le_of_ble_eq_true rfl) _ (n.2 2) (o.2 2)) (cwV 1 hts gX1_copyFrom_X4_copyFrom rfl rfl rfl (by decide +kernel) ⟨Nat.le_of_ble_eq_true rfl, Nat.le_of_ble_eq_true rfl⟩) hK hP hD hS hA rfl rfl rfl rfl rfl (by decide) rfl hl.1 rfl (Nat.le_of_ble_eq_true rfl) dX1_copyFrom_110 ⟨Nat.zero_le _, Nat.zero_le _⟩ (fun H locs hP hD hS => ?_)
  refine lv_aload_n hx hb dX1_copyFrom_113 rfl (lv_at hl 0 rfl) ?_
  refine va_get (D := D) (ci := 1) (v := .ref (q 4)) (C := RX1) (T := TX1) (N := 16) hx hb hts inX1 hown hK.1 hP 0 rfl rfl 13 (by decide) (hts (.fieldLink RX1 39 "ClosExchange$Network" "inlets" "LClosExchange$Row;") (List.mem_of_getElem? (i := 14) rfl)) (fun _ h9 => h9) rfl dX1_copyFrom_114 ?_
  refine lv_aload_n hx hb dX1_copyFrom_117 rfl (lv_at hl 1 rfl) ?_
  refine va_get (D := D) (ci := 1) (v := .ref (qo 4)) (C := RX1) (T := TX1) (N := 16) hx hb hts inX1 hown hK.1 hP 13 rfl rfl 13 (by decide) (hts (.fieldLink RX1 39 "ClosExchange$Network" "inlets" "LClosExchange$Row;") (List.mem_of_getElem? (i := 14) rfl)) (fun _ h9 => h9) rfl dX1_copyFrom_118 ?_
  refine cRc (rest := []) (i0 := 4) (i1 := 10) (j0 := 17) (j1 := 23) (wf := ((nwW cI q (setR (setR (setR (setR (setF (setF (setF (setF (setF (setF (setF (setF (setF (setF n 0 (o.1 0)) 1 (o.1 1)) 2 (o.1 2)) 3 (o.1 3)) 4 (o.1 4)) 5 (o.1 5)) 6 (o.1 6)) 7 (o.1 7)) 8 (o.1 8)) 9 (o.1 9)) 0 (o.2 0)) 1 (o.2 1)) 2 (o.2 2)) 3 (o.2 3))) ++ (nwW cI qo o))) S (c_X4_copyFrom l D cI cN (q 4) (q 10) (qo 4) (qo 10) 48 (Nat.le_of_ble_eq_true rfl) _ (n.2 3) (o.2 3)) (cwV 1 hts gX1_copyFrom_X4_copyFrom rfl rfl rfl (by decide +kernel) ⟨Nat.le_of_ble_eq_true rfl, Nat.le_of_ble_eq_true rfl⟩) hK hP hD hS hA rfl rfl rfl rfl rfl (by decide) rfl hl.1 rfl (Nat.le_of_ble_eq_true rfl) dX1_copyFrom_121 ⟨Nat.zero_le _, Nat.zero_le _⟩ (fun H locs hP hD hS => ?_)
  refine lv_aload_n hx hb dX1_copyFrom_124 rfl (lv_at hl 0 rfl) ?_
  refine va_get (D := D) (ci := 1) (v := .ref (q 5)) (C := RX1) (T := TX1) (N := 16) hx hb hts inX1 hown hK.1 hP 0 rfl rfl 14 (by decide) (hts (.fieldLink RX1 42 "ClosExchange$Network" "firstLinks" "LClosExchange$Row;") (List.mem_of_getElem? (i := 15) rfl)) (fun _ h9 => h9) rfl dX1_copyFrom_125 ?_
  refine lv_aload_n hx hb dX1_copyFrom_128 rfl (lv_at hl 1 rfl) ?_
  refine va_get (D := D) (ci := 1) (v := .ref (qo 5)) (C := RX1) (T := TX1) (N := 16) hx hb hts inX1 hown hK.1 hP 13 rfl rfl 14 (by decide) (hts (.fieldLink RX1 42 "ClosExchange$Network" "firstLinks" "LClosExchange$Row;") (List.mem_of_getElem? (i := 15) rfl)) (fun _ h9 => h9) rfl dX1_copyFrom_129 ?_
  refine cRc (rest := []) (i0 := 5) (i1 := 11) (j0 := 18) (j1 := 24) (wf := ((nwW cI q (setR (setR (setR (setR (setR (setF (setF (setF (setF (setF (setF (setF (setF (setF (setF n 0 (o.1 0)) 1 (o.1 1)) 2 (o.1 2)) 3 (o.1 3)) 4 (o.1 4)) 5 (o.1 5)) 6 (o.1 6)) 7 (o.1 7)) 8 (o.1 8)) 9 (o.1 9)) 0 (o.2 0)) 1 (o.2 1)) 2 (o.2 2)) 3 (o.2 3)) 4 (o.2 4))) ++ (nwW cI qo o))) S (c_X4_copyFrom l D cI cN (q 5) (q 11) (qo 5) (qo 11) 64 (Nat.le_of_ble_eq_true rfl) _ (n.2 4) (o.2 4)) (cwV 1 hts gX1_copyFrom_X4_copyFrom rfl rfl rfl (by decide +kernel) ⟨Nat.le_of_ble_eq_true rfl, Nat.le_of_ble_eq_true rfl⟩) hK hP hD hS hA rfl rfl rfl rfl rfl (by decide) rfl hl.1 rfl (Nat.le_of_ble_eq_true rfl) dX1_copyFrom_132 ⟨Nat.zero_le _, Nat.zero_le _⟩ (fun H locs hP hD hS => ?_)
  refine lv_aload_n hx hb dX1_copyFrom_135 rfl (lv_at hl 0 rfl) ?_
  refine va_get (D := D) (ci := 1) (v := .ref (q 6)) (C := RX1) (T := TX1) (N := 16) hx hb hts inX1 hown hK.1 hP 0 rfl rfl 15 (by decide) (hts (.fieldLink RX1 45 "ClosExchange$Network" "lastLinks" "LClosExchange$Row;") (List.mem_of_getElem? (i := 16) rfl)) (fun _ h9 => h9) rfl dX1_copyFrom_136 ?_
  refine lv_aload_n hx hb dX1_copyFrom_139 rfl (lv_at hl 1 rfl) ?_
  refine va_get (D := D) (ci := 1) (v := .ref (qo 6)) (C := RX1) (T := TX1) (N := 16) hx hb hts inX1 hown hK.1 hP 13 rfl rfl 15 (by decide) (hts (.fieldLink RX1 45 "ClosExchange$Network" "lastLinks" "LClosExchange$Row;") (List.mem_of_getElem? (i := 16) rfl)) (fun _ h9 => h9) rfl dX1_copyFrom_140 ?_
  refine cRc (rest := []) (i0 := 6) (i1 := 12) (j0 := 19) (j1 := 25) (wf := ((nwW cI q (setR (setR (setR (setR (setR (setR (setF (setF (setF (setF (setF (setF (setF (setF (setF (setF n 0 (o.1 0)) 1 (o.1 1)) 2 (o.1 2)) 3 (o.1 3)) 4 (o.1 4)) 5 (o.1 5)) 6 (o.1 6)) 7 (o.1 7)) 8 (o.1 8)) 9 (o.1 9)) 0 (o.2 0)) 1 (o.2 1)) 2 (o.2 2)) 3 (o.2 3)) 4 (o.2 4)) 5 (o.2 5))) ++ (nwW cI qo o))) S (c_X4_copyFrom l D cI cN (q 6) (q 12) (qo 6) (qo 12) 64 (Nat.le_of_ble_eq_true rfl) _ (n.2 5) (o.2 5)) (cwV 1 hts gX1_copyFrom_X4_copyFrom rfl rfl rfl (by decide +kernel) ⟨Nat.le_of_ble_eq_true rfl, Nat.le_of_ble_eq_true rfl⟩) hK hP hD hS hA rfl rfl rfl rfl rfl (by decide) rfl hl.1 rfl (Nat.le_of_ble_eq_true rfl) dX1_copyFrom_143 ⟨Nat.zero_le _, Nat.zero_le _⟩ (fun H locs hP hD hS => ?_)
  have e0 : (setR (setR (setR (setR (setR (setR (setF (setF (setF (setF (setF (setF (setF (setF (setF (setF n 0 (o.1 0)) 1 (o.1 1)) 2 (o.1 2)) 3 (o.1 3)) 4 (o.1 4)) 5 (o.1 5)) 6 (o.1 6)) 7 (o.1 7)) 8 (o.1 8)) 9 (o.1 9)) 0 (o.2 0)) 1 (o.2 1)) 2 (o.2 2)) 3 (o.2 3)) 4 (o.2 4)) 5 (o.2 5)) = n' := hf
  subst e0
  exact hret H locs ls _ dX1_copyFrom_146 hP hD hS
set_option maxRecDepth 100000 in
theorem c_X1_copyFromA (l : Launch) (D : va_G) (cI cN : ClassId) (q : Nat → Nat) (qo : Nat → Nat) (sz : Nat) (n : OS) (o : OS) (n' : OS) (hf : fX1_copyFromA n o = n') : CtV l D cI cN yX1_copyFrom wsX1_copyFrom rm_X1_copyFromA 0 0 [.ref (q 0), .ref (qo 0)] ((nwW cI q n) ++ (nwW cI qo o)) sz ((nwW cI q n') ++ (nwW cI qo o)) := by
  refine mV (cc := cX1_copyFrom) (maxL := 2) (by decide) rfl (Nat.le_of_ble_eq_true rfl) ?_
  intro p e s m args below meth c Q A S _ hK hP hD hS hA hret ls hl
  exact w_X1_copyFromA_0 S hK hA hret hf _ _ _ hP hD hS (lv_sub (show lv_has ls 2 [(0, .ref (q 0)), (1, .ref (qo 0))] from hl) [0, 1] rfl)
abbrev rm_X1_copyFromB : Room := { frames := 2, cells := 0, slots := 0, locals := 51 }
theorem in_X1_copyFromB_X1 : ∀ w ∈ u_ws RX1 TX1 16, w ∈ wsX1_copyFrom := fun w h => List.mem_cons_of_mem _ (List.mem_append_left _ (List.mem_append_right _ h))
set_option maxRecDepth 100000 in
set_option maxHeartbeats 4000000 in
theorem w_X1_copyFromB_0 {p : Program} {l : Launch} {e : Env} {s : State} {m : MethodId} {args : Array Value} {below : List Frame} {meth : Method} {c : Code} {Q : State → Prop} {D : va_G} {cI cN : ClassId} {A : Nat → Prop} {qo : Nat → Nat} {q : Nat → Nat} (S : CallFix p m c cX1_copyFrom 2 s args wsX1_copyFrom RX1) (hK : KN D cI cN s) (hA : ∀ q : Nat, s.heap.size ≤ q → A q) {o : OS} {n : OS} {n' : OS} (hret : ∀ (H : Heap) (locs : List Loc) (ls : Array Slot) (pc : Nat), decode cX1_copyFrom pc = .ok (.return_, 1) → va_P D vwCl ((nwW cI qo o) ++ (nwW cI q n')) H → va_D A ((nwW cI qo o) ++ (nwW cI q n')) → va_S A s.heap H locs → W p l e (headSpec wsX1_copyFrom rm_X1_copyFromB).room s m args below meth c H locs 0 0 Q (F0 m pc ls [])) (hf : fX1_copyFromB o n = n') (H : Heap) (locs : List Loc) (ls : Array Slot) (hP : va_P D vwCl ((nwW cI qo o) ++ (nwW cI q n)) H) (hD : va_D A ((nwW cI qo o) ++ (nwW cI q n))) (hS : va_S A s.heap H locs) (hl : lv_has ls 2 [(0, .ref (q 0)), (1, .ref (qo 0))]) : W p l e (headSpec wsX1_copyFrom rm_X1_copyFromB).room s m args below meth c H locs 0 0 Q (F0 m 0 ls []) := by
  obtain ⟨hx, hb, hml, hown, hts⟩ := id S
  have inX1 := in_X1_copyFromB_X1
  unfold fX1_copyFromB at hf
  refine lv_aload_n hx hb dX1_copyFrom_0 rfl (lv_at hl 0 rfl) ?_
  refine lv_aload_n hx hb dX1_copyFrom_1 rfl (lv_at hl 1 rfl) ?_
  refine va_get (D := D) (ci := 1) (v := .int (o.1 0)) (C := RX1) (T := TX1) (N := 16) hx hb hts inX1 hown hK.1 hP 0 rfl rfl 0 (by decide) (hts (.fieldLink RX1 9 "ClosExchange$Network" "boards" "I") (List.mem_of_getElem? (i := 1) rfl)) (fun _ h9 => h9) rfl dX1_copyFrom_2 ?_
  refine gput (D := D) (ci := 1) (v := .int (o.1 0)) (ty := .int) (C := RX1) (T := TX1) (N := 16) (wf := ((nwW cI qo o) ++ (nwW cI q (setF n 0 (o.1 0))))) hx hb hts inX1 tyX1 tyX1_ok nmX1 hown hK.1 hP hD hS 13 rfl rfl 0 (by decide) (hts (.fieldLink RX1 9 "ClosExchange$Network" "boards" "I") (List.mem_of_getElem? (i := 1) rfl)) (fun _ h9 => h9) rfl (by decide +kernel) rfl rfl (Nat.le_of_ble_eq_true rfl) dX1_copyFrom_5 rfl (fun H locs hP hD hS => ?_)
  refine lv_aload_n hx hb dX1_copyFrom_8 rfl (lv_at hl 0 rfl) ?_
  refine lv_aload_n hx hb dX1_copyFrom_9 rfl (lv_at hl 1 rfl) ?_
  refine va_get (D := D) (ci := 1) (v := .int (o.1 1)) (C := RX1) (T := TX1) (N := 16) hx hb hts inX1 hown hK.1 hP 0 rfl rfl 1 (by decide) (hts (.fieldLink RX1 15 "ClosExchange$Network" "lines" "I") (List.mem_of_getElem? (i := 2) rfl)) (fun _ h9 => h9) rfl dX1_copyFrom_10 ?_
  refine gput (D := D) (ci := 1) (v := .int (o.1 1)) (ty := .int) (C := RX1) (T := TX1) (N := 16) (wf := ((nwW cI qo o) ++ (nwW cI q (setF (setF n 0 (o.1 0)) 1 (o.1 1))))) hx hb hts inX1 tyX1 tyX1_ok nmX1 hown hK.1 hP hD hS 13 rfl rfl 1 (by decide) (hts (.fieldLink RX1 15 "ClosExchange$Network" "lines" "I") (List.mem_of_getElem? (i := 2) rfl)) (fun _ h9 => h9) rfl (by decide +kernel) rfl rfl (Nat.le_of_ble_eq_true rfl) dX1_copyFrom_13 rfl (fun H locs hP hD hS => ?_)
  refine lv_aload_n hx hb dX1_copyFrom_16 rfl (lv_at hl 0 rfl) ?_
  refine lv_aload_n hx hb dX1_copyFrom_17 rfl (lv_at hl 1 rfl) ?_
  refine va_get (D := D) (ci := 1) (v := .int (o.1 2)) (C := RX1) (T := TX1) (N := 16) hx hb hts inX1 hown hK.1 hP 0 rfl rfl 2 (by decide) (hts (.fieldLink RX1 18 "ClosExchange$Network" "middles" "I") (List.mem_of_getElem? (i := 3) rfl)) (fun _ h9 => h9) rfl dX1_copyFrom_18 ?_
  refine gput (D := D) (ci := 1) (v := .int (o.1 2)) (ty := .int) (C := RX1) (T := TX1) (N := 16) (wf := ((nwW cI qo o) ++ (nwW cI q (setF (setF (setF n 0 (o.1 0)) 1 (o.1 1)) 2 (o.1 2))))) hx hb hts inX1 tyX1 tyX1_ok nmX1 hown hK.1 hP hD hS 13 rfl rfl 2 (by decide) (hts (.fieldLink RX1 18 "ClosExchange$Network" "middles" "I") (List.mem_of_getElem? (i := 3) rfl)) (fun _ h9 => h9) rfl (by decide +kernel) rfl rfl (Nat.le_of_ble_eq_true rfl) dX1_copyFrom_21 rfl (fun H locs hP hD hS => ?_)
  refine lv_aload_n hx hb dX1_copyFrom_24 rfl (lv_at hl 0 rfl) ?_
  refine lv_aload_n hx hb dX1_copyFrom_25 rfl (lv_at hl 1 rfl) ?_
  refine va_get (D := D) (ci := 1) (v := .int (o.1 3)) (C := RX1) (T := TX1) (N := 16) hx hb hts inX1 hown hK.1 hP 0 rfl rfl 3 (by decide) (hts (.fieldLink RX1 21 "ClosExchange$Network" "service" "I") (List.mem_of_getElem? (i := 4) rfl)) (fun _ h9 => h9) rfl dX1_copyFrom_26 ?_
  refine gput (D := D) (ci := 1) (v := .int (o.1 3)) (ty := .int) (C := RX1) (T := TX1) (N := 16) (wf := ((nwW cI qo o) ++ (nwW cI q (setF (setF (setF (setF n 0 (o.1 0)) 1 (o.1 1)) 2 (o.1 2)) 3 (o.1 3))))) hx hb hts inX1 tyX1 tyX1_ok nmX1 hown hK.1 hP hD hS 13 rfl rfl 3 (by decide) (hts (.fieldLink RX1 21 "ClosExchange$Network" "service" "I") (List.mem_of_getElem? (i := 4) rfl)) (fun _ h9 => h9) rfl (by decide +kernel) rfl rfl (Nat.le_of_ble_eq_true rfl) dX1_copyFrom_29 rfl (fun H locs hP hD hS => ?_)
  refine lv_aload_n hx hb dX1_copyFrom_32 rfl (lv_at hl 0 rfl) ?_
  refine lv_aload_n hx hb dX1_copyFrom_33 rfl (lv_at hl 1 rfl) ?_
  refine va_get (D := D) (ci := 1) (v := .int (o.1 4)) (C := RX1) (T := TX1) (N := 16) hx hb hts inX1 hown hK.1 hP 0 rfl rfl 4 (by decide) (hts (.fieldLink RX1 48 "ClosExchange$Network" "choiceRule" "I") (List.mem_of_getElem? (i := 5) rfl)) (fun _ h9 => h9) rfl dX1_copyFrom_34 ?_
  refine gput (D := D) (ci := 1) (v := .int (o.1 4)) (ty := .int) (C := RX1) (T := TX1) (N := 16) (wf := ((nwW cI qo o) ++ (nwW cI q (setF (setF (setF (setF (setF n 0 (o.1 0)) 1 (o.1 1)) 2 (o.1 2)) 3 (o.1 3)) 4 (o.1 4))))) hx hb hts inX1 tyX1 tyX1_ok nmX1 hown hK.1 hP hD hS 13 rfl rfl 4 (by decide) (hts (.fieldLink RX1 48 "ClosExchange$Network" "choiceRule" "I") (List.mem_of_getElem? (i := 5) rfl)) (fun _ h9 => h9) rfl (by decide +kernel) rfl rfl (Nat.le_of_ble_eq_true rfl) dX1_copyFrom_37 rfl (fun H locs hP hD hS => ?_)
  refine lv_aload_n hx hb dX1_copyFrom_40 rfl (lv_at hl 0 rfl) ?_
  refine lv_aload_n hx hb dX1_copyFrom_41 rfl (lv_at hl 1 rfl) ?_
  refine va_get (D := D) (ci := 1) (v := .int (o.1 5)) (C := RX1) (T := TX1) (N := 16) hx hb hts inX1 hown hK.1 hP 0 rfl rfl 5 (by decide) (hts (.fieldLink RX1 51 "ClosExchange$Network" "pairRule" "I") (List.mem_of_getElem? (i := 6) rfl)) (fun _ h9 => h9) rfl dX1_copyFrom_42 ?_
  refine gput (D := D) (ci := 1) (v := .int (o.1 5)) (ty := .int) (C := RX1) (T := TX1) (N := 16) (wf := ((nwW cI qo o) ++ (nwW cI q (setF (setF (setF (setF (setF (setF n 0 (o.1 0)) 1 (o.1 1)) 2 (o.1 2)) 3 (o.1 3)) 4 (o.1 4)) 5 (o.1 5))))) hx hb hts inX1 tyX1 tyX1_ok nmX1 hown hK.1 hP hD hS 13 rfl rfl 5 (by decide) (hts (.fieldLink RX1 51 "ClosExchange$Network" "pairRule" "I") (List.mem_of_getElem? (i := 6) rfl)) (fun _ h9 => h9) rfl (by decide +kernel) rfl rfl (Nat.le_of_ble_eq_true rfl) dX1_copyFrom_45 rfl (fun H locs hP hD hS => ?_)
  refine lv_aload_n hx hb dX1_copyFrom_48 rfl (lv_at hl 0 rfl) ?_
  refine lv_aload_n hx hb dX1_copyFrom_49 rfl (lv_at hl 1 rfl) ?_
  refine va_get (D := D) (ci := 1) (v := .int (o.1 6)) (C := RX1) (T := TX1) (N := 16) hx hb hts inX1 hown hK.1 hP 0 rfl rfl 6 (by decide) (hts (.fieldLink RX1 54 "ClosExchange$Network" "connected" "I") (List.mem_of_getElem? (i := 7) rfl)) (fun _ h9 => h9) rfl dX1_copyFrom_50 ?_
  refine gput (D := D) (ci := 1) (v := .int (o.1 6)) (ty := .int) (C := RX1) (T := TX1) (N := 16) (wf := ((nwW cI qo o) ++ (nwW cI q (setF (setF (setF (setF (setF (setF (setF n 0 (o.1 0)) 1 (o.1 1)) 2 (o.1 2)) 3 (o.1 3)) 4 (o.1 4)) 5 (o.1 5)) 6 (o.1 6))))) hx hb hts inX1 tyX1 tyX1_ok nmX1 hown hK.1 hP hD hS 13 rfl rfl 6 (by decide) (hts (.fieldLink RX1 54 "ClosExchange$Network" "connected" "I") (List.mem_of_getElem? (i := 7) rfl)) (fun _ h9 => h9) rfl (by decide +kernel) rfl rfl (Nat.le_of_ble_eq_true rfl) dX1_copyFrom_53 rfl (fun H locs hP hD hS => ?_)
  refine lv_aload_n hx hb dX1_copyFrom_56 rfl (lv_at hl 0 rfl) ?_
  refine lv_aload_n hx hb dX1_copyFrom_57 rfl (lv_at hl 1 rfl) ?_
  refine va_get (D := D) (ci := 1) (v := .int (o.1 7)) (C := RX1) (T := TX1) (N := 16) hx hb hts inX1 hown hK.1 hP 0 rfl rfl 7 (by decide) (hts (.fieldLink RX1 57 "ClosExchange$Network" "ended" "I") (List.mem_of_getElem? (i := 8) rfl)) (fun _ h9 => h9) rfl dX1_copyFrom_58 ?_
  refine gput (D := D) (ci := 1) (v := .int (o.1 7)) (ty := .int) (C := RX1) (T := TX1) (N := 16) (wf := ((nwW cI qo o) ++ (nwW cI q (setF (setF (setF (setF (setF (setF (setF (setF n 0 (o.1 0)) 1 (o.1 1)) 2 (o.1 2)) 3 (o.1 3)) 4 (o.1 4)) 5 (o.1 5)) 6 (o.1 6)) 7 (o.1 7))))) hx hb hts inX1 tyX1 tyX1_ok nmX1 hown hK.1 hP hD hS 13 rfl rfl 7 (by decide) (hts (.fieldLink RX1 57 "ClosExchange$Network" "ended" "I") (List.mem_of_getElem? (i := 8) rfl)) (fun _ h9 => h9) rfl (by decide +kernel) rfl rfl (Nat.le_of_ble_eq_true rfl) dX1_copyFrom_61 rfl (fun H locs hP hD hS => ?_)
  refine lv_aload_n hx hb dX1_copyFrom_64 rfl (lv_at hl 0 rfl) ?_
  refine lv_aload_n hx hb dX1_copyFrom_65 rfl (lv_at hl 1 rfl) ?_
  refine va_get (D := D) (ci := 1) (v := .int (o.1 8)) (C := RX1) (T := TX1) (N := 16) hx hb hts inX1 hown hK.1 hP 0 rfl rfl 8 (by decide) (hts (.fieldLink RX1 60 "ClosExchange$Network" "dropped" "I") (List.mem_of_getElem? (i := 9) rfl)) (fun _ h9 => h9) rfl dX1_copyFrom_66 ?_
  refine gput (D := D) (ci := 1) (v := .int (o.1 8)) (ty := .int) (C := RX1) (T := TX1) (N := 16) (wf := ((nwW cI qo o) ++ (nwW cI q (setF (setF (setF (setF (setF (setF (setF (setF (setF n 0 (o.1 0)) 1 (o.1 1)) 2 (o.1 2)) 3 (o.1 3)) 4 (o.1 4)) 5 (o.1 5)) 6 (o.1 6)) 7 (o.1 7)) 8 (o.1 8))))) hx hb hts inX1 tyX1 tyX1_ok nmX1 hown hK.1 hP hD hS 13 rfl rfl 8 (by decide) (hts (.fieldLink RX1 60 "ClosExchange$Network" "dropped" "I") (List.mem_of_getElem? (i := 9) rfl)) (fun _ h9 => h9) rfl (by decide +kernel) rfl rfl (Nat.le_of_ble_eq_true rfl) dX1_copyFrom_69 rfl (fun H locs hP hD hS => ?_)
  refine lv_aload_n hx hb dX1_copyFrom_72 rfl (lv_at hl 0 rfl) ?_
  refine lv_aload_n hx hb dX1_copyFrom_73 rfl (lv_at hl 1 rfl) ?_
  refine va_get (D := D) (ci := 1) (v := .int (o.1 9)) (C := RX1) (T := TX1) (N := 16) hx hb hts inX1 hown hK.1 hP 0 rfl rfl 9 (by decide) (hts (.fieldLink RX1 63 "ClosExchange$Network" "moved" "I") (List.mem_of_getElem? (i := 10) rfl)) (fun _ h9 => h9) rfl dX1_copyFrom_74 ?_
  refine gput (D := D) (ci := 1) (v := .int (o.1 9)) (ty := .int) (C := RX1) (T := TX1) (N := 16) (wf := ((nwW cI qo o) ++ (nwW cI q (setF (setF (setF (setF (setF (setF (setF (setF (setF (setF n 0 (o.1 0)) 1 (o.1 1)) 2 (o.1 2)) 3 (o.1 3)) 4 (o.1 4)) 5 (o.1 5)) 6 (o.1 6)) 7 (o.1 7)) 8 (o.1 8)) 9 (o.1 9))))) hx hb hts inX1 tyX1 tyX1_ok nmX1 hown hK.1 hP hD hS 13 rfl rfl 9 (by decide) (hts (.fieldLink RX1 63 "ClosExchange$Network" "moved" "I") (List.mem_of_getElem? (i := 10) rfl)) (fun _ h9 => h9) rfl (by decide +kernel) rfl rfl (Nat.le_of_ble_eq_true rfl) dX1_copyFrom_77 rfl (fun H locs hP hD hS => ?_)
  refine lv_aload_n hx hb dX1_copyFrom_80 rfl (lv_at hl 0 rfl) ?_
  refine va_get (D := D) (ci := 1) (v := .ref (q 1)) (C := RX1) (T := TX1) (N := 16) hx hb hts inX1 hown hK.1 hP 13 rfl rfl 10 (by decide) (hts (.fieldLink RX1 29 "ClosExchange$Network" "numbers" "LClosExchange$Row;") (List.mem_of_getElem? (i := 11) rfl)) (fun _ h9 => h9) rfl dX1_copyFrom_81 ?_
  refine lv_aload_n hx hb dX1_copyFrom_84 rfl (lv_at hl 1 rfl) ?_
  refine va_get (D := D) (ci := 1) (v := .ref (qo 1)) (C := RX1) (T := TX1) (N := 16) hx hb hts inX1 hown hK.1 hP 0 rfl rfl 10 (by decide) (hts (.fieldLink RX1 29 "ClosExchange$Network" "numbers" "LClosExchange$Row;") (List.mem_of_getElem? (i := 11) rfl)) (fun _ h9 => h9) rfl dX1_copyFrom_85 ?_
  refine cRc (rest := []) (i0 := 14) (i1 := 20) (j0 := 1) (j1 := 7) (wf := ((nwW cI qo o) ++ (nwW cI q (setR (setF (setF (setF (setF (setF (setF (setF (setF (setF (setF n 0 (o.1 0)) 1 (o.1 1)) 2 (o.1 2)) 3 (o.1 3)) 4 (o.1 4)) 5 (o.1 5)) 6 (o.1 6)) 7 (o.1 7)) 8 (o.1 8)) 9 (o.1 9)) 0 (o.2 0))))) S (c_X4_copyFrom l D cI cN (q 1) (q 7) (qo 1) (qo 7) 48 (Nat.le_of_ble_eq_true rfl) _ (n.2 0) (o.2 0)) (cwV 1 hts gX1_copyFrom_X4_copyFrom rfl rfl rfl (by decide +kernel) ⟨Nat.le_of_ble_eq_true rfl, Nat.le_of_ble_eq_true rfl⟩) hK hP hD hS hA rfl rfl rfl rfl rfl (by decide) rfl hl.1 rfl (Nat.le_of_ble_eq_true rfl) dX1_copyFrom_88 ⟨Nat.zero_le _, Nat.zero_le _⟩ (fun H locs hP hD hS => ?_)
  refine lv_aload_n hx hb dX1_copyFrom_91 rfl (lv_at hl 0 rfl) ?_
  refine va_get (D := D) (ci := 1) (v := .ref (q 2)) (C := RX1) (T := TX1) (N := 16) hx hb hts inX1 hown hK.1 hP 13 rfl rfl 11 (by decide) (hts (.fieldLink RX1 33 "ClosExchange$Network" "outlets" "LClosExchange$Row;") (List.mem_of_getElem? (i := 12) rfl)) (fun _ h9 => h9) rfl dX1_copyFrom_92 ?_
  refine lv_aload_n hx hb dX1_copyFrom_95 rfl (lv_at hl 1 rfl) ?_
  refine va_get (D := D) (ci := 1) (v := .ref (qo 2)) (C := RX1) (T := TX1) (N := 16) hx hb hts inX1 hown hK.1 hP 0 rfl rfl 11 (by decide) (hts (.fieldLink RX1 33 "ClosExchange$Network" "outlets" "LClosExchange$Row;") (List.mem_of_getElem? (i := 12) rfl)) (fun _ h9 => h9) rfl dX1_copyFrom_96 ?_
  refine cRc (rest := []) (i0 := 15) (i1 := 21) (j0 := 2) (j1 := 8) (wf := ((nwW cI qo o) ++ (nwW cI q (setR (setR (setF (setF (setF (setF (setF (setF (setF (setF (setF (setF n 0 (o.1 0)) 1 (o.1 1)) 2 (o.1 2)) 3 (o.1 3)) 4 (o.1 4)) 5 (o.1 5)) 6 (o.1 6)) 7 (o.1 7)) 8 (o.1 8)) 9 (o.1 9)) 0 (o.2 0)) 1 (o.2 1))))) S (c_X4_copyFrom l D cI cN (q 2) (q 8) (qo 2) (qo 8) 48 (Nat.le_of_ble_eq_true rfl) _ (n.2 1) (o.2 1)) (cwV 1 hts gX1_copyFrom_X4_copyFrom rfl rfl rfl (by decide +kernel) ⟨Nat.le_of_ble_eq_true rfl, Nat.le_of_ble_eq_true rfl⟩) hK hP hD hS hA rfl rfl rfl rfl rfl (by decide) rfl hl.1 rfl (Nat.le_of_ble_eq_true rfl) dX1_copyFrom_99 ⟨Nat.zero_le _, Nat.zero_le _⟩ (fun H locs hP hD hS => ?_)
  refine lv_aload_n hx hb dX1_copyFrom_102 rfl (lv_at hl 0 rfl) ?_
  refine va_get (D := D) (ci := 1) (v := .ref (q 3)) (C := RX1) (T := TX1) (N := 16) hx hb hts inX1 hown hK.1 hP 13 rfl rfl 12 (by decide) (hts (.fieldLink RX1 36 "ClosExchange$Network" "vias" "LClosExchange$Row;") (List.mem_of_getElem? (i := 13) rfl)) (fun _ h9 => h9) rfl dX1_copyFrom_103 ?_
  refine lv_aload_n hx hb dX1_copyFrom_106 rfl (lv_at hl 1 rfl) ?_
  refine va_get (D := D) (ci := 1) (v := .ref (qo 3)) (C := RX1) (T := TX1) (N := 16) hx hb hts inX1 hown hK.1 hP 0 rfl rfl 12 (by decide) (hts (.fieldLink RX1 36 "ClosExchange$Network" "vias" "LClosExchange$Row;") (List.mem_of_getElem? (i := 13) rfl)) (fun _ h9 => h9) rfl dX1_copyFrom_107 ?_
  refine cRc (rest := []) (i0 := 16) (i1 := 22) (j0 := 3) (j1 := 9) (wf := ((nwW cI qo o) ++ (nwW cI q (setR (setR (setR (setF (setF (setF (setF (setF (setF (setF (setF (setF (setF n 0 (o.1 0)) 1 (o.1 1)) 2 (o.1 2)) 3 (o.1 3)) 4 (o.1 4)) 5 (o.1 5)) 6 (o.1 6)) 7 (o.1 7)) 8 (o.1 8)) 9 (o.1 9)) 0 (o.2 0)) 1 (o.2 1)) 2 (o.2 2))))) S (c_X4_copyFrom l D cI cN (q 3) (q 9) (qo 3) (qo 9) 48 (Nat.le_of_ble_eq_true rfl) _ (n.2 2) (o.2 2)) (cwV 1 hts gX1_copyFrom_X4_copyFrom rfl rfl rfl (by decide +kernel) ⟨Nat.le_of_ble_eq_true rfl, Nat.le_of_ble_eq_true rfl⟩) hK hP hD hS hA rfl rfl rfl rfl rfl (by decide) rfl hl.1 rfl (Nat.le_of_ble_eq_true rfl) dX1_copyFrom_110 ⟨Nat.zero_le _, Nat.zero_le _⟩ (fun H locs hP hD hS => ?_)
  refine lv_aload_n hx hb dX1_copyFrom_113 rfl (lv_at hl 0 rfl) ?_
  refine va_get (D := D) (ci := 1) (v := .ref (q 4)) (C := RX1) (T := TX1) (N := 16) hx hb hts inX1 hown hK.1 hP 13 rfl rfl 13 (by decide) (hts (.fieldLink RX1 39 "ClosExchange$Network" "inlets" "LClosExchange$Row;") (List.mem_of_getElem? (i := 14) rfl)) (fun _ h9 => h9) rfl dX1_copyFrom_114 ?_
  refine lv_aload_n hx hb dX1_copyFrom_117 rfl (lv_at hl 1 rfl) ?_
  refine va_get (D := D) (ci := 1) (v := .ref (qo 4)) (C := RX1) (T := TX1) (N := 16) hx hb hts inX1 hown hK.1 hP 0 rfl rfl 13 (by decide) (hts (.fieldLink RX1 39 "ClosExchange$Network" "inlets" "LClosExchange$Row;") (List.mem_of_getElem? (i := 14) rfl)) (fun _ h9 => h9) rfl dX1_copyFrom_118 ?_
  refine cRc (rest := []) (i0 := 17) (i1 := 23) (j0 := 4) (j1 := 10) (wf := ((nwW cI qo o) ++ (nwW cI q (setR (setR (setR (setR (setF (setF (setF (setF (setF (setF (setF (setF (setF (setF n 0 (o.1 0)) 1 (o.1 1)) 2 (o.1 2)) 3 (o.1 3)) 4 (o.1 4)) 5 (o.1 5)) 6 (o.1 6)) 7 (o.1 7)) 8 (o.1 8)) 9 (o.1 9)) 0 (o.2 0)) 1 (o.2 1)) 2 (o.2 2)) 3 (o.2 3))))) S (c_X4_copyFrom l D cI cN (q 4) (q 10) (qo 4) (qo 10) 48 (Nat.le_of_ble_eq_true rfl) _ (n.2 3) (o.2 3)) (cwV 1 hts gX1_copyFrom_X4_copyFrom rfl rfl rfl (by decide +kernel) ⟨Nat.le_of_ble_eq_true rfl, Nat.le_of_ble_eq_true rfl⟩) hK hP hD hS hA rfl rfl rfl rfl rfl (by decide) rfl hl.1 rfl (Nat.le_of_ble_eq_true rfl) dX1_copyFrom_121 ⟨Nat.zero_le _, Nat.zero_le _⟩ (fun H locs hP hD hS => ?_)
  refine lv_aload_n hx hb dX1_copyFrom_124 rfl (lv_at hl 0 rfl) ?_
  refine va_get (D := D) (ci := 1) (v := .ref (q 5)) (C := RX1) (T := TX1) (N := 16) hx hb hts inX1 hown hK.1 hP 13 rfl rfl 14 (by decide) (hts (.fieldLink RX1 42 "ClosExchange$Network" "firstLinks" "LClosExchange$Row;") (List.mem_of_getElem? (i := 15) rfl)) (fun _ h9 => h9) rfl dX1_copyFrom_125 ?_
  refine lv_aload_n hx hb dX1_copyFrom_128 rfl (lv_at hl 1 rfl) ?_
  refine va_get (D := D) (ci := 1) (v := .ref (qo 5)) (C := RX1) (T := TX1) (N := 16) hx hb hts inX1 hown hK.1 hP 0 rfl rfl 14 (by decide) (hts (.fieldLink RX1 42 "ClosExchange$Network" "firstLinks" "LClosExchange$Row;") (List.mem_of_getElem? (i := 15) rfl)) (fun _ h9 => h9) rfl dX1_copyFrom_129 ?_
  refine cRc (rest := []) (i0 := 18) (i1 := 24) (j0 := 5) (j1 := 11) (wf := ((nwW cI qo o) ++ (nwW cI q (setR (setR (setR (setR (setR (setF (setF (setF (setF (setF (setF (setF (setF (setF (setF n 0 (o.1 0)) 1 (o.1 1)) 2 (o.1 2)) 3 (o.1 3)) 4 (o.1 4)) 5 (o.1 5)) 6 (o.1 6)) 7 (o.1 7)) 8 (o.1 8)) 9 (o.1 9)) 0 (o.2 0)) 1 (o.2 1)) 2 (o.2 2)) 3 (o.2 3)) 4 (o.2 4))))) S (c_X4_copyFrom l D cI cN (q 5) (q 11) (qo 5) (qo 11) 64 (Nat.le_of_ble_eq_true rfl) _ (n.2 4) (o.2 4)) (cwV 1 hts gX1_copyFrom_X4_copyFrom rfl rfl rfl (by decide +kernel) ⟨Nat.le_of_ble_eq_true rfl, Nat.le_of_ble_eq_true rfl⟩) hK hP hD hS hA rfl rfl rfl rfl rfl (by decide) rfl hl.1 rfl (Nat.le_of_ble_eq_true rfl) dX1_copyFrom_132 ⟨Nat.zero_le _, Nat.zero_le _⟩ (fun H locs hP hD hS => ?_)
  refine lv_aload_n hx hb dX1_copyFrom_135 rfl (lv_at hl 0 rfl) ?_
  refine va_get (D := D) (ci := 1) (v := .ref (q 6)) (C := RX1) (T := TX1) (N := 16) hx hb hts inX1 hown hK.1 hP 13 rfl rfl 15 (by decide) (hts (.fieldLink RX1 45 "ClosExchange$Network" "lastLinks" "LClosExchange$Row;") (List.mem_of_getElem? (i := 16) rfl)) (fun _ h9 => h9) rfl dX1_copyFrom_136 ?_
  refine lv_aload_n hx hb dX1_copyFrom_139 rfl (lv_at hl 1 rfl) ?_
  refine va_get (D := D) (ci := 1) (v := .ref (qo 6)) (C := RX1) (T := TX1) (N := 16) hx hb hts inX1 hown hK.1 hP 0 rfl rfl 15 (by decide) (hts (.fieldLink RX1 45 "ClosExchange$Network" "lastLinks" "LClosExchange$Row;") (List.mem_of_getElem? (i := 16) rfl)) (fun _ h9 => h9) rfl dX1_copyFrom_140 ?_
  refine cRc (rest := []) (i0 := 19) (i1 := 25) (j0 := 6) (j1 := 12) (wf := ((nwW cI qo o) ++ (nwW cI q (setR (setR (setR (setR (setR (setR (setF (setF (setF (setF (setF (setF (setF (setF (setF (setF n 0 (o.1 0)) 1 (o.1 1)) 2 (o.1 2)) 3 (o.1 3)) 4 (o.1 4)) 5 (o.1 5)) 6 (o.1 6)) 7 (o.1 7)) 8 (o.1 8)) 9 (o.1 9)) 0 (o.2 0)) 1 (o.2 1)) 2 (o.2 2)) 3 (o.2 3)) 4 (o.2 4)) 5 (o.2 5))))) S (c_X4_copyFrom l D cI cN (q 6) (q 12) (qo 6) (qo 12) 64 (Nat.le_of_ble_eq_true rfl) _ (n.2 5) (o.2 5)) (cwV 1 hts gX1_copyFrom_X4_copyFrom rfl rfl rfl (by decide +kernel) ⟨Nat.le_of_ble_eq_true rfl, Nat.le_of_ble_eq_true rfl⟩) hK hP hD hS hA rfl rfl rfl rfl rfl (by decide) rfl hl.1 rfl (Nat.le_of_ble_eq_true rfl) dX1_copyFrom_143 ⟨Nat.zero_le _, Nat.zero_le _⟩ (fun H locs hP hD hS => ?_)
  have e0 : (setR (setR (setR (setR (setR (setR (setF (setF (setF (setF (setF (setF (setF (setF (setF (setF n 0 (o.1 0)) 1 (o.1 1)) 2 (o.1 2)) 3 (o.1 3)) 4 (o.1 4)) 5 (o.1 5)) 6 (o.1 6)) 7 (o.1 7)) 8 (o.1 8)) 9 (o.1 9)) 0 (o.2 0)) 1 (o.2 1)) 2 (o.2 2)) 3 (o.2 3)) 4 (o.2 4)) 5 (o.2 5)) = n' := hf
  subst e0
  exact hret H locs ls _ dX1_copyFrom_146 hP hD hS
set_option maxRecDepth 100000 in
theorem c_X1_copyFromB (l : Launch) (D : va_G) (cI cN : ClassId) (qo : Nat → Nat) (q : Nat → Nat) (sz : Nat) (o : OS) (n : OS) (n' : OS) (hf : fX1_copyFromB o n = n') : CtV l D cI cN yX1_copyFrom wsX1_copyFrom rm_X1_copyFromB 0 0 [.ref (q 0), .ref (qo 0)] ((nwW cI qo o) ++ (nwW cI q n)) sz ((nwW cI qo o) ++ (nwW cI q n')) := by
  refine mV (cc := cX1_copyFrom) (maxL := 2) (by decide) rfl (Nat.le_of_ble_eq_true rfl) ?_
  intro p e s m args below meth c Q A S _ hK hP hD hS hA hret ls hl
  exact w_X1_copyFromB_0 S hK hA hret hf _ _ _ hP hD hS (lv_sub (show lv_has ls 2 [(0, .ref (q 0)), (1, .ref (qo 0))] from hl) [0, 1] rfl)
theorem ncp_eq (cI : ClassId) (q : Nat → Nat) (n o : OS) : nwW cI q (fX1_copyFromA n o) = nwW cI q o := rfl
theorem ncp_eqB (cI : ClassId) (q : Nat → Nat) (n o : OS) : nwW cI q (fX1_copyFromB o n) = nwW cI q o := rfl
abbrev rm_X1_copyFrom : Room := rm_X1_copyFromA
theorem c_X1_copyFrom (l : Launch) (D : va_G) (cI cN : ClassId) (q qo : Nat → Nat) (sz : Nat) (n o : OS) : CtV l D cI cN yX1_copyFrom wsX1_copyFrom rm_X1_copyFromA 0 0 [.ref (q 0), .ref (qo 0)] (nwW cI q n ++ nwW cI qo o) sz (nwW cI q o ++ nwW cI qo o) := by
  rw [← ncp_eq cI q n o]
  exact c_X1_copyFromA l D cI cN q qo sz n o _ rfl
theorem c_X1_copyFromR (l : Launch) (D : va_G) (cI cN : ClassId) (q qo : Nat → Nat) (sz : Nat) (n o : OS) : CtV l D cI cN yX1_copyFrom wsX1_copyFrom rm_X1_copyFromB 0 0 [.ref (q 0), .ref (qo 0)] (nwW cI qo o ++ nwW cI q n) sz (nwW cI qo o ++ nwW cI q o) := by
  have h := c_X1_copyFromB l D cI cN qo q sz o n _ rfl
  rw [ncp_eqB] at h
  exact h
