abbrev rm_X5_link : Room := { frames := 0, cells := 0, slots := 0, locals := 0 }
set_option maxRecDepth 100000 in
set_option maxHeartbeats 4000000 in
theorem w_X5_link_0 {p : Program} {l : Launch} {e : Env} {s : State} {m : MethodId} {args : Array Value} {below : List Frame} {meth : Method} {c : Code} {Q : State → Prop} {D : va_G} {cI cN : ClassId}  (S : CallFix p m c cX5_link 2 s args wsX5_link RX5) (hK : KN D cI cN s) {x0 : Int32} {x1 : Int32} {r0 : Int32} (hret : ∀ (H : Heap) (locs : List Loc) (ls : Array Slot) (pc : Nat), decode cX5_link pc = .ok (.ireturn, 1) → narrow .int (.int r0) = .int r0 → va_S (nwA s.heap.size) s.heap H locs → W p l e (headSpec wsX5_link rm_X5_link).room s m args below meth c H locs 0 0 Q (F0 m pc ls [.int r0])) (hf : fX5_link x0 x1 = r0) (H : Heap) (locs : List Loc) (ls : Array Slot) (hP : va_P D vwCl ([] : va_W) H) (hS : va_S (nwA s.heap.size) s.heap H locs) (hl : lv_has ls 2 [(0, .int x0), (1, .int x1)]) : W p l e (headSpec wsX5_link rm_X5_link).room s m args below meth c H locs 0 0 Q (F0 m 0 ls []) := by
  obtain ⟨hx, hb, hml, hown, hts⟩ := id S
  have hA : ∀ q : Nat, s.heap.size ≤ q → nwA s.heap.size q := fun _ h => h
  unfold fX5_link at hf
  refine lv_iload_n hx hb dX5_link_0 rfl (lv_at hl 0 rfl) ?_
  refine lv_bipush (v := (8 : Int32)) hx hb dX5_link_1 kc_bipush_8 ?_
  refine lv_imul hx hb dX5_link_3 ?_
  refine lv_iload_n hx hb dX5_link_4 rfl (lv_at hl 1 rfl) ?_
  refine lv_iadd hx hb dX5_link_5 ?_
  have e0 : ((x0 * (8 : Int32)) + x1) = r0 := hf
  subst e0
  exact hret H locs ls _ dX5_link_6 rfl hS
set_option maxRecDepth 100000 in
theorem c_X5_link (l : Launch) (D : va_G) (cI cN : ClassId)  (sz : Nat) (x0 : Int32) (x1 : Int32) (r0 : Int32) (hf : fX5_link x0 x1 = r0) : CtP l D cI cN yX5_link wsX5_link rm_X5_link [.int x0, .int x1] ([] : va_W) sz r0 := by
  refine mP (cc := cX5_link) (maxL := 2) (ty := .int) (by decide) rfl rfl (Nat.le_of_ble_eq_true rfl) ?_
  intro p e s m args below meth c Q S hK hP hS hret ls hl
  exact w_X5_link_0 S hK hret hf _ _ _ hP hS (lv_sub (show lv_has ls 2 [(0, .int x0), (1, .int x1)] from hl) [0, 1] rfl)
abbrev rm_X5_hasBit : Room := { frames := 0, cells := 0, slots := 0, locals := 0 }
set_option maxRecDepth 100000 in
set_option maxHeartbeats 4000000 in
theorem w_X5_hasBit_0 {p : Program} {l : Launch} {e : Env} {s : State} {m : MethodId} {args : Array Value} {below : List Frame} {meth : Method} {c : Code} {Q : State → Prop} {D : va_G} {cI cN : ClassId}  (S : CallFix p m c cX5_hasBit 2 s args wsX5_hasBit RX5) (hK : KN D cI cN s) {x0 : Int32} {x1 : Int32} {r0 : Int32} (hret : ∀ (H : Heap) (locs : List Loc) (ls : Array Slot) (pc : Nat), decode cX5_hasBit pc = .ok (.ireturn, 1) → narrow .boolean (.int r0) = .int r0 → va_S (nwA s.heap.size) s.heap H locs → W p l e (headSpec wsX5_hasBit rm_X5_hasBit).room s m args below meth c H locs 0 0 Q (F0 m pc ls [.int r0])) (hf : fX5_hasBit x0 x1 = r0) (H : Heap) (locs : List Loc) (ls : Array Slot) (hP : va_P D vwCl ([] : va_W) H) (hS : va_S (nwA s.heap.size) s.heap H locs) (hl : lv_has ls 2 [(0, .int x0), (1, .int x1)]) : W p l e (headSpec wsX5_hasBit rm_X5_hasBit).room s m args below meth c H locs 0 0 Q (F0 m 0 ls []) := by
  obtain ⟨hx, hb, hml, hown, hts⟩ := id S
  have hA : ∀ q : Nat, s.heap.size ≤ q → nwA s.heap.size q := fun _ h => h
  unfold fX5_hasBit at hf
  refine lv_iload_n hx hb dX5_hasBit_0 rfl (lv_at hl 0 rfl) ?_
  refine lv_iconst (v := (1 : Int32)) hx hb dX5_hasBit_1 kc_iconst_1 ?_
  refine lv_iload_n hx hb dX5_hasBit_2 rfl (lv_at hl 1 rfl) ?_
  refine lv_ishl hx hb dX5_hasBit_3 ?_
  refine lv_iand hx hb dX5_hasBit_4 ?_
  refine lv_if_eq (tgt := 12) hx hb dX5_hasBit_5 (by decide) (fun c1 => ?_) (fun c1 => ?_)
  · have hf := it_t hf c1
    refine lv_iconst (v := (0 : Int32)) hx hb dX5_hasBit_12 kc_iconst_0 ?_
    have e0 : (0 : Int32) = r0 := hf
    subst e0
    exact hret H locs ls _ dX5_hasBit_13 (by first | rfl | exact bo_in | (exact bo_isHere (by assumption))) hS
  · have hf := it_f hf c1
    refine lv_iconst (v := (1 : Int32)) hx hb dX5_hasBit_8 kc_iconst_1 ?_
    refine lv_goto (tgt := 13) hx hb dX5_hasBit_9 (by decide) ?_
    have e0 : (1 : Int32) = r0 := hf
    subst e0
    exact hret H locs ls _ dX5_hasBit_13 (by first | rfl | exact bo_in | (exact bo_isHere (by assumption))) hS
set_option maxRecDepth 100000 in
theorem c_X5_hasBit (l : Launch) (D : va_G) (cI cN : ClassId)  (sz : Nat) (x0 : Int32) (x1 : Int32) (r0 : Int32) (hf : fX5_hasBit x0 x1 = r0) : CtP l D cI cN yX5_hasBit wsX5_hasBit rm_X5_hasBit [.int x0, .int x1] ([] : va_W) sz r0 := by
  refine mP (cc := cX5_hasBit) (maxL := 2) (ty := .boolean) (by decide) rfl rfl (Nat.le_of_ble_eq_true rfl) ?_
  intro p e s m args below meth c Q S hK hP hS hret ls hl
  exact w_X5_hasBit_0 S hK hret hf _ _ _ hP hS (lv_sub (show lv_has ls 2 [(0, .int x0), (1, .int x1)] from hl) [0, 1] rfl)
abbrev rm_X5_within : Room := { frames := 0, cells := 0, slots := 0, locals := 0 }
set_option maxRecDepth 100000 in
set_option maxHeartbeats 4000000 in
theorem w_X5_within_0 {p : Program} {l : Launch} {e : Env} {s : State} {m : MethodId} {args : Array Value} {below : List Frame} {meth : Method} {c : Code} {Q : State → Prop} {D : va_G} {cI cN : ClassId}  (S : CallFix p m c cX5_within 3 s args wsX5_within RX5) (hK : KN D cI cN s) {x0 : Int32} {x1 : Int32} {x2 : Int32} {r0 : Int32} (hret : ∀ (H : Heap) (locs : List Loc) (ls : Array Slot) (pc : Nat), decode cX5_within pc = .ok (.ireturn, 1) → narrow .boolean (.int r0) = .int r0 → va_S (nwA s.heap.size) s.heap H locs → W p l e (headSpec wsX5_within rm_X5_within).room s m args below meth c H locs 0 0 Q (F0 m pc ls [.int r0])) (hf : fX5_within x0 x1 x2 = r0) (H : Heap) (locs : List Loc) (ls : Array Slot) (hP : va_P D vwCl ([] : va_W) H) (hS : va_S (nwA s.heap.size) s.heap H locs) (hl : lv_has ls 3 [(0, .int x0), (1, .int x1), (2, .int x2)]) : W p l e (headSpec wsX5_within rm_X5_within).room s m args below meth c H locs 0 0 Q (F0 m 0 ls []) := by
  obtain ⟨hx, hb, hml, hown, hts⟩ := id S
  have hA : ∀ q : Nat, s.heap.size ≤ q → nwA s.heap.size q := fun _ h => h
  unfold fX5_within at hf
  refine lv_iload_n hx hb dX5_within_0 rfl (lv_at hl 0 rfl) ?_
  refine lv_iload_n hx hb dX5_within_1 rfl (lv_at hl 1 rfl) ?_
  refine lv_icmp_lt (tgt := 14) hx hb dX5_within_2 (by decide) (fun c1 => ?_) (fun c1 => ?_)
  · have hf := it_t hf c1
    refine lv_iconst (v := (0 : Int32)) hx hb dX5_within_14 kc_iconst_0 ?_
    have e0 : (0 : Int32) = r0 := hf
    subst e0
    exact hret H locs ls _ dX5_within_15 (by first | rfl | exact bo_in | (exact bo_isHere (by assumption))) hS
  · have hf := it_f hf c1
    refine lv_iload_n hx hb dX5_within_5 rfl (lv_at hl 0 rfl) ?_
    refine lv_iload_n hx hb dX5_within_6 rfl (lv_at hl 2 rfl) ?_
    refine lv_icmp_gt (tgt := 14) hx hb dX5_within_7 (by decide) (fun c2 => ?_) (fun c2 => ?_)
    · have hf := it_t hf c2
      refine lv_iconst (v := (0 : Int32)) hx hb dX5_within_14 kc_iconst_0 ?_
      have e0 : (0 : Int32) = r0 := hf
      subst e0
      exact hret H locs ls _ dX5_within_15 (by first | rfl | exact bo_in | (exact bo_isHere (by assumption))) hS
    · have hf := it_f hf c2
      refine lv_iconst (v := (1 : Int32)) hx hb dX5_within_10 kc_iconst_1 ?_
      refine lv_goto (tgt := 15) hx hb dX5_within_11 (by decide) ?_
      have e0 : (1 : Int32) = r0 := hf
      subst e0
      exact hret H locs ls _ dX5_within_15 (by first | rfl | exact bo_in | (exact bo_isHere (by assumption))) hS
set_option maxRecDepth 100000 in
theorem c_X5_within (l : Launch) (D : va_G) (cI cN : ClassId)  (sz : Nat) (x0 : Int32) (x1 : Int32) (x2 : Int32) (r0 : Int32) (hf : fX5_within x0 x1 x2 = r0) : CtP l D cI cN yX5_within wsX5_within rm_X5_within [.int x0, .int x1, .int x2] ([] : va_W) sz r0 := by
  refine mP (cc := cX5_within) (maxL := 3) (ty := .boolean) (by decide) rfl rfl (Nat.le_of_ble_eq_true rfl) ?_
  intro p e s m args below meth c Q S hK hP hS hret ls hl
  exact w_X5_within_0 S hK hret hf _ _ _ hP hS (lv_sub (show lv_has ls 3 [(0, .int x0), (1, .int x1), (2, .int x2)] from hl) [0, 1, 2] rfl)
abbrev rm_X1_isLine : Room := { frames := 0, cells := 0, slots := 0, locals := 0 }
theorem in_X1_isLine_X1 : ∀ w ∈ u_ws RX1 TX1 16, w ∈ wsX1_isLine := fun w h => List.mem_cons_of_mem _ (List.mem_append_right _ h)
set_option maxRecDepth 100000 in
set_option maxHeartbeats 4000000 in
theorem w_X1_isLine_0 {p : Program} {l : Launch} {e : Env} {s : State} {m : MethodId} {args : Array Value} {below : List Frame} {meth : Method} {c : Code} {Q : State → Prop} {D : va_G} {cI cN : ClassId} {q : Nat → Nat} (S : CallFix p m c cX1_isLine 2 s args wsX1_isLine RX1) (hK : KN D cI cN s) {n : OS} {x1 : Int32} {r0 : Int32} (hret : ∀ (H : Heap) (locs : List Loc) (ls : Array Slot) (pc : Nat), decode cX1_isLine pc = .ok (.ireturn, 1) → narrow .boolean (.int r0) = .int r0 → va_S (nwA s.heap.size) s.heap H locs → W p l e (headSpec wsX1_isLine rm_X1_isLine).room s m args below meth c H locs 0 0 Q (F0 m pc ls [.int r0])) (hf : fX1_isLine n x1 = r0) (H : Heap) (locs : List Loc) (ls : Array Slot) (hP : va_P D vwCl (nwW cI q n) H) (hS : va_S (nwA s.heap.size) s.heap H locs) (hl : lv_has ls 2 [(0, .ref (q 0)), (1, .int x1)]) : W p l e (headSpec wsX1_isLine rm_X1_isLine).room s m args below meth c H locs 0 0 Q (F0 m 0 ls []) := by
  obtain ⟨hx, hb, hml, hown, hts⟩ := id S
  have inX1 := in_X1_isLine_X1
  have hA : ∀ q : Nat, s.heap.size ≤ q → nwA s.heap.size q := fun _ h => h
  unfold fX1_isLine at hf
  refine lv_iload_n hx hb dX1_isLine_0 rfl (lv_at hl 1 rfl) ?_
  refine lv_if_lt (tgt := 21) hx hb dX1_isLine_1 (by decide) (fun c1 => ?_) (fun c1 => ?_)
  · have hf := it_t hf c1
    refine lv_iconst (v := (0 : Int32)) hx hb dX1_isLine_21 kc_iconst_0 ?_
    have e0 : (0 : Int32) = r0 := hf
    subst e0
    exact hret H locs ls _ dX1_isLine_22 (by first | rfl | exact bo_in | (exact bo_isHere (by assumption))) hS
  · have hf := it_f hf c1
    refine lv_iload_n hx hb dX1_isLine_4 rfl (lv_at hl 1 rfl) ?_
    refine lv_aload_n hx hb dX1_isLine_5 rfl (lv_at hl 0 rfl) ?_
    refine va_get (D := D) (ci := 1) (v := .int (n.1 0)) (C := RX1) (T := TX1) (N := 16) hx hb hts inX1 hown hK.1 hP 0 rfl rfl 0 (by decide) (hts (.fieldLink RX1 9 "ClosExchange$Network" "boards" "I") (List.mem_of_getElem? (i := 1) rfl)) (fun _ h9 => h9) rfl dX1_isLine_6 ?_
    refine lv_aload_n hx hb dX1_isLine_9 rfl (lv_at hl 0 rfl) ?_
    refine va_get (D := D) (ci := 1) (v := .int (n.1 1)) (C := RX1) (T := TX1) (N := 16) hx hb hts inX1 hown hK.1 hP 0 rfl rfl 1 (by decide) (hts (.fieldLink RX1 15 "ClosExchange$Network" "lines" "I") (List.mem_of_getElem? (i := 2) rfl)) (fun _ h9 => h9) rfl dX1_isLine_10 ?_
    refine lv_imul hx hb dX1_isLine_13 ?_
    refine lv_icmp_ge (tgt := 21) hx hb dX1_isLine_14 (by decide) (fun c2 => ?_) (fun c2 => ?_)
    · have hf := it_t hf c2
      refine lv_iconst (v := (0 : Int32)) hx hb dX1_isLine_21 kc_iconst_0 ?_
      have e0 : (0 : Int32) = r0 := hf
      subst e0
      exact hret H locs ls _ dX1_isLine_22 (by first | rfl | exact bo_in | (exact bo_isHere (by assumption))) hS
    · have hf := it_f hf c2
      refine lv_iconst (v := (1 : Int32)) hx hb dX1_isLine_17 kc_iconst_1 ?_
      refine lv_goto (tgt := 22) hx hb dX1_isLine_18 (by decide) ?_
      have e0 : (1 : Int32) = r0 := hf
      subst e0
      exact hret H locs ls _ dX1_isLine_22 (by first | rfl | exact bo_in | (exact bo_isHere (by assumption))) hS
set_option maxRecDepth 100000 in
theorem c_X1_isLine (l : Launch) (D : va_G) (cI cN : ClassId) (q : Nat → Nat) (sz : Nat) (n : OS) (x1 : Int32) (r0 : Int32) (hf : fX1_isLine n x1 = r0) : CtP l D cI cN yX1_isLine wsX1_isLine rm_X1_isLine [.ref (q 0), .int x1] (nwW cI q n) sz r0 := by
  refine mP (cc := cX1_isLine) (maxL := 2) (ty := .boolean) (by decide) rfl rfl (Nat.le_of_ble_eq_true rfl) ?_
  intro p e s m args below meth c Q S hK hP hS hret ls hl
  exact w_X1_isLine_0 S hK hret hf _ _ _ hP hS (lv_sub (show lv_has ls 2 [(0, .ref (q 0)), (1, .int x1)] from hl) [0, 1] rfl)
abbrev rm_X1_isBoard : Room := { frames := 0, cells := 0, slots := 0, locals := 0 }
theorem in_X1_isBoard_X1 : ∀ w ∈ u_ws RX1 TX1 16, w ∈ wsX1_isBoard := fun w h => List.mem_cons_of_mem _ (List.mem_append_right _ h)
set_option maxRecDepth 100000 in
set_option maxHeartbeats 4000000 in
theorem w_X1_isBoard_0 {p : Program} {l : Launch} {e : Env} {s : State} {m : MethodId} {args : Array Value} {below : List Frame} {meth : Method} {c : Code} {Q : State → Prop} {D : va_G} {cI cN : ClassId} {q : Nat → Nat} (S : CallFix p m c cX1_isBoard 2 s args wsX1_isBoard RX1) (hK : KN D cI cN s) {n : OS} {x1 : Int32} {r0 : Int32} (hret : ∀ (H : Heap) (locs : List Loc) (ls : Array Slot) (pc : Nat), decode cX1_isBoard pc = .ok (.ireturn, 1) → narrow .boolean (.int r0) = .int r0 → va_S (nwA s.heap.size) s.heap H locs → W p l e (headSpec wsX1_isBoard rm_X1_isBoard).room s m args below meth c H locs 0 0 Q (F0 m pc ls [.int r0])) (hf : fX1_isBoard n x1 = r0) (H : Heap) (locs : List Loc) (ls : Array Slot) (hP : va_P D vwCl (nwW cI q n) H) (hS : va_S (nwA s.heap.size) s.heap H locs) (hl : lv_has ls 2 [(0, .ref (q 0)), (1, .int x1)]) : W p l e (headSpec wsX1_isBoard rm_X1_isBoard).room s m args below meth c H locs 0 0 Q (F0 m 0 ls []) := by
  obtain ⟨hx, hb, hml, hown, hts⟩ := id S
  have inX1 := in_X1_isBoard_X1
  have hA : ∀ q : Nat, s.heap.size ≤ q → nwA s.heap.size q := fun _ h => h
  unfold fX1_isBoard at hf
  refine lv_iload_n hx hb dX1_isBoard_0 rfl (lv_at hl 1 rfl) ?_
  refine lv_if_lt (tgt := 16) hx hb dX1_isBoard_1 (by decide) (fun c1 => ?_) (fun c1 => ?_)
  · have hf := it_t hf c1
    refine lv_iconst (v := (0 : Int32)) hx hb dX1_isBoard_16 kc_iconst_0 ?_
    have e0 : (0 : Int32) = r0 := hf
    subst e0
    exact hret H locs ls _ dX1_isBoard_17 (by first | rfl | exact bo_in | (exact bo_isHere (by assumption))) hS
  · have hf := it_f hf c1
    refine lv_iload_n hx hb dX1_isBoard_4 rfl (lv_at hl 1 rfl) ?_
    refine lv_aload_n hx hb dX1_isBoard_5 rfl (lv_at hl 0 rfl) ?_
    refine va_get (D := D) (ci := 1) (v := .int (n.1 0)) (C := RX1) (T := TX1) (N := 16) hx hb hts inX1 hown hK.1 hP 0 rfl rfl 0 (by decide) (hts (.fieldLink RX1 9 "ClosExchange$Network" "boards" "I") (List.mem_of_getElem? (i := 1) rfl)) (fun _ h9 => h9) rfl dX1_isBoard_6 ?_
    refine lv_icmp_ge (tgt := 16) hx hb dX1_isBoard_9 (by decide) (fun c2 => ?_) (fun c2 => ?_)
    · have hf := it_t hf c2
      refine lv_iconst (v := (0 : Int32)) hx hb dX1_isBoard_16 kc_iconst_0 ?_
      have e0 : (0 : Int32) = r0 := hf
      subst e0
      exact hret H locs ls _ dX1_isBoard_17 (by first | rfl | exact bo_in | (exact bo_isHere (by assumption))) hS
    · have hf := it_f hf c2
      refine lv_iconst (v := (1 : Int32)) hx hb dX1_isBoard_12 kc_iconst_1 ?_
      refine lv_goto (tgt := 17) hx hb dX1_isBoard_13 (by decide) ?_
      have e0 : (1 : Int32) = r0 := hf
      subst e0
      exact hret H locs ls _ dX1_isBoard_17 (by first | rfl | exact bo_in | (exact bo_isHere (by assumption))) hS
set_option maxRecDepth 100000 in
theorem c_X1_isBoard (l : Launch) (D : va_G) (cI cN : ClassId) (q : Nat → Nat) (sz : Nat) (n : OS) (x1 : Int32) (r0 : Int32) (hf : fX1_isBoard n x1 = r0) : CtP l D cI cN yX1_isBoard wsX1_isBoard rm_X1_isBoard [.ref (q 0), .int x1] (nwW cI q n) sz r0 := by
  refine mP (cc := cX1_isBoard) (maxL := 2) (ty := .boolean) (by decide) rfl rfl (Nat.le_of_ble_eq_true rfl) ?_
  intro p e s m args below meth c Q S hK hP hS hret ls hl
  exact w_X1_isBoard_0 S hK hret hf _ _ _ hP hS (lv_sub (show lv_has ls 2 [(0, .ref (q 0)), (1, .int x1)] from hl) [0, 1] rfl)
abbrev rm_X1_isMiddle : Room := { frames := 0, cells := 0, slots := 0, locals := 0 }
theorem in_X1_isMiddle_X1 : ∀ w ∈ u_ws RX1 TX1 16, w ∈ wsX1_isMiddle := fun w h => List.mem_cons_of_mem _ (List.mem_append_right _ h)
set_option maxRecDepth 100000 in
set_option maxHeartbeats 4000000 in
theorem w_X1_isMiddle_0 {p : Program} {l : Launch} {e : Env} {s : State} {m : MethodId} {args : Array Value} {below : List Frame} {meth : Method} {c : Code} {Q : State → Prop} {D : va_G} {cI cN : ClassId} {q : Nat → Nat} (S : CallFix p m c cX1_isMiddle 2 s args wsX1_isMiddle RX1) (hK : KN D cI cN s) {n : OS} {x1 : Int32} {r0 : Int32} (hret : ∀ (H : Heap) (locs : List Loc) (ls : Array Slot) (pc : Nat), decode cX1_isMiddle pc = .ok (.ireturn, 1) → narrow .boolean (.int r0) = .int r0 → va_S (nwA s.heap.size) s.heap H locs → W p l e (headSpec wsX1_isMiddle rm_X1_isMiddle).room s m args below meth c H locs 0 0 Q (F0 m pc ls [.int r0])) (hf : fX1_isMiddle n x1 = r0) (H : Heap) (locs : List Loc) (ls : Array Slot) (hP : va_P D vwCl (nwW cI q n) H) (hS : va_S (nwA s.heap.size) s.heap H locs) (hl : lv_has ls 2 [(0, .ref (q 0)), (1, .int x1)]) : W p l e (headSpec wsX1_isMiddle rm_X1_isMiddle).room s m args below meth c H locs 0 0 Q (F0 m 0 ls []) := by
  obtain ⟨hx, hb, hml, hown, hts⟩ := id S
  have inX1 := in_X1_isMiddle_X1
  have hA : ∀ q : Nat, s.heap.size ≤ q → nwA s.heap.size q := fun _ h => h
  unfold fX1_isMiddle at hf
  refine lv_iload_n hx hb dX1_isMiddle_0 rfl (lv_at hl 1 rfl) ?_
  refine lv_if_lt (tgt := 16) hx hb dX1_isMiddle_1 (by decide) (fun c1 => ?_) (fun c1 => ?_)
  · have hf := it_t hf c1
    refine lv_iconst (v := (0 : Int32)) hx hb dX1_isMiddle_16 kc_iconst_0 ?_
    have e0 : (0 : Int32) = r0 := hf
    subst e0
    exact hret H locs ls _ dX1_isMiddle_17 (by first | rfl | exact bo_in | (exact bo_isHere (by assumption))) hS
  · have hf := it_f hf c1
    refine lv_iload_n hx hb dX1_isMiddle_4 rfl (lv_at hl 1 rfl) ?_
    refine lv_aload_n hx hb dX1_isMiddle_5 rfl (lv_at hl 0 rfl) ?_
    refine va_get (D := D) (ci := 1) (v := .int (n.1 2)) (C := RX1) (T := TX1) (N := 16) hx hb hts inX1 hown hK.1 hP 0 rfl rfl 2 (by decide) (hts (.fieldLink RX1 18 "ClosExchange$Network" "middles" "I") (List.mem_of_getElem? (i := 1) rfl)) (fun _ h9 => h9) rfl dX1_isMiddle_6 ?_
    refine lv_icmp_ge (tgt := 16) hx hb dX1_isMiddle_9 (by decide) (fun c2 => ?_) (fun c2 => ?_)
    · have hf := it_t hf c2
      refine lv_iconst (v := (0 : Int32)) hx hb dX1_isMiddle_16 kc_iconst_0 ?_
      have e0 : (0 : Int32) = r0 := hf
      subst e0
      exact hret H locs ls _ dX1_isMiddle_17 (by first | rfl | exact bo_in | (exact bo_isHere (by assumption))) hS
    · have hf := it_f hf c2
      refine lv_iconst (v := (1 : Int32)) hx hb dX1_isMiddle_12 kc_iconst_1 ?_
      refine lv_goto (tgt := 17) hx hb dX1_isMiddle_13 (by decide) ?_
      have e0 : (1 : Int32) = r0 := hf
      subst e0
      exact hret H locs ls _ dX1_isMiddle_17 (by first | rfl | exact bo_in | (exact bo_isHere (by assumption))) hS
set_option maxRecDepth 100000 in
theorem c_X1_isMiddle (l : Launch) (D : va_G) (cI cN : ClassId) (q : Nat → Nat) (sz : Nat) (n : OS) (x1 : Int32) (r0 : Int32) (hf : fX1_isMiddle n x1 = r0) : CtP l D cI cN yX1_isMiddle wsX1_isMiddle rm_X1_isMiddle [.ref (q 0), .int x1] (nwW cI q n) sz r0 := by
  refine mP (cc := cX1_isMiddle) (maxL := 2) (ty := .boolean) (by decide) rfl rfl (Nat.le_of_ble_eq_true rfl) ?_
  intro p e s m args below meth c Q S hK hP hS hret ls hl
  exact w_X1_isMiddle_0 S hK hret hf _ _ _ hP hS (lv_sub (show lv_has ls 2 [(0, .ref (q 0)), (1, .int x1)] from hl) [0, 1] rfl)
abbrev rm_X1_isInletBusy : Room := { frames := 1, cells := 0, slots := 0, locals := 21 }
theorem in_X1_isInletBusy_X1 : ∀ w ∈ u_ws RX1 TX1 16, w ∈ wsX1_isInletBusy := fun w h => List.mem_cons_of_mem _ (List.mem_append_left _ (List.mem_append_right _ h))
set_option maxRecDepth 100000 in
set_option maxHeartbeats 4000000 in
theorem w_X1_isInletBusy_0 {p : Program} {l : Launch} {e : Env} {s : State} {m : MethodId} {args : Array Value} {below : List Frame} {meth : Method} {c : Code} {Q : State → Prop} {D : va_G} {cI cN : ClassId} {q : Nat → Nat} (S : CallFix p m c cX1_isInletBusy 2 s args wsX1_isInletBusy RX1) (hK : KN D cI cN s) {n : OS} {x1 : Int32} {r0 : Int32} (hret : ∀ (H : Heap) (locs : List Loc) (ls : Array Slot) (pc : Nat), decode cX1_isInletBusy pc = .ok (.ireturn, 1) → narrow .boolean (.int r0) = .int r0 → va_S (nwA s.heap.size) s.heap H locs → W p l e (headSpec wsX1_isInletBusy rm_X1_isInletBusy).room s m args below meth c H locs 0 0 Q (F0 m pc ls [.int r0])) (hf : fX1_isInletBusy n x1 = r0) (H : Heap) (locs : List Loc) (ls : Array Slot) (hP : va_P D vwCl (nwW cI q n) H) (hS : va_S (nwA s.heap.size) s.heap H locs) (hl : lv_has ls 2 [(0, .ref (q 0)), (1, .int x1)]) : W p l e (headSpec wsX1_isInletBusy rm_X1_isInletBusy).room s m args below meth c H locs 0 0 Q (F0 m 0 ls []) := by
  obtain ⟨hx, hb, hml, hown, hts⟩ := id S
  have inX1 := in_X1_isInletBusy_X1
  have hA : ∀ q : Nat, s.heap.size ≤ q → nwA s.heap.size q := fun _ h => h
  unfold fX1_isInletBusy at hf
  refine lv_aload_n hx hb dX1_isInletBusy_0 rfl (lv_at hl 0 rfl) ?_
  refine va_get (D := D) (ci := 1) (v := .ref (q 1)) (C := RX1) (T := TX1) (N := 16) hx hb hts inX1 hown hK.1 hP 0 rfl rfl 10 (by decide) (hts (.fieldLink RX1 29 "ClosExchange$Network" "numbers" "LClosExchange$Row;") (List.mem_of_getElem? (i := 1) rfl)) (fun _ h9 => h9) rfl dX1_isInletBusy_1 ?_
  refine lv_iload_n hx hb dX1_isInletBusy_4 rfl (lv_at hl 1 rfl) ?_
  refine cQi (As := [.int x1]) (rest := []) (q0 := 1) (ci := 4) S (c_X4_get l D cI cN (q 1) (q 7) 48 (Nat.le_of_ble_eq_true rfl) _ (n.2 0) x1) (cwV 1 hts gX1_isInletBusy_X4_get rfl rfl rfl (by decide +kernel) ⟨Nat.le_of_ble_eq_true rfl, Nat.le_of_ble_eq_true rfl⟩) hK hP hS hA (P_two (i0 := 1) (i1 := 7) hP rfl rfl) rfl rfl rfl hl.1 rfl (Nat.le_of_ble_eq_true rfl) dX1_isInletBusy_5 ⟨Nat.zero_le _, Nat.zero_le _⟩ (fun H locs hP hS => ?_)
  refine lv_if_lt (tgt := 15) hx hb dX1_isInletBusy_8 (by decide) (fun c1 => ?_) (fun c1 => ?_)
  · have hf := it_t hf c1
    refine lv_iconst (v := (0 : Int32)) hx hb dX1_isInletBusy_15 kc_iconst_0 ?_
    have e0 : (0 : Int32) = r0 := hf
    subst e0
    exact hret H locs ls _ dX1_isInletBusy_16 (by first | rfl | exact bo_in | (exact bo_isHere (by assumption))) hS
  · have hf := it_f hf c1
    refine lv_iconst (v := (1 : Int32)) hx hb dX1_isInletBusy_11 kc_iconst_1 ?_
    refine lv_goto (tgt := 16) hx hb dX1_isInletBusy_12 (by decide) ?_
    have e0 : (1 : Int32) = r0 := hf
    subst e0
    exact hret H locs ls _ dX1_isInletBusy_16 (by first | rfl | exact bo_in | (exact bo_isHere (by assumption))) hS
set_option maxRecDepth 100000 in
theorem c_X1_isInletBusy (l : Launch) (D : va_G) (cI cN : ClassId) (q : Nat → Nat) (sz : Nat) (n : OS) (x1 : Int32) (r0 : Int32) (hf : fX1_isInletBusy n x1 = r0) : CtP l D cI cN yX1_isInletBusy wsX1_isInletBusy rm_X1_isInletBusy [.ref (q 0), .int x1] (nwW cI q n) sz r0 := by
  refine mP (cc := cX1_isInletBusy) (maxL := 2) (ty := .boolean) (by decide) rfl rfl (Nat.le_of_ble_eq_true rfl) ?_
  intro p e s m args below meth c Q S hK hP hS hret ls hl
  exact w_X1_isInletBusy_0 S hK hret hf _ _ _ hP hS (lv_sub (show lv_has ls 2 [(0, .ref (q 0)), (1, .int x1)] from hl) [0, 1] rfl)
abbrev rm_X1_isOutletBusy : Room := { frames := 1, cells := 0, slots := 0, locals := 21 }
theorem in_X1_isOutletBusy_X1 : ∀ w ∈ u_ws RX1 TX1 16, w ∈ wsX1_isOutletBusy := fun w h => List.mem_cons_of_mem _ (List.mem_append_left _ (List.mem_append_right _ h))
set_option maxRecDepth 100000 in
set_option maxHeartbeats 4000000 in
theorem w_X1_isOutletBusy_0 {p : Program} {l : Launch} {e : Env} {s : State} {m : MethodId} {args : Array Value} {below : List Frame} {meth : Method} {c : Code} {Q : State → Prop} {D : va_G} {cI cN : ClassId} {q : Nat → Nat} (S : CallFix p m c cX1_isOutletBusy 2 s args wsX1_isOutletBusy RX1) (hK : KN D cI cN s) {n : OS} {x1 : Int32} {r0 : Int32} (hret : ∀ (H : Heap) (locs : List Loc) (ls : Array Slot) (pc : Nat), decode cX1_isOutletBusy pc = .ok (.ireturn, 1) → narrow .boolean (.int r0) = .int r0 → va_S (nwA s.heap.size) s.heap H locs → W p l e (headSpec wsX1_isOutletBusy rm_X1_isOutletBusy).room s m args below meth c H locs 0 0 Q (F0 m pc ls [.int r0])) (hf : fX1_isOutletBusy n x1 = r0) (H : Heap) (locs : List Loc) (ls : Array Slot) (hP : va_P D vwCl (nwW cI q n) H) (hS : va_S (nwA s.heap.size) s.heap H locs) (hl : lv_has ls 2 [(0, .ref (q 0)), (1, .int x1)]) : W p l e (headSpec wsX1_isOutletBusy rm_X1_isOutletBusy).room s m args below meth c H locs 0 0 Q (F0 m 0 ls []) := by
  obtain ⟨hx, hb, hml, hown, hts⟩ := id S
  have inX1 := in_X1_isOutletBusy_X1
  have hA : ∀ q : Nat, s.heap.size ≤ q → nwA s.heap.size q := fun _ h => h
  unfold fX1_isOutletBusy at hf
  refine lv_aload_n hx hb dX1_isOutletBusy_0 rfl (lv_at hl 0 rfl) ?_
  refine va_get (D := D) (ci := 1) (v := .ref (q 4)) (C := RX1) (T := TX1) (N := 16) hx hb hts inX1 hown hK.1 hP 0 rfl rfl 13 (by decide) (hts (.fieldLink RX1 39 "ClosExchange$Network" "inlets" "LClosExchange$Row;") (List.mem_of_getElem? (i := 1) rfl)) (fun _ h9 => h9) rfl dX1_isOutletBusy_1 ?_
  refine lv_iload_n hx hb dX1_isOutletBusy_4 rfl (lv_at hl 1 rfl) ?_
  refine cQi (As := [.int x1]) (rest := []) (q0 := 4) (ci := 4) S (c_X4_get l D cI cN (q 4) (q 10) 48 (Nat.le_of_ble_eq_true rfl) _ (n.2 3) x1) (cwV 1 hts gX1_isOutletBusy_X4_get rfl rfl rfl (by decide +kernel) ⟨Nat.le_of_ble_eq_true rfl, Nat.le_of_ble_eq_true rfl⟩) hK hP hS hA (P_two (i0 := 4) (i1 := 10) hP rfl rfl) rfl rfl rfl hl.1 rfl (Nat.le_of_ble_eq_true rfl) dX1_isOutletBusy_5 ⟨Nat.zero_le _, Nat.zero_le _⟩ (fun H locs hP hS => ?_)
  refine lv_if_lt (tgt := 15) hx hb dX1_isOutletBusy_8 (by decide) (fun c1 => ?_) (fun c1 => ?_)
  · have hf := it_t hf c1
    refine lv_iconst (v := (0 : Int32)) hx hb dX1_isOutletBusy_15 kc_iconst_0 ?_
    have e0 : (0 : Int32) = r0 := hf
    subst e0
    exact hret H locs ls _ dX1_isOutletBusy_16 (by first | rfl | exact bo_in | (exact bo_isHere (by assumption))) hS
  · have hf := it_f hf c1
    refine lv_iconst (v := (1 : Int32)) hx hb dX1_isOutletBusy_11 kc_iconst_1 ?_
    refine lv_goto (tgt := 16) hx hb dX1_isOutletBusy_12 (by decide) ?_
    have e0 : (1 : Int32) = r0 := hf
    subst e0
    exact hret H locs ls _ dX1_isOutletBusy_16 (by first | rfl | exact bo_in | (exact bo_isHere (by assumption))) hS
set_option maxRecDepth 100000 in
theorem c_X1_isOutletBusy (l : Launch) (D : va_G) (cI cN : ClassId) (q : Nat → Nat) (sz : Nat) (n : OS) (x1 : Int32) (r0 : Int32) (hf : fX1_isOutletBusy n x1 = r0) : CtP l D cI cN yX1_isOutletBusy wsX1_isOutletBusy rm_X1_isOutletBusy [.ref (q 0), .int x1] (nwW cI q n) sz r0 := by
  refine mP (cc := cX1_isOutletBusy) (maxL := 2) (ty := .boolean) (by decide) rfl rfl (Nat.le_of_ble_eq_true rfl) ?_
  intro p e s m args below meth c Q S hK hP hS hret ls hl
  exact w_X1_isOutletBusy_0 S hK hret hf _ _ _ hP hS (lv_sub (show lv_has ls 2 [(0, .ref (q 0)), (1, .int x1)] from hl) [0, 1] rfl)
abbrev rm_X1_boardOf : Room := { frames := 0, cells := 0, slots := 0, locals := 0 }
theorem in_X1_boardOf_X1 : ∀ w ∈ u_ws RX1 TX1 16, w ∈ wsX1_boardOf := fun w h => List.mem_cons_of_mem _ (List.mem_append_right _ h)
set_option maxRecDepth 100000 in
set_option maxHeartbeats 4000000 in
theorem w_X1_boardOf_0 {p : Program} {l : Launch} {e : Env} {s : State} {m : MethodId} {args : Array Value} {below : List Frame} {meth : Method} {c : Code} {Q : State → Prop} {D : va_G} {cI cN : ClassId} {q : Nat → Nat} (S : CallFix p m c cX1_boardOf 2 s args wsX1_boardOf RX1) (hK : KN D cI cN s) {n : OS} {x1 : Int32} {r0 : Int32} (hret : ∀ (H : Heap) (locs : List Loc) (ls : Array Slot) (pc : Nat), decode cX1_boardOf pc = .ok (.ireturn, 1) → narrow .int (.int r0) = .int r0 → va_S (nwA s.heap.size) s.heap H locs → W p l e (headSpec wsX1_boardOf rm_X1_boardOf).room s m args below meth c H locs 0 0 Q (F0 m pc ls [.int r0])) (hf : fX1_boardOf n x1 = r0) (H : Heap) (locs : List Loc) (ls : Array Slot) (hP : va_P D vwCl (nwW cI q n) H) (hS : va_S (nwA s.heap.size) s.heap H locs) (hl : lv_has ls 2 [(0, .ref (q 0)), (1, .int x1)]) : W p l e (headSpec wsX1_boardOf rm_X1_boardOf).room s m args below meth c H locs 0 0 Q (F0 m 0 ls []) := by
  obtain ⟨hx, hb, hml, hown, hts⟩ := id S
  have inX1 := in_X1_boardOf_X1
  have hA : ∀ q : Nat, s.heap.size ≤ q → nwA s.heap.size q := fun _ h => h
  unfold fX1_boardOf at hf
  refine lv_aload_n hx hb dX1_boardOf_0 rfl (lv_at hl 0 rfl) ?_
  refine va_get (D := D) (ci := 1) (v := .int (n.1 1)) (C := RX1) (T := TX1) (N := 16) hx hb hts inX1 hown hK.1 hP 0 rfl rfl 1 (by decide) (hts (.fieldLink RX1 15 "ClosExchange$Network" "lines" "I") (List.mem_of_getElem? (i := 1) rfl)) (fun _ h9 => h9) rfl dX1_boardOf_1 ?_
  refine lv_if_le (tgt := 16) hx hb dX1_boardOf_4 (by decide) (fun c1 => ?_) (fun c1 => ?_)
  · have hf := it_t hf c1
    refine lv_iconst (v := (0 : Int32)) hx hb dX1_boardOf_16 kc_iconst_0 ?_
    have e0 : (0 : Int32) = r0 := hf
    subst e0
    exact hret H locs ls _ dX1_boardOf_17 rfl hS
  · have hf := it_f hf c1
    refine lv_iload_n hx hb dX1_boardOf_7 rfl (lv_at hl 1 rfl) ?_
    refine lv_aload_n hx hb dX1_boardOf_8 rfl (lv_at hl 0 rfl) ?_
    refine va_get (D := D) (ci := 1) (v := .int (n.1 1)) (C := RX1) (T := TX1) (N := 16) hx hb hts inX1 hown hK.1 hP 0 rfl rfl 1 (by decide) (hts (.fieldLink RX1 15 "ClosExchange$Network" "lines" "I") (List.mem_of_getElem? (i := 1) rfl)) (fun _ h9 => h9) rfl dX1_boardOf_9 ?_
    refine lv_idiv hx hb dX1_boardOf_12 (fun h0 => c1 (by rw [h0]; decide)) ?_
    refine lv_goto (tgt := 17) hx hb dX1_boardOf_13 (by decide) ?_
    have e0 : (x1 / (n.1 1)) = r0 := hf
    subst e0
    exact hret H locs ls _ dX1_boardOf_17 rfl hS
set_option maxRecDepth 100000 in
theorem c_X1_boardOf (l : Launch) (D : va_G) (cI cN : ClassId) (q : Nat → Nat) (sz : Nat) (n : OS) (x1 : Int32) (r0 : Int32) (hf : fX1_boardOf n x1 = r0) : CtP l D cI cN yX1_boardOf wsX1_boardOf rm_X1_boardOf [.ref (q 0), .int x1] (nwW cI q n) sz r0 := by
  refine mP (cc := cX1_boardOf) (maxL := 2) (ty := .int) (by decide) rfl rfl (Nat.le_of_ble_eq_true rfl) ?_
  intro p e s m args below meth c Q S hK hP hS hret ls hl
  exact w_X1_boardOf_0 S hK hret hf _ _ _ hP hS (lv_sub (show lv_has ls 2 [(0, .ref (q 0)), (1, .int x1)] from hl) [0, 1] rfl)
abbrev rm_X1_countCalls : Room := { frames := 1, cells := 0, slots := 0, locals := 21 }
theorem in_X1_countCalls_X1 : ∀ w ∈ u_ws RX1 TX1 16, w ∈ wsX1_countCalls := fun w h => List.mem_cons_of_mem _ (List.mem_append_left _ (List.mem_append_right _ h))
set_option maxRecDepth 100000 in
set_option maxHeartbeats 4000000 in
theorem w_X1_countCalls_4 {p : Program} {l : Launch} {e : Env} {s : State} {m : MethodId} {args : Array Value} {below : List Frame} {meth : Method} {c : Code} {Q : State → Prop} {D : va_G} {cI cN : ClassId} {q : Nat → Nat} (S : CallFix p m c cX1_countCalls 3 s args wsX1_countCalls RX1) (hK : KN D cI cN s) {n : OS} {r0 : Int32} (hret : ∀ (H : Heap) (locs : List Loc) (ls : Array Slot) (pc : Nat), decode cX1_countCalls pc = .ok (.ireturn, 1) → narrow .int (.int r0) = .int r0 → va_S (nwA s.heap.size) s.heap H locs → W p l e (headSpec wsX1_countCalls rm_X1_countCalls).room s m args below meth c H locs 0 0 Q (F0 m pc ls [.int r0])) : ∀ (k : Nat) (x1 : Int32) (x2 : Int32), fX1_countCalls_4 n k x1 x2 = some r0 → ∀ (H : Heap) (locs : List Loc) (ls : Array Slot), va_P D vwCl (nwW cI q n) H → va_S (nwA s.heap.size) s.heap H locs → lv_has ls 3 [(0, .ref (q 0)), (1, .int x1), (2, .int x2)] → W p l e (headSpec wsX1_countCalls rm_X1_countCalls).room s m args below meth c H locs 0 0 Q (F0 m 4 ls []) := by
  obtain ⟨hx, hb, hml, hown, hts⟩ := id S
  have inX1 := in_X1_countCalls_X1
  have hA : ∀ q : Nat, s.heap.size ≤ q → nwA s.heap.size q := fun _ h => h
  intro k
  induction k with
  | zero => intro x1 x2 hf; rw [fX1_countCalls_4_z] at hf; cases hf
  | succ k ih =>
    intro x1 x2 hf H locs ls hP hS hl
    rw [fX1_countCalls_4_s] at hf
    refine lv_iload_n hx hb dX1_countCalls_4 rfl (lv_at hl 2 rfl) ?_
    refine lv_bipush (v := (48 : Int32)) hx hb dX1_countCalls_5 kc_bipush_48 ?_
    refine lv_icmp_ge (tgt := 35) hx hb dX1_countCalls_7 (by decide) (fun c1 => ?_) (fun c1 => ?_)
    · have hf := it_t hf c1
      refine lv_iload_n hx hb dX1_countCalls_35 rfl (lv_at hl 1 rfl) ?_
      have e0 : x1 = r0 := (Option.some.inj hf)
      subst e0
      exact hret H locs ls _ dX1_countCalls_36 rfl hS
    · have hf := it_f hf c1
      refine lv_iload_n hx hb dX1_countCalls_10 rfl (lv_at hl 1 rfl) ?_
      refine lv_aload_n hx hb dX1_countCalls_11 rfl (lv_at hl 0 rfl) ?_
      refine va_get (D := D) (ci := 1) (v := .ref (q 1)) (C := RX1) (T := TX1) (N := 16) hx hb hts inX1 hown hK.1 hP 0 rfl rfl 10 (by decide) (hts (.fieldLink RX1 29 "ClosExchange$Network" "numbers" "LClosExchange$Row;") (List.mem_of_getElem? (i := 1) rfl)) (fun _ h9 => h9) rfl dX1_countCalls_12 ?_
      refine lv_iload_n hx hb dX1_countCalls_15 rfl (lv_at hl 2 rfl) ?_
      refine cQi (As := [.int x2]) (rest := [.int x1]) (q0 := 1) (ci := 4) S (c_X4_get l D cI cN (q 1) (q 7) 48 (Nat.le_of_ble_eq_true rfl) _ (n.2 0) x2) (cwV 1 hts gX1_countCalls_X4_get rfl rfl rfl (by decide +kernel) ⟨Nat.le_of_ble_eq_true rfl, Nat.le_of_ble_eq_true rfl⟩) hK hP hS hA (P_two (i0 := 1) (i1 := 7) hP rfl rfl) rfl rfl rfl hl.1 rfl (Nat.le_of_ble_eq_true rfl) dX1_countCalls_16 ⟨Nat.zero_le _, Nat.zero_le _⟩ (fun H locs hP hS => ?_)
      refine lv_if_lt (tgt := 26) hx hb dX1_countCalls_19 (by decide) (fun c2 => ?_) (fun c2 => ?_)
      · have hf := it_t hf c2
        refine lv_iconst (v := (0 : Int32)) hx hb dX1_countCalls_26 kc_iconst_0 ?_
        refine lv_iadd hx hb dX1_countCalls_27 ?_
        refine lv_istore_n (lv' := [(1, .int (x1 + (0 : Int32))), (0, .ref (q 0)), (2, .int x2)]) hx hb dX1_countCalls_28 rfl hl (by decide) rfl (fun ls hl => ?_)
        refine lv_iinc (v := (x2 + (1 : Int32))) (lv' := [(2, .int (x2 + (1 : Int32))), (1, .int (x1 + (0 : Int32))), (0, .ref (q 0))]) hx hb dX1_countCalls_29 hl (k := 2) rfl rfl (by decide) rfl (fun ls hl => ?_)
        refine lv_goto (tgt := 4) hx hb dX1_countCalls_32 (by decide) ?_
        exact ih _ _ hf H locs ls hP hS (lv_sub hl [2, 1, 0] rfl)
      · have hf := it_f hf c2
        refine lv_iconst (v := (1 : Int32)) hx hb dX1_countCalls_22 kc_iconst_1 ?_
        refine lv_goto (tgt := 27) hx hb dX1_countCalls_23 (by decide) ?_
        refine lv_iadd hx hb dX1_countCalls_27 ?_
        refine lv_istore_n (lv' := [(1, .int (x1 + (1 : Int32))), (0, .ref (q 0)), (2, .int x2)]) hx hb dX1_countCalls_28 rfl hl (by decide) rfl (fun ls hl => ?_)
        refine lv_iinc (v := (x2 + (1 : Int32))) (lv' := [(2, .int (x2 + (1 : Int32))), (1, .int (x1 + (1 : Int32))), (0, .ref (q 0))]) hx hb dX1_countCalls_29 hl (k := 2) rfl rfl (by decide) rfl (fun ls hl => ?_)
        refine lv_goto (tgt := 4) hx hb dX1_countCalls_32 (by decide) ?_
        exact ih _ _ hf H locs ls hP hS (lv_sub hl [2, 1, 0] rfl)
set_option maxRecDepth 100000 in
set_option maxHeartbeats 4000000 in
theorem w_X1_countCalls_0 {p : Program} {l : Launch} {e : Env} {s : State} {m : MethodId} {args : Array Value} {below : List Frame} {meth : Method} {c : Code} {Q : State → Prop} {D : va_G} {cI cN : ClassId} {q : Nat → Nat} (S : CallFix p m c cX1_countCalls 3 s args wsX1_countCalls RX1) (hK : KN D cI cN s) {n : OS} {r0 : Int32} (hret : ∀ (H : Heap) (locs : List Loc) (ls : Array Slot) (pc : Nat), decode cX1_countCalls pc = .ok (.ireturn, 1) → narrow .int (.int r0) = .int r0 → va_S (nwA s.heap.size) s.heap H locs → W p l e (headSpec wsX1_countCalls rm_X1_countCalls).room s m args below meth c H locs 0 0 Q (F0 m pc ls [.int r0])) (hf : fX1_countCalls n = some r0) (H : Heap) (locs : List Loc) (ls : Array Slot) (hP : va_P D vwCl (nwW cI q n) H) (hS : va_S (nwA s.heap.size) s.heap H locs) (hl : lv_has ls 3 [(0, .ref (q 0))]) : W p l e (headSpec wsX1_countCalls rm_X1_countCalls).room s m args below meth c H locs 0 0 Q (F0 m 0 ls []) := by
  obtain ⟨hx, hb, hml, hown, hts⟩ := id S
  have inX1 := in_X1_countCalls_X1
  have hA : ∀ q : Nat, s.heap.size ≤ q → nwA s.heap.size q := fun _ h => h
  unfold fX1_countCalls at hf
  refine lv_iconst (v := (0 : Int32)) hx hb dX1_countCalls_0 kc_iconst_0 ?_
  refine lv_istore_n (lv' := [(1, .int (0 : Int32)), (0, .ref (q 0))]) hx hb dX1_countCalls_1 rfl hl (by decide) rfl (fun ls hl => ?_)
  refine lv_iconst (v := (0 : Int32)) hx hb dX1_countCalls_2 kc_iconst_0 ?_
  refine lv_istore_n (lv' := [(2, .int (0 : Int32)), (1, .int (0 : Int32)), (0, .ref (q 0))]) hx hb dX1_countCalls_3 rfl hl (by decide) rfl (fun ls hl => ?_)
  exact w_X1_countCalls_4 S hK hret _ _ _ hf H locs ls hP hS (lv_sub hl [2, 1, 0] rfl)
set_option maxRecDepth 100000 in
theorem c_X1_countCalls (l : Launch) (D : va_G) (cI cN : ClassId) (q : Nat → Nat) (sz : Nat) (n : OS) (r0 : Int32) (hf : fX1_countCalls n = some r0) : CtP l D cI cN yX1_countCalls wsX1_countCalls rm_X1_countCalls [.ref (q 0)] (nwW cI q n) sz r0 := by
  refine mP (cc := cX1_countCalls) (maxL := 3) (ty := .int) (by decide) rfl rfl (Nat.le_of_ble_eq_true rfl) ?_
  intro p e s m args below meth c Q S hK hP hS hret ls hl
  exact w_X1_countCalls_0 S hK hret hf _ _ _ hP hS (lv_sub (show lv_has ls 3 [(0, .ref (q 0))] from hl) [0] rfl)
abbrev rm_X1_findInlet : Room := { frames := 1, cells := 0, slots := 0, locals := 21 }
theorem in_X1_findInlet_X1 : ∀ w ∈ u_ws RX1 TX1 16, w ∈ wsX1_findInlet := fun w h => List.mem_cons_of_mem _ (List.mem_append_left _ (List.mem_append_right _ h))
set_option maxRecDepth 100000 in
set_option maxHeartbeats 4000000 in
theorem w_X1_findInlet_8 {p : Program} {l : Launch} {e : Env} {s : State} {m : MethodId} {args : Array Value} {below : List Frame} {meth : Method} {c : Code} {Q : State → Prop} {D : va_G} {cI cN : ClassId} {q : Nat → Nat} (S : CallFix p m c cX1_findInlet 3 s args wsX1_findInlet RX1) (hK : KN D cI cN s) {n : OS} {x1 : Int32} {r0 : Int32} (hret : ∀ (H : Heap) (locs : List Loc) (ls : Array Slot) (pc : Nat), decode cX1_findInlet pc = .ok (.ireturn, 1) → narrow .int (.int r0) = .int r0 → va_S (nwA s.heap.size) s.heap H locs → W p l e (headSpec wsX1_findInlet rm_X1_findInlet).room s m args below meth c H locs 0 0 Q (F0 m pc ls [.int r0])) : ∀ (k : Nat) (x2 : Int32), fX1_findInlet_8 n x1 k x2 = some r0 → ∀ (H : Heap) (locs : List Loc) (ls : Array Slot), va_P D vwCl (nwW cI q n) H → va_S (nwA s.heap.size) s.heap H locs → lv_has ls 3 [(0, .ref (q 0)), (1, .int x1), (2, .int x2)] → W p l e (headSpec wsX1_findInlet rm_X1_findInlet).room s m args below meth c H locs 0 0 Q (F0 m 8 ls []) := by
  obtain ⟨hx, hb, hml, hown, hts⟩ := id S
  have inX1 := in_X1_findInlet_X1
  have hA : ∀ q : Nat, s.heap.size ≤ q → nwA s.heap.size q := fun _ h => h
  intro k
  induction k with
  | zero => intro x2 hf; rw [fX1_findInlet_8_z] at hf; cases hf
  | succ k ih =>
    intro x2 hf H locs ls hP hS hl
    rw [fX1_findInlet_8_s] at hf
    refine lv_iload_n hx hb dX1_findInlet_8 rfl (lv_at hl 2 rfl) ?_
    refine lv_bipush (v := (48 : Int32)) hx hb dX1_findInlet_9 kc_bipush_48 ?_
    refine lv_icmp_ge (tgt := 34) hx hb dX1_findInlet_11 (by decide) (fun c2 => ?_) (fun c2 => ?_)
    · have hf := it_t hf c2
      refine lv_iconst (v := (-1 : Int32)) hx hb dX1_findInlet_34 kc_iconst_m1 ?_
      have e0 : (-1 : Int32) = r0 := (Option.some.inj hf)
      subst e0
      exact hret H locs ls _ dX1_findInlet_35 rfl hS
    · have hf := it_f hf c2
      refine lv_aload_n hx hb dX1_findInlet_14 rfl (lv_at hl 0 rfl) ?_
      refine va_get (D := D) (ci := 1) (v := .ref (q 1)) (C := RX1) (T := TX1) (N := 16) hx hb hts inX1 hown hK.1 hP 0 rfl rfl 10 (by decide) (hts (.fieldLink RX1 29 "ClosExchange$Network" "numbers" "LClosExchange$Row;") (List.mem_of_getElem? (i := 1) rfl)) (fun _ h9 => h9) rfl dX1_findInlet_15 ?_
      refine lv_iload_n hx hb dX1_findInlet_18 rfl (lv_at hl 2 rfl) ?_
      refine cQi (As := [.int x2]) (rest := []) (q0 := 1) (ci := 4) S (c_X4_get l D cI cN (q 1) (q 7) 48 (Nat.le_of_ble_eq_true rfl) _ (n.2 0) x2) (cwV 1 hts gX1_findInlet_X4_get rfl rfl rfl (by decide +kernel) ⟨Nat.le_of_ble_eq_true rfl, Nat.le_of_ble_eq_true rfl⟩) hK hP hS hA (P_two (i0 := 1) (i1 := 7) hP rfl rfl) rfl rfl rfl hl.1 rfl (Nat.le_of_ble_eq_true rfl) dX1_findInlet_19 ⟨Nat.zero_le _, Nat.zero_le _⟩ (fun H locs hP hS => ?_)
      refine lv_iload_n hx hb dX1_findInlet_22 rfl (lv_at hl 1 rfl) ?_
      refine lv_icmp_ne (tgt := 28) hx hb dX1_findInlet_23 (by decide) (fun c3 => ?_) (fun c3 => ?_)
      · have hf := it_f hf c3
        refine lv_iinc (v := (x2 + (1 : Int32))) (lv' := [(2, .int (x2 + (1 : Int32))), (0, .ref (q 0)), (1, .int x1)]) hx hb dX1_findInlet_28 hl (k := 2) rfl rfl (by decide) rfl (fun ls hl => ?_)
        refine lv_goto (tgt := 8) hx hb dX1_findInlet_31 (by decide) ?_
        exact ih _ hf H locs ls hP hS (lv_sub hl [1, 2, 0] rfl)
      · have hf := it_t hf c3
        refine lv_iload_n hx hb dX1_findInlet_26 rfl (lv_at hl 2 rfl) ?_
        have e0 : x2 = r0 := (Option.some.inj hf)
        subst e0
        exact hret H locs ls _ dX1_findInlet_27 rfl hS
set_option maxRecDepth 100000 in
set_option maxHeartbeats 4000000 in
theorem w_X1_findInlet_0 {p : Program} {l : Launch} {e : Env} {s : State} {m : MethodId} {args : Array Value} {below : List Frame} {meth : Method} {c : Code} {Q : State → Prop} {D : va_G} {cI cN : ClassId} {q : Nat → Nat} (S : CallFix p m c cX1_findInlet 3 s args wsX1_findInlet RX1) (hK : KN D cI cN s) {n : OS} {x1 : Int32} {r0 : Int32} (hret : ∀ (H : Heap) (locs : List Loc) (ls : Array Slot) (pc : Nat), decode cX1_findInlet pc = .ok (.ireturn, 1) → narrow .int (.int r0) = .int r0 → va_S (nwA s.heap.size) s.heap H locs → W p l e (headSpec wsX1_findInlet rm_X1_findInlet).room s m args below meth c H locs 0 0 Q (F0 m pc ls [.int r0])) (hf : fX1_findInlet n x1 = some r0) (H : Heap) (locs : List Loc) (ls : Array Slot) (hP : va_P D vwCl (nwW cI q n) H) (hS : va_S (nwA s.heap.size) s.heap H locs) (hl : lv_has ls 3 [(0, .ref (q 0)), (1, .int x1)]) : W p l e (headSpec wsX1_findInlet rm_X1_findInlet).room s m args below meth c H locs 0 0 Q (F0 m 0 ls []) := by
  obtain ⟨hx, hb, hml, hown, hts⟩ := id S
  have inX1 := in_X1_findInlet_X1
  have hA : ∀ q : Nat, s.heap.size ≤ q → nwA s.heap.size q := fun _ h => h
  unfold fX1_findInlet at hf
  refine lv_iload_n hx hb dX1_findInlet_0 rfl (lv_at hl 1 rfl) ?_
  refine lv_if_ge (tgt := 6) hx hb dX1_findInlet_1 (by decide) (fun c1 => ?_) (fun c1 => ?_)
  · have hf := it_t hf c1
    refine lv_iconst (v := (0 : Int32)) hx hb dX1_findInlet_6 kc_iconst_0 ?_
    refine lv_istore_n (lv' := [(2, .int (0 : Int32)), (0, .ref (q 0)), (1, .int x1)]) hx hb dX1_findInlet_7 rfl hl (by decide) rfl (fun ls hl => ?_)
    exact w_X1_findInlet_8 S hK hret _ _ hf H locs ls hP hS (lv_sub hl [1, 2, 0] rfl)
  · have hf := it_f hf c1
    refine lv_iconst (v := (-1 : Int32)) hx hb dX1_findInlet_4 kc_iconst_m1 ?_
    have e0 : (-1 : Int32) = r0 := (Option.some.inj hf)
    subst e0
    exact hret H locs ls _ dX1_findInlet_5 rfl hS
set_option maxRecDepth 100000 in
theorem c_X1_findInlet (l : Launch) (D : va_G) (cI cN : ClassId) (q : Nat → Nat) (sz : Nat) (n : OS) (x1 : Int32) (r0 : Int32) (hf : fX1_findInlet n x1 = some r0) : CtP l D cI cN yX1_findInlet wsX1_findInlet rm_X1_findInlet [.ref (q 0), .int x1] (nwW cI q n) sz r0 := by
  refine mP (cc := cX1_findInlet) (maxL := 3) (ty := .int) (by decide) rfl rfl (Nat.le_of_ble_eq_true rfl) ?_
  intro p e s m args below meth c Q S hK hP hS hret ls hl
  exact w_X1_findInlet_0 S hK hret hf _ _ _ hP hS (lv_sub (show lv_has ls 3 [(0, .ref (q 0)), (1, .int x1)] from hl) [0, 1] rfl)
abbrev rm_X1_loadOf : Room := { frames := 1, cells := 0, slots := 0, locals := 21 }
theorem in_X1_loadOf_X1 : ∀ w ∈ u_ws RX1 TX1 16, w ∈ wsX1_loadOf := fun w h => List.mem_cons_of_mem _ (List.mem_append_left _ (List.mem_append_right _ h))
set_option maxRecDepth 100000 in
set_option maxHeartbeats 4000000 in
theorem w_X1_loadOf_4 {p : Program} {l : Launch} {e : Env} {s : State} {m : MethodId} {args : Array Value} {below : List Frame} {meth : Method} {c : Code} {Q : State → Prop} {D : va_G} {cI cN : ClassId} {q : Nat → Nat} (S : CallFix p m c cX1_loadOf 4 s args wsX1_loadOf RX1) (hK : KN D cI cN s) {n : OS} {x1 : Int32} {r0 : Int32} (hret : ∀ (H : Heap) (locs : List Loc) (ls : Array Slot) (pc : Nat), decode cX1_loadOf pc = .ok (.ireturn, 1) → narrow .int (.int r0) = .int r0 → va_S (nwA s.heap.size) s.heap H locs → W p l e (headSpec wsX1_loadOf rm_X1_loadOf).room s m args below meth c H locs 0 0 Q (F0 m pc ls [.int r0])) : ∀ (k : Nat) (x2 : Int32) (x3 : Int32), fX1_loadOf_4 n x1 k x2 x3 = some r0 → ∀ (H : Heap) (locs : List Loc) (ls : Array Slot), va_P D vwCl (nwW cI q n) H → va_S (nwA s.heap.size) s.heap H locs → lv_has ls 4 [(0, .ref (q 0)), (1, .int x1), (2, .int x2), (3, .int x3)] → W p l e (headSpec wsX1_loadOf rm_X1_loadOf).room s m args below meth c H locs 0 0 Q (F0 m 4 ls []) := by
  obtain ⟨hx, hb, hml, hown, hts⟩ := id S
  have inX1 := in_X1_loadOf_X1
  have hA : ∀ q : Nat, s.heap.size ≤ q → nwA s.heap.size q := fun _ h => h
  intro k
  induction k with
  | zero => intro x2 x3 hf; rw [fX1_loadOf_4_z] at hf; cases hf
  | succ k ih =>
    intro x2 x3 hf H locs ls hP hS hl
    rw [fX1_loadOf_4_s] at hf
    refine lv_iload_n hx hb dX1_loadOf_4 rfl (lv_at hl 3 rfl) ?_
    refine lv_aload_n hx hb dX1_loadOf_5 rfl (lv_at hl 0 rfl) ?_
    refine va_get (D := D) (ci := 1) (v := .int (n.1 0)) (C := RX1) (T := TX1) (N := 16) hx hb hts inX1 hown hK.1 hP 0 rfl rfl 0 (by decide) (hts (.fieldLink RX1 9 "ClosExchange$Network" "boards" "I") (List.mem_of_getElem? (i := 1) rfl)) (fun _ h9 => h9) rfl dX1_loadOf_6 ?_
    refine lv_icmp_ge (tgt := 41) hx hb dX1_loadOf_9 (by decide) (fun c1 => ?_) (fun c1 => ?_)
    · have hf := it_t hf c1
      refine lv_iload_n hx hb dX1_loadOf_41 rfl (lv_at hl 2 rfl) ?_
      have e0 : x2 = r0 := (Option.some.inj hf)
      subst e0
      exact hret H locs ls _ dX1_loadOf_42 rfl hS
    · have hf := it_f hf c1
      refine lv_iload_n hx hb dX1_loadOf_12 rfl (lv_at hl 2 rfl) ?_
      refine lv_aload_n hx hb dX1_loadOf_13 rfl (lv_at hl 0 rfl) ?_
      refine va_get (D := D) (ci := 1) (v := .ref (q 5)) (C := RX1) (T := TX1) (N := 16) hx hb hts inX1 hown hK.1 hP 0 rfl rfl 14 (by decide) (hts (.fieldLink RX1 42 "ClosExchange$Network" "firstLinks" "LClosExchange$Row;") (List.mem_of_getElem? (i := 2) rfl)) (fun _ h9 => h9) rfl dX1_loadOf_14 ?_
      refine lv_iload_n hx hb dX1_loadOf_17 rfl (lv_at hl 3 rfl) ?_
      refine lv_iload_n hx hb dX1_loadOf_18 rfl (lv_at hl 1 rfl) ?_
      refine cNi (As := [.int x3, .int x1]) (rest := [.ref (q 5), .int x2]) S (c_X5_link l D cI cN _ x3 x1 (fX5_link x3 x1) rfl) ⟨va_cnB 2 hts gX1_loadOf_X5_link_n81 rfl rfl rfl hK.2.1 (hts (.initialized RX5) (List.mem_of_getElem? (i := 4) rfl)) (by decide +kernel) ⟨Nat.le_of_ble_eq_true rfl, Nat.le_of_ble_eq_true rfl⟩, (hts (.static yX5_link) (List.mem_of_getElem? (i := 3) rfl)), trivial⟩ hK hP hS hA [] rfl rfl hl.1 rfl (Nat.le_of_ble_eq_true rfl) dX1_loadOf_19 ⟨Nat.zero_le _, Nat.zero_le _⟩ (fun H locs hP hS => ?_)
      refine cQi (As := [.int (fX5_link x3 x1)]) (rest := [.int x2]) (q0 := 5) (ci := 4) S (c_X4_get l D cI cN (q 5) (q 11) 64 (Nat.le_of_ble_eq_true rfl) _ (n.2 4) (fX5_link x3 x1)) (cwV 1 hts gX1_loadOf_X4_get rfl rfl rfl (by decide +kernel) ⟨Nat.le_of_ble_eq_true rfl, Nat.le_of_ble_eq_true rfl⟩) hK hP hS hA (P_two (i0 := 5) (i1 := 11) hP rfl rfl) rfl rfl rfl hl.1 rfl (Nat.le_of_ble_eq_true rfl) dX1_loadOf_22 ⟨Nat.zero_le _, Nat.zero_le _⟩ (fun H locs hP hS => ?_)
      refine lv_if_lt (tgt := 32) hx hb dX1_loadOf_25 (by decide) (fun c2 => ?_) (fun c2 => ?_)
      · have hf := it_t hf c2
        refine lv_iconst (v := (0 : Int32)) hx hb dX1_loadOf_32 kc_iconst_0 ?_
        refine lv_iadd hx hb dX1_loadOf_33 ?_
        refine lv_istore_n (lv' := [(2, .int (x2 + (0 : Int32))), (0, .ref (q 0)), (1, .int x1), (3, .int x3)]) hx hb dX1_loadOf_34 rfl hl (by decide) rfl (fun ls hl => ?_)
        refine lv_iinc (v := (x3 + (1 : Int32))) (lv' := [(3, .int (x3 + (1 : Int32))), (2, .int (x2 + (0 : Int32))), (0, .ref (q 0)), (1, .int x1)]) hx hb dX1_loadOf_35 hl (k := 3) rfl rfl (by decide) rfl (fun ls hl => ?_)
        refine lv_goto (tgt := 4) hx hb dX1_loadOf_38 (by decide) ?_
        exact ih _ _ hf H locs ls hP hS (lv_sub hl [2, 3, 1, 0] rfl)
      · have hf := it_f hf c2
        refine lv_iconst (v := (1 : Int32)) hx hb dX1_loadOf_28 kc_iconst_1 ?_
        refine lv_goto (tgt := 33) hx hb dX1_loadOf_29 (by decide) ?_
        refine lv_iadd hx hb dX1_loadOf_33 ?_
        refine lv_istore_n (lv' := [(2, .int (x2 + (1 : Int32))), (0, .ref (q 0)), (1, .int x1), (3, .int x3)]) hx hb dX1_loadOf_34 rfl hl (by decide) rfl (fun ls hl => ?_)
        refine lv_iinc (v := (x3 + (1 : Int32))) (lv' := [(3, .int (x3 + (1 : Int32))), (2, .int (x2 + (1 : Int32))), (0, .ref (q 0)), (1, .int x1)]) hx hb dX1_loadOf_35 hl (k := 3) rfl rfl (by decide) rfl (fun ls hl => ?_)
        refine lv_goto (tgt := 4) hx hb dX1_loadOf_38 (by decide) ?_
        exact ih _ _ hf H locs ls hP hS (lv_sub hl [2, 3, 1, 0] rfl)
set_option maxRecDepth 100000 in
set_option maxHeartbeats 4000000 in
theorem w_X1_loadOf_0 {p : Program} {l : Launch} {e : Env} {s : State} {m : MethodId} {args : Array Value} {below : List Frame} {meth : Method} {c : Code} {Q : State → Prop} {D : va_G} {cI cN : ClassId} {q : Nat → Nat} (S : CallFix p m c cX1_loadOf 4 s args wsX1_loadOf RX1) (hK : KN D cI cN s) {n : OS} {x1 : Int32} {r0 : Int32} (hret : ∀ (H : Heap) (locs : List Loc) (ls : Array Slot) (pc : Nat), decode cX1_loadOf pc = .ok (.ireturn, 1) → narrow .int (.int r0) = .int r0 → va_S (nwA s.heap.size) s.heap H locs → W p l e (headSpec wsX1_loadOf rm_X1_loadOf).room s m args below meth c H locs 0 0 Q (F0 m pc ls [.int r0])) (hf : fX1_loadOf n x1 = some r0) (H : Heap) (locs : List Loc) (ls : Array Slot) (hP : va_P D vwCl (nwW cI q n) H) (hS : va_S (nwA s.heap.size) s.heap H locs) (hl : lv_has ls 4 [(0, .ref (q 0)), (1, .int x1)]) : W p l e (headSpec wsX1_loadOf rm_X1_loadOf).room s m args below meth c H locs 0 0 Q (F0 m 0 ls []) := by
  obtain ⟨hx, hb, hml, hown, hts⟩ := id S
  have inX1 := in_X1_loadOf_X1
  have hA : ∀ q : Nat, s.heap.size ≤ q → nwA s.heap.size q := fun _ h => h
  unfold fX1_loadOf at hf
  refine lv_iconst (v := (0 : Int32)) hx hb dX1_loadOf_0 kc_iconst_0 ?_
  refine lv_istore_n (lv' := [(2, .int (0 : Int32)), (0, .ref (q 0)), (1, .int x1)]) hx hb dX1_loadOf_1 rfl hl (by decide) rfl (fun ls hl => ?_)
  refine lv_iconst (v := (0 : Int32)) hx hb dX1_loadOf_2 kc_iconst_0 ?_
  refine lv_istore_n (lv' := [(3, .int (0 : Int32)), (2, .int (0 : Int32)), (0, .ref (q 0)), (1, .int x1)]) hx hb dX1_loadOf_3 rfl hl (by decide) rfl (fun ls hl => ?_)
  exact w_X1_loadOf_4 S hK hret _ _ _ hf H locs ls hP hS (lv_sub hl [2, 3, 1, 0] rfl)
set_option maxRecDepth 100000 in
theorem c_X1_loadOf (l : Launch) (D : va_G) (cI cN : ClassId) (q : Nat → Nat) (sz : Nat) (n : OS) (x1 : Int32) (r0 : Int32) (hf : fX1_loadOf n x1 = some r0) : CtP l D cI cN yX1_loadOf wsX1_loadOf rm_X1_loadOf [.ref (q 0), .int x1] (nwW cI q n) sz r0 := by
  refine mP (cc := cX1_loadOf) (maxL := 4) (ty := .int) (by decide) rfl rfl (Nat.le_of_ble_eq_true rfl) ?_
  intro p e s m args below meth c Q S hK hP hS hret ls hl
  exact w_X1_loadOf_0 S hK hret hf _ _ _ hP hS (lv_sub (show lv_has ls 4 [(0, .ref (q 0)), (1, .int x1)] from hl) [0, 1] rfl)
abbrev rm_X1_fullestBoard : Room := { frames := 2, cells := 0, slots := 0, locals := 42 }
theorem in_X1_fullestBoard_X1 : ∀ w ∈ u_ws RX1 TX1 16, w ∈ wsX1_fullestBoard := fun w h => List.mem_cons_of_mem _ (List.mem_append_left _ (List.mem_append_right _ h))
set_option maxRecDepth 100000 in
set_option maxHeartbeats 4000000 in
theorem w_X1_fullestBoard_25 {p : Program} {l : Launch} {e : Env} {s : State} {m : MethodId} {args : Array Value} {below : List Frame} {meth : Method} {c : Code} {Q : State → Prop} {D : va_G} {cI cN : ClassId} {q : Nat → Nat} (S : CallFix p m c cX1_fullestBoard 6 s args wsX1_fullestBoard RX1) (hK : KN D cI cN s) {n : OS} {x1 : Int32} {x2 : Int32} : ∀ (k : Nat) (x3 : Int32) (x4 : Int32) (x5 : Int32) (out : Int32 × Int32), fX1_fullestBoard_25 n x1 x2 k x3 x4 x5 = some out → ∀ (H : Heap) (locs : List Loc) (ls : Array Slot), va_P D vwCl (nwW cI q n) H → va_S (nwA s.heap.size) s.heap H locs → lv_has ls 6 [(0, .ref (q 0)), (1, .int x1), (2, .int x2), (3, .int x3), (4, .int x4), (5, .int x5)] → (∀ (H : Heap) (locs : List Loc) (ls : Array Slot), va_P D vwCl (nwW cI q n) H → va_S (nwA s.heap.size) s.heap H locs → lv_has ls 6 [(0, .ref (q 0)), (1, .int x1), (2, .int x2), (3, .int out.1), (4, .int out.2)] → W p l e (headSpec wsX1_fullestBoard rm_X1_fullestBoard).room s m args below meth c H locs 0 0 Q (F0 m 80 ls [])) → W p l e (headSpec wsX1_fullestBoard rm_X1_fullestBoard).room s m args below meth c H locs 0 0 Q (F0 m 25 ls []) := by
  obtain ⟨hx, hb, hml, hown, hts⟩ := id S
  have inX1 := in_X1_fullestBoard_X1
  have hA : ∀ q : Nat, s.heap.size ≤ q → nwA s.heap.size q := fun _ h => h
  intro k
  induction k with
  | zero => intro x3 x4 x5 out hf; rw [fX1_fullestBoard_25_z] at hf; cases hf
  | succ k ih =>
    intro x3 x4 x5 out hf H locs ls hP hS hl kx
    rw [fX1_fullestBoard_25_s] at hf
    refine lv_iload hx hb dX1_fullestBoard_25 (lv_at hl 5 rfl) ?_
    refine lv_iload_n hx hb dX1_fullestBoard_27 rfl (lv_at hl 2 rfl) ?_
    refine lv_iconst (v := (1 : Int32)) hx hb dX1_fullestBoard_28 kc_iconst_1 ?_
    refine lv_iadd hx hb dX1_fullestBoard_29 ?_
    refine lv_aload_n hx hb dX1_fullestBoard_30 rfl (lv_at hl 0 rfl) ?_
    refine va_get (D := D) (ci := 1) (v := .int (n.1 1)) (C := RX1) (T := TX1) (N := 16) hx hb hts inX1 hown hK.1 hP 0 rfl rfl 1 (by decide) (hts (.fieldLink RX1 15 "ClosExchange$Network" "lines" "I") (List.mem_of_getElem? (i := 2) rfl)) (fun _ h9 => h9) rfl dX1_fullestBoard_31 ?_
    refine lv_imul hx hb dX1_fullestBoard_34 ?_
    refine lv_icmp_ge (tgt := 80) hx hb dX1_fullestBoard_35 (by decide) (fun c2 => ?_) (fun c2 => ?_)
    · have hf := it_t hf c2
      have e0 := Option.some.inj hf
      subst e0
      exact kx H locs ls hP hS (lv_sub hl [0, 1, 2, 3, 4] rfl)
    · have hf := it_f hf c2
      refine lv_iload_n hx hb dX1_fullestBoard_38 rfl (lv_at hl 3 rfl) ?_
      refine lv_aload_n hx hb dX1_fullestBoard_39 rfl (lv_at hl 0 rfl) ?_
      refine lv_iload hx hb dX1_fullestBoard_40 (lv_at hl 5 rfl) ?_
      refine cQi (As := [.int x5]) (rest := [.int x3]) (q0 := 0) (ci := 1) S (c_X1_isInletBusy l D cI cN q _ n x5 (fX1_isInletBusy n x5) rfl) (cwV 1 hts gX1_fullestBoard_X1_isInletBusy rfl rfl rfl (by decide +kernel) ⟨Nat.le_of_ble_eq_true rfl, Nat.le_of_ble_eq_true rfl⟩) hK hP hS hA hP rfl rfl rfl hl.1 rfl (Nat.le_of_ble_eq_true rfl) dX1_fullestBoard_42 ⟨Nat.zero_le _, Nat.zero_le _⟩ (fun H locs hP hS => ?_)
      obtain ⟨v4, hg, hf⟩ := it_j hf
      have hj : ∀ (H : Heap) (locs : List Loc) (ls : Array Slot), va_P D vwCl (nwW cI q n) H → va_S (nwA s.heap.size) s.heap H locs → lv_has ls 6 [(0, .ref (q 0)), (1, .int x1), (2, .int x2), (4, .int x4), (5, .int x5)] → W p l e (headSpec wsX1_fullestBoard rm_X1_fullestBoard).room s m args below meth c H locs 0 0 Q (F0 m 53 ls [.int v4, .int x3]) := by
        intro H locs ls hP hS hl
        refine lv_iadd hx hb dX1_fullestBoard_53 ?_
        refine lv_istore_n (lv' := [(3, .int (x3 + v4)), (0, .ref (q 0)), (1, .int x1), (2, .int x2), (4, .int x4), (5, .int x5)]) hx hb dX1_fullestBoard_54 rfl hl (by decide) rfl (fun ls hl => ?_)
        refine lv_iload hx hb dX1_fullestBoard_55 (lv_at hl 4 rfl) ?_
        refine lv_aload_n hx hb dX1_fullestBoard_57 rfl (lv_at hl 1 rfl) ?_
        refine lv_iload hx hb dX1_fullestBoard_58 (lv_at hl 5 rfl) ?_
        refine cQi (As := [.int x5]) (rest := [.int x4]) (q0 := 0) (ci := 1) S (c_X1_isOutletBusy l D cI cN q _ n x5 (fX1_isOutletBusy n x5) rfl) (cwV 1 hts gX1_fullestBoard_X1_isOutletBusy rfl rfl rfl (by decide +kernel) ⟨Nat.le_of_ble_eq_true rfl, Nat.le_of_ble_eq_true rfl⟩) hK hP hS hA hP rfl rfl rfl hl.1 rfl (Nat.le_of_ble_eq_true rfl) dX1_fullestBoard_60 ⟨Nat.zero_le _, Nat.zero_le _⟩ (fun H locs hP hS => ?_)
        refine lv_if_eq (tgt := 70) hx hb dX1_fullestBoard_63 (by decide) (fun c5 => ?_) (fun c5 => ?_)
        · have hf := it_t hf c5
          refine lv_iconst (v := (0 : Int32)) hx hb dX1_fullestBoard_70 kc_iconst_0 ?_
          refine lv_iadd hx hb dX1_fullestBoard_71 ?_
          refine lv_istore (lv' := [(4, .int (x4 + (0 : Int32))), (3, .int (x3 + v4)), (0, .ref (q 0)), (1, .int x1), (2, .int x2), (5, .int x5)]) hx hb dX1_fullestBoard_72 hl (by decide) rfl (fun ls hl => ?_)
          refine lv_iinc (v := (x5 + (1 : Int32))) (lv' := [(5, .int (x5 + (1 : Int32))), (4, .int (x4 + (0 : Int32))), (3, .int (x3 + v4)), (0, .ref (q 0)), (1, .int x1), (2, .int x2)]) hx hb dX1_fullestBoard_74 hl (k := 5) rfl rfl (by decide) rfl (fun ls hl => ?_)
          refine lv_goto (tgt := 25) hx hb dX1_fullestBoard_77 (by decide) ?_
          exact ih _ _ _ _ hf H locs ls hP hS (lv_sub hl [3, 4, 5, 2, 1, 0] rfl) kx
        · have hf := it_f hf c5
          refine lv_iconst (v := (1 : Int32)) hx hb dX1_fullestBoard_66 kc_iconst_1 ?_
          refine lv_goto (tgt := 71) hx hb dX1_fullestBoard_67 (by decide) ?_
          refine lv_iadd hx hb dX1_fullestBoard_71 ?_
          refine lv_istore (lv' := [(4, .int (x4 + (1 : Int32))), (3, .int (x3 + v4)), (0, .ref (q 0)), (1, .int x1), (2, .int x2), (5, .int x5)]) hx hb dX1_fullestBoard_72 hl (by decide) rfl (fun ls hl => ?_)
          refine lv_iinc (v := (x5 + (1 : Int32))) (lv' := [(5, .int (x5 + (1 : Int32))), (4, .int (x4 + (1 : Int32))), (3, .int (x3 + v4)), (0, .ref (q 0)), (1, .int x1), (2, .int x2)]) hx hb dX1_fullestBoard_74 hl (k := 5) rfl rfl (by decide) rfl (fun ls hl => ?_)
          refine lv_goto (tgt := 25) hx hb dX1_fullestBoard_77 (by decide) ?_
          exact ih _ _ _ _ hf H locs ls hP hS (lv_sub hl [3, 4, 5, 2, 1, 0] rfl) kx
      have hf := hg
      refine lv_if_eq (tgt := 52) hx hb dX1_fullestBoard_45 (by decide) (fun c3 => ?_) (fun c3 => ?_)
      · have hf := it_t hf c3
        refine lv_iconst (v := (0 : Int32)) hx hb dX1_fullestBoard_52 kc_iconst_0 ?_
        have e0 := hf
        subst e0
        exact hj H locs ls hP hS (lv_sub hl [0, 1, 2, 4, 5] rfl)
      · have hf := it_f hf c3
        refine lv_iconst (v := (1 : Int32)) hx hb dX1_fullestBoard_48 kc_iconst_1 ?_
        refine lv_goto (tgt := 53) hx hb dX1_fullestBoard_49 (by decide) ?_
        have e0 := hf
        subst e0
        exact hj H locs ls hP hS (lv_sub hl [0, 1, 2, 4, 5] rfl)
set_option maxRecDepth 100000 in
set_option maxHeartbeats 4000000 in
theorem w_X1_fullestBoard_4 {p : Program} {l : Launch} {e : Env} {s : State} {m : MethodId} {args : Array Value} {below : List Frame} {meth : Method} {c : Code} {Q : State → Prop} {D : va_G} {cI cN : ClassId} {q : Nat → Nat} (S : CallFix p m c cX1_fullestBoard 6 s args wsX1_fullestBoard RX1) (hK : KN D cI cN s) {n : OS} {r0 : Int32} (hret : ∀ (H : Heap) (locs : List Loc) (ls : Array Slot) (pc : Nat), decode cX1_fullestBoard pc = .ok (.ireturn, 1) → narrow .int (.int r0) = .int r0 → va_S (nwA s.heap.size) s.heap H locs → W p l e (headSpec wsX1_fullestBoard rm_X1_fullestBoard).room s m args below meth c H locs 0 0 Q (F0 m pc ls [.int r0])) : ∀ (k : Nat) (x1 : Int32) (x2 : Int32), fX1_fullestBoard_4 n k x1 x2 = some r0 → ∀ (H : Heap) (locs : List Loc) (ls : Array Slot), va_P D vwCl (nwW cI q n) H → va_S (nwA s.heap.size) s.heap H locs → lv_has ls 6 [(0, .ref (q 0)), (1, .int x1), (2, .int x2)] → W p l e (headSpec wsX1_fullestBoard rm_X1_fullestBoard).room s m args below meth c H locs 0 0 Q (F0 m 4 ls []) := by
  obtain ⟨hx, hb, hml, hown, hts⟩ := id S
  have inX1 := in_X1_fullestBoard_X1
  have hA : ∀ q : Nat, s.heap.size ≤ q → nwA s.heap.size q := fun _ h => h
  intro k
  induction k with
  | zero => intro x1 x2 hf; rw [fX1_fullestBoard_4_z] at hf; cases hf
  | succ k ih =>
    intro x1 x2 hf H locs ls hP hS hl
    rw [fX1_fullestBoard_4_s] at hf
    refine lv_iload_n hx hb dX1_fullestBoard_4 rfl (lv_at hl 2 rfl) ?_
    refine lv_aload_n hx hb dX1_fullestBoard_5 rfl (lv_at hl 0 rfl) ?_
    refine va_get (D := D) (ci := 1) (v := .int (n.1 0)) (C := RX1) (T := TX1) (N := 16) hx hb hts inX1 hown hK.1 hP 0 rfl rfl 0 (by decide) (hts (.fieldLink RX1 9 "ClosExchange$Network" "boards" "I") (List.mem_of_getElem? (i := 1) rfl)) (fun _ h9 => h9) rfl dX1_fullestBoard_6 ?_
    refine lv_icmp_ge (tgt := 97) hx hb dX1_fullestBoard_9 (by decide) (fun c1 => ?_) (fun c1 => ?_)
    · have hf := it_t hf c1
      refine lv_iload_n hx hb dX1_fullestBoard_97 rfl (lv_at hl 1 rfl) ?_
      have e0 : x1 = r0 := (Option.some.inj hf)
      subst e0
      exact hret H locs ls _ dX1_fullestBoard_98 rfl hS
    · have hf := it_f hf c1
      refine lv_iconst (v := (0 : Int32)) hx hb dX1_fullestBoard_12 kc_iconst_0 ?_
      refine lv_istore_n (lv' := [(3, .int (0 : Int32)), (0, .ref (q 0)), (1, .int x1), (2, .int x2)]) hx hb dX1_fullestBoard_13 rfl hl (by decide) rfl (fun ls hl => ?_)
      refine lv_iconst (v := (0 : Int32)) hx hb dX1_fullestBoard_14 kc_iconst_0 ?_
      refine lv_istore (lv' := [(4, .int (0 : Int32)), (3, .int (0 : Int32)), (0, .ref (q 0)), (1, .int x1), (2, .int x2)]) hx hb dX1_fullestBoard_15 hl (by decide) rfl (fun ls hl => ?_)
      refine lv_iload_n hx hb dX1_fullestBoard_17 rfl (lv_at hl 4 rfl) ?_
      refine lv_aload_n hx hb dX1_fullestBoard_18 rfl (lv_at hl 2 rfl) ?_
      refine va_get (D := D) (ci := 1) (v := .int (n.1 1)) (C := RX1) (T := TX1) (N := 16) hx hb hts inX1 hown hK.1 hP 0 rfl rfl 1 (by decide) (hts (.fieldLink RX1 15 "ClosExchange$Network" "lines" "I") (List.mem_of_getElem? (i := 2) rfl)) (fun _ h9 => h9) rfl dX1_fullestBoard_19 ?_
      refine lv_imul hx hb dX1_fullestBoard_22 ?_
      refine lv_istore (lv' := [(5, .int (x2 * (n.1 1))), (4, .int (0 : Int32)), (3, .int (0 : Int32)), (0, .ref (q 0)), (1, .int x1), (2, .int x2)]) hx hb dX1_fullestBoard_23 hl (by decide) rfl (fun ls hl => ?_)
      obtain ⟨v6, hv6, hf⟩ := it_b hf
      refine w_X1_fullestBoard_25 S hK _ _ _ _ _ hv6 H locs ls hP hS (lv_sub hl [3, 4, 5, 2, 1, 0] rfl) (fun H locs ls hP hS hl => ?_)
      refine lv_iload_n hx hb dX1_fullestBoard_80 rfl (lv_at hl 1 rfl) ?_
      refine lv_iload_n hx hb dX1_fullestBoard_81 rfl (lv_at hl 3 rfl) ?_
      refine lv_iload hx hb dX1_fullestBoard_82 (lv_at hl 4 rfl) ?_
      refine va_mmax hx hb (hml.trans hl.1.symm) hown (hts (.methodLink RX1 92 Lib.Math.max.name) (List.mem_of_getElem? (i := 3) rfl)) (hts (.static Lib.Math.max.name) (List.mem_of_getElem? (i := 4) rfl)) (hts (.initialized "java/lang/Math") (List.mem_of_getElem? (i := 5) rfl)) (hts (.code Lib.Math.max.name Lib.Math.max.code 2 (some .int)) (List.mem_of_getElem? (i := 6) rfl)) (Nat.le_of_ble_eq_true rfl) (Nat.le_of_ble_eq_true rfl) (Nat.zero_le _) (Nat.zero_le _) dX1_fullestBoard_84 ?_
      refine va_mmax hx hb (hml.trans hl.1.symm) hown (hts (.methodLink RX1 92 Lib.Math.max.name) (List.mem_of_getElem? (i := 3) rfl)) (hts (.static Lib.Math.max.name) (List.mem_of_getElem? (i := 4) rfl)) (hts (.initialized "java/lang/Math") (List.mem_of_getElem? (i := 5) rfl)) (hts (.code Lib.Math.max.name Lib.Math.max.code 2 (some .int)) (List.mem_of_getElem? (i := 6) rfl)) (Nat.le_of_ble_eq_true rfl) (Nat.le_of_ble_eq_true rfl) (Nat.zero_le _) (Nat.zero_le _) dX1_fullestBoard_87 ?_
      refine lv_istore_n (lv' := [(1, .int (if x1 < (if v6.1 < v6.2 then v6.2 else v6.1) then (if v6.1 < v6.2 then v6.2 else v6.1) else x1)), (0, .ref (q 0)), (2, .int x2), (3, .int v6.1), (4, .int v6.2)]) hx hb dX1_fullestBoard_90 rfl hl (by decide) rfl (fun ls hl => ?_)
      refine lv_iinc (v := (x2 + (1 : Int32))) (lv' := [(2, .int (x2 + (1 : Int32))), (1, .int (if x1 < (if v6.1 < v6.2 then v6.2 else v6.1) then (if v6.1 < v6.2 then v6.2 else v6.1) else x1)), (0, .ref (q 0)), (3, .int v6.1), (4, .int v6.2)]) hx hb dX1_fullestBoard_91 hl (k := 2) rfl rfl (by decide) rfl (fun ls hl => ?_)
      refine lv_goto (tgt := 4) hx hb dX1_fullestBoard_94 (by decide) ?_
      exact ih _ _ hf H locs ls hP hS (lv_sub hl [2, 1, 0] rfl)
set_option maxRecDepth 100000 in
set_option maxHeartbeats 4000000 in
theorem w_X1_fullestBoard_0 {p : Program} {l : Launch} {e : Env} {s : State} {m : MethodId} {args : Array Value} {below : List Frame} {meth : Method} {c : Code} {Q : State → Prop} {D : va_G} {cI cN : ClassId} {q : Nat → Nat} (S : CallFix p m c cX1_fullestBoard 6 s args wsX1_fullestBoard RX1) (hK : KN D cI cN s) {n : OS} {r0 : Int32} (hret : ∀ (H : Heap) (locs : List Loc) (ls : Array Slot) (pc : Nat), decode cX1_fullestBoard pc = .ok (.ireturn, 1) → narrow .int (.int r0) = .int r0 → va_S (nwA s.heap.size) s.heap H locs → W p l e (headSpec wsX1_fullestBoard rm_X1_fullestBoard).room s m args below meth c H locs 0 0 Q (F0 m pc ls [.int r0])) (hf : fX1_fullestBoard n = some r0) (H : Heap) (locs : List Loc) (ls : Array Slot) (hP : va_P D vwCl (nwW cI q n) H) (hS : va_S (nwA s.heap.size) s.heap H locs) (hl : lv_has ls 6 [(0, .ref (q 0))]) : W p l e (headSpec wsX1_fullestBoard rm_X1_fullestBoard).room s m args below meth c H locs 0 0 Q (F0 m 0 ls []) := by
  obtain ⟨hx, hb, hml, hown, hts⟩ := id S
  have inX1 := in_X1_fullestBoard_X1
  have hA : ∀ q : Nat, s.heap.size ≤ q → nwA s.heap.size q := fun _ h => h
  unfold fX1_fullestBoard at hf
  refine lv_iconst (v := (0 : Int32)) hx hb dX1_fullestBoard_0 kc_iconst_0 ?_
  refine lv_istore_n (lv' := [(1, .int (0 : Int32)), (0, .ref (q 0))]) hx hb dX1_fullestBoard_1 rfl hl (by decide) rfl (fun ls hl => ?_)
  refine lv_iconst (v := (0 : Int32)) hx hb dX1_fullestBoard_2 kc_iconst_0 ?_
  refine lv_istore_n (lv' := [(2, .int (0 : Int32)), (1, .int (0 : Int32)), (0, .ref (q 0))]) hx hb dX1_fullestBoard_3 rfl hl (by decide) rfl (fun ls hl => ?_)
  exact w_X1_fullestBoard_4 S hK hret _ _ _ hf H locs ls hP hS (lv_sub hl [2, 1, 0] rfl)
set_option maxRecDepth 100000 in
theorem c_X1_fullestBoard (l : Launch) (D : va_G) (cI cN : ClassId) (q : Nat → Nat) (sz : Nat) (n : OS) (r0 : Int32) (hf : fX1_fullestBoard n = some r0) : CtP l D cI cN yX1_fullestBoard wsX1_fullestBoard rm_X1_fullestBoard [.ref (q 0)] (nwW cI q n) sz r0 := by
  refine mP (cc := cX1_fullestBoard) (maxL := 6) (ty := .int) (by decide) rfl rfl (Nat.le_of_ble_eq_true rfl) ?_
  intro p e s m args below meth c Q S hK hP hS hret ls hl
  exact w_X1_fullestBoard_0 S hK hret hf _ _ _ hP hS (lv_sub (show lv_has ls 6 [(0, .ref (q 0))] from hl) [0] rfl)
abbrev rm_X1_firstLifted : Room := { frames := 2, cells := 0, slots := 0, locals := 42 }
theorem in_X1_firstLifted_X1 : ∀ w ∈ u_ws RX1 TX1 16, w ∈ wsX1_firstLifted := fun w h => List.mem_cons_of_mem _ (List.mem_append_left _ (List.mem_append_right _ h))
set_option maxRecDepth 100000 in
set_option maxHeartbeats 4000000 in
theorem w_X1_firstLifted_5 {p : Program} {l : Launch} {e : Env} {s : State} {m : MethodId} {args : Array Value} {below : List Frame} {meth : Method} {c : Code} {Q : State → Prop} {D : va_G} {cI cN : ClassId} {q : Nat → Nat} (S : CallFix p m c cX1_firstLifted 3 s args wsX1_firstLifted RX1) (hK : KN D cI cN s) {n : OS} {r0 : Int32} (hret : ∀ (H : Heap) (locs : List Loc) (ls : Array Slot) (pc : Nat), decode cX1_firstLifted pc = .ok (.ireturn, 1) → narrow .int (.int r0) = .int r0 → va_S (nwA s.heap.size) s.heap H locs → W p l e (headSpec wsX1_firstLifted rm_X1_firstLifted).room s m args below meth c H locs 0 0 Q (F0 m pc ls [.int r0])) : ∀ (k : Nat) (x1 : Int32) (x2 : Int32), fX1_firstLifted_5 n k x1 x2 = some r0 → ∀ (H : Heap) (locs : List Loc) (ls : Array Slot), va_P D vwCl (nwW cI q n) H → va_S (nwA s.heap.size) s.heap H locs → lv_has ls 3 [(0, .ref (q 0)), (1, .int x1), (2, .int x2)] → W p l e (headSpec wsX1_firstLifted rm_X1_firstLifted).room s m args below meth c H locs 0 0 Q (F0 m 5 ls []) := by
  obtain ⟨hx, hb, hml, hown, hts⟩ := id S
  have inX1 := in_X1_firstLifted_X1
  have hA : ∀ q : Nat, s.heap.size ≤ q → nwA s.heap.size q := fun _ h => h
  intro k
  induction k with
  | zero => intro x1 x2 hf; rw [fX1_firstLifted_5_z] at hf; cases hf
  | succ k ih =>
    intro x1 x2 hf H locs ls hP hS hl
    rw [fX1_firstLifted_5_s] at hf
    refine lv_iload_n hx hb dX1_firstLifted_5 rfl (lv_at hl 2 rfl) ?_
    refine lv_bipush (v := (48 : Int32)) hx hb dX1_firstLifted_6 kc_bipush_48 ?_
    refine lv_icmp_ge (tgt := 61) hx hb dX1_firstLifted_8 (by decide) (fun c1 => ?_) (fun c1 => ?_)
    · have hf := it_t hf c1
      refine lv_iload_n hx hb dX1_firstLifted_61 rfl (lv_at hl 1 rfl) ?_
      have e0 : x1 = r0 := (Option.some.inj hf)
      subst e0
      exact hret H locs ls _ dX1_firstLifted_62 rfl hS
    · have hf := it_f hf c1
      refine lv_aload_n hx hb dX1_firstLifted_11 rfl (lv_at hl 0 rfl) ?_
      refine lv_iload_n hx hb dX1_firstLifted_12 rfl (lv_at hl 2 rfl) ?_
      refine cQi (As := [.int x2]) (rest := []) (q0 := 0) (ci := 1) S (c_X1_isInletBusy l D cI cN q _ n x2 (fX1_isInletBusy n x2) rfl) (cwV 1 hts gX1_firstLifted_X1_isInletBusy rfl rfl rfl (by decide +kernel) ⟨Nat.le_of_ble_eq_true rfl, Nat.le_of_ble_eq_true rfl⟩) hK hP hS hA hP rfl rfl rfl hl.1 rfl (Nat.le_of_ble_eq_true rfl) dX1_firstLifted_13 ⟨Nat.zero_le _, Nat.zero_le _⟩ (fun H locs hP hS => ?_)
      refine lv_if_eq (tgt := 55) hx hb dX1_firstLifted_16 (by decide) (fun c2 => ?_) (fun c2 => ?_)
      · have hf := it_t hf c2
        refine lv_iinc (v := (x2 + (1 : Int32))) (lv' := [(2, .int (x2 + (1 : Int32))), (0, .ref (q 0)), (1, .int x1)]) hx hb dX1_firstLifted_55 hl (k := 2) rfl rfl (by decide) rfl (fun ls hl => ?_)
        refine lv_goto (tgt := 5) hx hb dX1_firstLifted_58 (by decide) ?_
        exact ih _ _ hf H locs ls hP hS (lv_sub hl [1, 2, 0] rfl)
      · have hf := it_f hf c2
        refine lv_aload_n hx hb dX1_firstLifted_19 rfl (lv_at hl 0 rfl) ?_
        refine va_get (D := D) (ci := 1) (v := .ref (q 3)) (C := RX1) (T := TX1) (N := 16) hx hb hts inX1 hown hK.1 hP 0 rfl rfl 12 (by decide) (hts (.fieldLink RX1 36 "ClosExchange$Network" "vias" "LClosExchange$Row;") (List.mem_of_getElem? (i := 1) rfl)) (fun _ h9 => h9) rfl dX1_firstLifted_20 ?_
        refine lv_iload_n hx hb dX1_firstLifted_23 rfl (lv_at hl 2 rfl) ?_
        refine cQi (As := [.int x2]) (rest := []) (q0 := 3) (ci := 4) S (c_X4_get l D cI cN (q 3) (q 9) 48 (Nat.le_of_ble_eq_true rfl) _ (n.2 2) x2) (cwV 1 hts gX1_firstLifted_X4_get rfl rfl rfl (by decide +kernel) ⟨Nat.le_of_ble_eq_true rfl, Nat.le_of_ble_eq_true rfl⟩) hK hP hS hA (P_two (i0 := 3) (i1 := 9) hP rfl rfl) rfl rfl rfl hl.1 rfl (Nat.le_of_ble_eq_true rfl) dX1_firstLifted_24 ⟨Nat.zero_le _, Nat.zero_le _⟩ (fun H locs hP hS => ?_)
        refine lv_if_ge (tgt := 55) hx hb dX1_firstLifted_27 (by decide) (fun c3 => ?_) (fun c3 => ?_)
        · have hf := it_t hf c3
          refine lv_iinc (v := (x2 + (1 : Int32))) (lv' := [(2, .int (x2 + (1 : Int32))), (0, .ref (q 0)), (1, .int x1)]) hx hb dX1_firstLifted_55 hl (k := 2) rfl rfl (by decide) rfl (fun ls hl => ?_)
          refine lv_goto (tgt := 5) hx hb dX1_firstLifted_58 (by decide) ?_
          exact ih _ _ hf H locs ls hP hS (lv_sub hl [1, 2, 0] rfl)
        · have hf := it_f hf c3
          refine lv_iload_n hx hb dX1_firstLifted_30 rfl (lv_at hl 1 rfl) ?_
          refine lv_if_lt (tgt := 53) hx hb dX1_firstLifted_31 (by decide) (fun c4 => ?_) (fun c4 => ?_)
          · have hf := it_t hf c4
            refine lv_iload_n hx hb dX1_firstLifted_53 rfl (lv_at hl 2 rfl) ?_
            refine lv_istore_n (lv' := [(1, .int x2), (0, .ref (q 0)), (2, .int x2)]) hx hb dX1_firstLifted_54 rfl hl (by decide) rfl (fun ls hl => ?_)
            refine lv_iinc (v := (x2 + (1 : Int32))) (lv' := [(2, .int (x2 + (1 : Int32))), (1, .int x2), (0, .ref (q 0))]) hx hb dX1_firstLifted_55 hl (k := 2) rfl rfl (by decide) rfl (fun ls hl => ?_)
            refine lv_goto (tgt := 5) hx hb dX1_firstLifted_58 (by decide) ?_
            exact ih _ _ hf H locs ls hP hS (lv_sub hl [2, 1, 0] rfl)
          · have hf := it_f hf c4
            refine lv_aload_n hx hb dX1_firstLifted_34 rfl (lv_at hl 0 rfl) ?_
            refine va_get (D := D) (ci := 1) (v := .ref (q 1)) (C := RX1) (T := TX1) (N := 16) hx hb hts inX1 hown hK.1 hP 0 rfl rfl 10 (by decide) (hts (.fieldLink RX1 29 "ClosExchange$Network" "numbers" "LClosExchange$Row;") (List.mem_of_getElem? (i := 2) rfl)) (fun _ h9 => h9) rfl dX1_firstLifted_35 ?_
            refine lv_iload_n hx hb dX1_firstLifted_38 rfl (lv_at hl 2 rfl) ?_
            refine cQi (As := [.int x2]) (rest := []) (q0 := 1) (ci := 4) S (c_X4_get l D cI cN (q 1) (q 7) 48 (Nat.le_of_ble_eq_true rfl) _ (n.2 0) x2) (cwV 1 hts gX1_firstLifted_X4_get rfl rfl rfl (by decide +kernel) ⟨Nat.le_of_ble_eq_true rfl, Nat.le_of_ble_eq_true rfl⟩) hK hP hS hA (P_two (i0 := 1) (i1 := 7) hP rfl rfl) rfl rfl rfl hl.1 rfl (Nat.le_of_ble_eq_true rfl) dX1_firstLifted_39 ⟨Nat.zero_le _, Nat.zero_le _⟩ (fun H locs hP hS => ?_)
            refine lv_aload_n hx hb dX1_firstLifted_42 rfl (lv_at hl 0 rfl) ?_
            refine va_get (D := D) (ci := 1) (v := .ref (q 1)) (C := RX1) (T := TX1) (N := 16) hx hb hts inX1 hown hK.1 hP 0 rfl rfl 10 (by decide) (hts (.fieldLink RX1 29 "ClosExchange$Network" "numbers" "LClosExchange$Row;") (List.mem_of_getElem? (i := 2) rfl)) (fun _ h9 => h9) rfl dX1_firstLifted_43 ?_
            refine lv_iload_n hx hb dX1_firstLifted_46 rfl (lv_at hl 1 rfl) ?_
            refine cQi (As := [.int x1]) (rest := [.int (rget (n.2 0) 48 x2)]) (q0 := 1) (ci := 4) S (c_X4_get l D cI cN (q 1) (q 7) 48 (Nat.le_of_ble_eq_true rfl) _ (n.2 0) x1) (cwV 1 hts gX1_firstLifted_X4_get rfl rfl rfl (by decide +kernel) ⟨Nat.le_of_ble_eq_true rfl, Nat.le_of_ble_eq_true rfl⟩) hK hP hS hA (P_two (i0 := 1) (i1 := 7) hP rfl rfl) rfl rfl rfl hl.1 rfl (Nat.le_of_ble_eq_true rfl) dX1_firstLifted_47 ⟨Nat.zero_le _, Nat.zero_le _⟩ (fun H locs hP hS => ?_)
            refine lv_icmp_ge (tgt := 55) hx hb dX1_firstLifted_50 (by decide) (fun c5 => ?_) (fun c5 => ?_)
            · have hf := it_t hf c5
              refine lv_iinc (v := (x2 + (1 : Int32))) (lv' := [(2, .int (x2 + (1 : Int32))), (0, .ref (q 0)), (1, .int x1)]) hx hb dX1_firstLifted_55 hl (k := 2) rfl rfl (by decide) rfl (fun ls hl => ?_)
              refine lv_goto (tgt := 5) hx hb dX1_firstLifted_58 (by decide) ?_
              exact ih _ _ hf H locs ls hP hS (lv_sub hl [1, 2, 0] rfl)
            · have hf := it_f hf c5
              refine lv_iload_n hx hb dX1_firstLifted_53 rfl (lv_at hl 2 rfl) ?_
              refine lv_istore_n (lv' := [(1, .int x2), (0, .ref (q 0)), (2, .int x2)]) hx hb dX1_firstLifted_54 rfl hl (by decide) rfl (fun ls hl => ?_)
              refine lv_iinc (v := (x2 + (1 : Int32))) (lv' := [(2, .int (x2 + (1 : Int32))), (1, .int x2), (0, .ref (q 0))]) hx hb dX1_firstLifted_55 hl (k := 2) rfl rfl (by decide) rfl (fun ls hl => ?_)
              refine lv_goto (tgt := 5) hx hb dX1_firstLifted_58 (by decide) ?_
              exact ih _ _ hf H locs ls hP hS (lv_sub hl [2, 1, 0] rfl)
set_option maxRecDepth 100000 in
set_option maxHeartbeats 4000000 in
theorem w_X1_firstLifted_0 {p : Program} {l : Launch} {e : Env} {s : State} {m : MethodId} {args : Array Value} {below : List Frame} {meth : Method} {c : Code} {Q : State → Prop} {D : va_G} {cI cN : ClassId} {q : Nat → Nat} (S : CallFix p m c cX1_firstLifted 3 s args wsX1_firstLifted RX1) (hK : KN D cI cN s) {n : OS} {r0 : Int32} (hret : ∀ (H : Heap) (locs : List Loc) (ls : Array Slot) (pc : Nat), decode cX1_firstLifted pc = .ok (.ireturn, 1) → narrow .int (.int r0) = .int r0 → va_S (nwA s.heap.size) s.heap H locs → W p l e (headSpec wsX1_firstLifted rm_X1_firstLifted).room s m args below meth c H locs 0 0 Q (F0 m pc ls [.int r0])) (hf : fX1_firstLifted n = some r0) (H : Heap) (locs : List Loc) (ls : Array Slot) (hP : va_P D vwCl (nwW cI q n) H) (hS : va_S (nwA s.heap.size) s.heap H locs) (hl : lv_has ls 3 [(0, .ref (q 0))]) : W p l e (headSpec wsX1_firstLifted rm_X1_firstLifted).room s m args below meth c H locs 0 0 Q (F0 m 0 ls []) := by
  obtain ⟨hx, hb, hml, hown, hts⟩ := id S
  have inX1 := in_X1_firstLifted_X1
  have hA : ∀ q : Nat, s.heap.size ≤ q → nwA s.heap.size q := fun _ h => h
  unfold fX1_firstLifted at hf
  refine lv_bipush (v := (-6 : Int32)) hx hb dX1_firstLifted_0 kc_bipush_m6 ?_
  refine lv_istore_n (lv' := [(1, .int (-6 : Int32)), (0, .ref (q 0))]) hx hb dX1_firstLifted_2 rfl hl (by decide) rfl (fun ls hl => ?_)
  refine lv_iconst (v := (0 : Int32)) hx hb dX1_firstLifted_3 kc_iconst_0 ?_
  refine lv_istore_n (lv' := [(2, .int (0 : Int32)), (1, .int (-6 : Int32)), (0, .ref (q 0))]) hx hb dX1_firstLifted_4 rfl hl (by decide) rfl (fun ls hl => ?_)
  exact w_X1_firstLifted_5 S hK hret _ _ _ hf H locs ls hP hS (lv_sub hl [2, 1, 0] rfl)
set_option maxRecDepth 100000 in
theorem c_X1_firstLifted (l : Launch) (D : va_G) (cI cN : ClassId) (q : Nat → Nat) (sz : Nat) (n : OS) (r0 : Int32) (hf : fX1_firstLifted n = some r0) : CtP l D cI cN yX1_firstLifted wsX1_firstLifted rm_X1_firstLifted [.ref (q 0)] (nwW cI q n) sz r0 := by
  refine mP (cc := cX1_firstLifted) (maxL := 3) (ty := .int) (by decide) rfl rfl (Nat.le_of_ble_eq_true rfl) ?_
  intro p e s m args below meth c Q S hK hP hS hret ls hl
  exact w_X1_firstLifted_0 S hK hret hf _ _ _ hP hS (lv_sub (show lv_has ls 3 [(0, .ref (q 0))] from hl) [0] rfl)
abbrev rm_X1_addCall : Room := { frames := 1, cells := 0, slots := 0, locals := 22 }
theorem in_X1_addCall_X1 : ∀ w ∈ u_ws RX1 TX1 16, w ∈ wsX1_addCall := fun w h => List.mem_cons_of_mem _ (List.mem_append_left _ (List.mem_append_right _ h))
set_option maxRecDepth 100000 in
set_option maxHeartbeats 4000000 in
theorem w_X1_addCall_0 {p : Program} {l : Launch} {e : Env} {s : State} {m : MethodId} {args : Array Value} {below : List Frame} {meth : Method} {c : Code} {Q : State → Prop} {D : va_G} {cI cN : ClassId} {A : Nat → Prop} {q : Nat → Nat} (S : CallFix p m c cX1_addCall 3 s args wsX1_addCall RX1) (hK : KN D cI cN s) (hA : ∀ q : Nat, s.heap.size ≤ q → A q) {n : OS} {x1 : Int32} {x2 : Int32} {n' : OS} (hret : ∀ (H : Heap) (locs : List Loc) (ls : Array Slot) (pc : Nat), decode cX1_addCall pc = .ok (.return_, 1) → va_P D vwCl (nwW cI q n') H → va_D A (nwW cI q n') → va_S A s.heap H locs → W p l e (headSpec wsX1_addCall rm_X1_addCall).room s m args below meth c H locs 0 0 Q (F0 m pc ls [])) (hf : fX1_addCall n x1 x2 = n') (H : Heap) (locs : List Loc) (ls : Array Slot) (hP : va_P D vwCl (nwW cI q n) H) (hD : va_D A (nwW cI q n)) (hS : va_S A s.heap H locs) (hl : lv_has ls 3 [(0, .ref (q 0)), (1, .int x1), (2, .int x2)]) : W p l e (headSpec wsX1_addCall rm_X1_addCall).room s m args below meth c H locs 0 0 Q (F0 m 0 ls []) := by
  obtain ⟨hx, hb, hml, hown, hts⟩ := id S
  have inX1 := in_X1_addCall_X1
  unfold fX1_addCall at hf
  refine lv_aload_n hx hb dX1_addCall_0 rfl (lv_at hl 0 rfl) ?_
  refine va_get (D := D) (ci := 1) (v := .ref (q 1)) (C := RX1) (T := TX1) (N := 16) hx hb hts inX1 hown hK.1 hP 0 rfl rfl 10 (by decide) (hts (.fieldLink RX1 29 "ClosExchange$Network" "numbers" "LClosExchange$Row;") (List.mem_of_getElem? (i := 1) rfl)) (fun _ h9 => h9) rfl dX1_addCall_1 ?_
  refine lv_iload_n hx hb dX1_addCall_4 rfl (lv_at hl 1 rfl) ?_
  refine lv_aload_n hx hb dX1_addCall_5 rfl (lv_at hl 0 rfl) ?_
  refine va_get (D := D) (ci := 1) (v := .int (n.1 6)) (C := RX1) (T := TX1) (N := 16) hx hb hts inX1 hown hK.1 hP 0 rfl rfl 6 (by decide) (hts (.fieldLink RX1 54 "ClosExchange$Network" "connected" "I") (List.mem_of_getElem? (i := 2) rfl)) (fun _ h9 => h9) rfl dX1_addCall_6 ?_
  obtain ⟨w1, hw1, hf⟩ := it_j hf
  refine cRv (As := [.int x1, .int (n.1 6)]) (rest := []) (i0 := 1) (i1 := 7) (wf := (nwW cI q (setR n 0 w1))) S (c_X4_set l D cI cN (q 1) (q 7) 48 (Nat.le_of_ble_eq_true rfl) _ (n.2 0) x1 (n.1 6) w1 hw1) (cwV 2 hts gX1_addCall_X4_set rfl rfl rfl (by decide +kernel) ⟨Nat.le_of_ble_eq_true rfl, Nat.le_of_ble_eq_true rfl⟩) hK hP hD hS hA rfl rfl (by decide) rfl rfl hl.1 rfl (Nat.le_of_ble_eq_true rfl) dX1_addCall_9 ⟨Nat.zero_le _, Nat.zero_le _⟩ (fun H locs hP hD hS => ?_)
  refine lv_aload_n hx hb dX1_addCall_12 rfl (lv_at hl 0 rfl) ?_
  refine va_get (D := D) (ci := 1) (v := .ref (q 2)) (C := RX1) (T := TX1) (N := 16) hx hb hts inX1 hown hK.1 hP 0 rfl rfl 11 (by decide) (hts (.fieldLink RX1 33 "ClosExchange$Network" "outlets" "LClosExchange$Row;") (List.mem_of_getElem? (i := 3) rfl)) (fun _ h9 => h9) rfl dX1_addCall_13 ?_
  refine lv_iload_n hx hb dX1_addCall_16 rfl (lv_at hl 1 rfl) ?_
  refine lv_iload_n hx hb dX1_addCall_17 rfl (lv_at hl 2 rfl) ?_
  obtain ⟨w2, hw2, hf⟩ := it_j hf
  refine cRv (As := [.int x1, .int x2]) (rest := []) (i0 := 2) (i1 := 8) (wf := (nwW cI q (setR (setR n 0 w1) 1 w2))) S (c_X4_set l D cI cN (q 2) (q 8) 48 (Nat.le_of_ble_eq_true rfl) _ (n.2 1) x1 x2 w2 hw2) (cwV 2 hts gX1_addCall_X4_set rfl rfl rfl (by decide +kernel) ⟨Nat.le_of_ble_eq_true rfl, Nat.le_of_ble_eq_true rfl⟩) hK hP hD hS hA rfl rfl (by decide) rfl rfl hl.1 rfl (Nat.le_of_ble_eq_true rfl) dX1_addCall_18 ⟨Nat.zero_le _, Nat.zero_le _⟩ (fun H locs hP hD hS => ?_)
  refine lv_aload_n hx hb dX1_addCall_21 rfl (lv_at hl 0 rfl) ?_
  refine va_get (D := D) (ci := 1) (v := .ref (q 4)) (C := RX1) (T := TX1) (N := 16) hx hb hts inX1 hown hK.1 hP 0 rfl rfl 13 (by decide) (hts (.fieldLink RX1 39 "ClosExchange$Network" "inlets" "LClosExchange$Row;") (List.mem_of_getElem? (i := 4) rfl)) (fun _ h9 => h9) rfl dX1_addCall_22 ?_
  refine lv_iload_n hx hb dX1_addCall_25 rfl (lv_at hl 2 rfl) ?_
  refine lv_iload_n hx hb dX1_addCall_26 rfl (lv_at hl 1 rfl) ?_
  obtain ⟨w3, hw3, hf⟩ := it_j hf
  refine cRv (As := [.int x2, .int x1]) (rest := []) (i0 := 4) (i1 := 10) (wf := (nwW cI q (setR (setR (setR n 0 w1) 1 w2) 3 w3))) S (c_X4_set l D cI cN (q 4) (q 10) 48 (Nat.le_of_ble_eq_true rfl) _ (n.2 3) x2 x1 w3 hw3) (cwV 2 hts gX1_addCall_X4_set rfl rfl rfl (by decide +kernel) ⟨Nat.le_of_ble_eq_true rfl, Nat.le_of_ble_eq_true rfl⟩) hK hP hD hS hA rfl rfl (by decide) rfl rfl hl.1 rfl (Nat.le_of_ble_eq_true rfl) dX1_addCall_27 ⟨Nat.zero_le _, Nat.zero_le _⟩ (fun H locs hP hD hS => ?_)
  refine lv_aload_n hx hb dX1_addCall_30 rfl (lv_at hl 0 rfl) ?_
  refine lv_dup hx hb dX1_addCall_31 rfl ?_
  refine va_get (D := D) (ci := 1) (v := .int (n.1 6)) (C := RX1) (T := TX1) (N := 16) hx hb hts inX1 hown hK.1 hP 0 rfl rfl 6 (by decide) (hts (.fieldLink RX1 54 "ClosExchange$Network" "connected" "I") (List.mem_of_getElem? (i := 2) rfl)) (fun _ h9 => h9) rfl dX1_addCall_32 ?_
  refine lv_iconst (v := (1 : Int32)) hx hb dX1_addCall_35 kc_iconst_1 ?_
  refine lv_iadd hx hb dX1_addCall_36 ?_
  obtain ⟨w4, hw4, hf⟩ := it_j hf
  rw [hw4]
  refine gput (D := D) (ci := 1) (v := .int w4) (ty := .int) (C := RX1) (T := TX1) (N := 16) (wf := (nwW cI q (setF (setR (setR (setR n 0 w1) 1 w2) 3 w3) 6 w4))) hx hb hts inX1 tyX1 tyX1_ok nmX1 hown hK.1 hP hD hS 0 rfl rfl 6 (by decide) (hts (.fieldLink RX1 54 "ClosExchange$Network" "connected" "I") (List.mem_of_getElem? (i := 2) rfl)) (fun _ h9 => h9) rfl (by decide +kernel) rfl rfl (Nat.le_of_ble_eq_true rfl) dX1_addCall_37 rfl (fun H locs hP hD hS => ?_)
  have e0 : (setF (setR (setR (setR n 0 w1) 1 w2) 3 w3) 6 w4) = n' := hf
  subst e0
  exact hret H locs ls _ dX1_addCall_40 hP hD hS
set_option maxRecDepth 100000 in
theorem c_X1_addCall (l : Launch) (D : va_G) (cI cN : ClassId) (q : Nat → Nat) (sz : Nat) (n : OS) (x1 : Int32) (x2 : Int32) (n' : OS) (hf : fX1_addCall n x1 x2 = n') : CtV l D cI cN yX1_addCall wsX1_addCall rm_X1_addCall 0 0 [.ref (q 0), .int x1, .int x2] (nwW cI q n) sz (nwW cI q n') := by
  refine mV (cc := cX1_addCall) (maxL := 3) (by decide) rfl (Nat.le_of_ble_eq_true rfl) ?_
  intro p e s m args below meth c Q A S _ hK hP hD hS hA hret ls hl
  exact w_X1_addCall_0 S hK hA hret hf _ _ _ hP hD hS (lv_sub (show lv_has ls 3 [(0, .ref (q 0)), (1, .int x1), (2, .int x2)] from hl) [0, 1, 2] rfl)
abbrev rm_X1_liftCall : Room := { frames := 1, cells := 0, slots := 0, locals := 22 }
theorem in_X1_liftCall_X1 : ∀ w ∈ u_ws RX1 TX1 16, w ∈ wsX1_liftCall := fun w h => List.mem_cons_of_mem _ (List.mem_append_left _ (List.mem_append_right _ h))
set_option maxRecDepth 100000 in
set_option maxHeartbeats 4000000 in
theorem w_X1_liftCall_0 {p : Program} {l : Launch} {e : Env} {s : State} {m : MethodId} {args : Array Value} {below : List Frame} {meth : Method} {c : Code} {Q : State → Prop} {D : va_G} {cI cN : ClassId} {A : Nat → Prop} {q : Nat → Nat} (S : CallFix p m c cX1_liftCall 3 s args wsX1_liftCall RX1) (hK : KN D cI cN s) (hA : ∀ q : Nat, s.heap.size ≤ q → A q) {n : OS} {x1 : Int32} {n' : OS} (hret : ∀ (H : Heap) (locs : List Loc) (ls : Array Slot) (pc : Nat), decode cX1_liftCall pc = .ok (.return_, 1) → va_P D vwCl (nwW cI q n') H → va_D A (nwW cI q n') → va_S A s.heap H locs → W p l e (headSpec wsX1_liftCall rm_X1_liftCall).room s m args below meth c H locs 0 0 Q (F0 m pc ls [])) (hf : fX1_liftCall n x1 = n') (H : Heap) (locs : List Loc) (ls : Array Slot) (hP : va_P D vwCl (nwW cI q n) H) (hD : va_D A (nwW cI q n)) (hS : va_S A s.heap H locs) (hl : lv_has ls 3 [(0, .ref (q 0)), (1, .int x1)]) : W p l e (headSpec wsX1_liftCall rm_X1_liftCall).room s m args below meth c H locs 0 0 Q (F0 m 0 ls []) := by
  obtain ⟨hx, hb, hml, hown, hts⟩ := id S
  have inX1 := in_X1_liftCall_X1
  unfold fX1_liftCall at hf
  refine lv_aload_n hx hb dX1_liftCall_0 rfl (lv_at hl 0 rfl) ?_
  refine va_get (D := D) (ci := 1) (v := .ref (q 3)) (C := RX1) (T := TX1) (N := 16) hx hb hts inX1 hown hK.1 hP 0 rfl rfl 12 (by decide) (hts (.fieldLink RX1 36 "ClosExchange$Network" "vias" "LClosExchange$Row;") (List.mem_of_getElem? (i := 1) rfl)) (fun _ h9 => h9) rfl dX1_liftCall_1 ?_
  refine lv_iload_n hx hb dX1_liftCall_4 rfl (lv_at hl 1 rfl) ?_
  refine cQi (As := [.int x1]) (rest := []) (q0 := 3) (ci := 4) S (c_X4_get l D cI cN (q 3) (q 9) 48 (Nat.le_of_ble_eq_true rfl) _ (n.2 2) x1) (cwV 1 hts gX1_liftCall_X4_get rfl rfl rfl (by decide +kernel) ⟨Nat.le_of_ble_eq_true rfl, Nat.le_of_ble_eq_true rfl⟩) hK hP hS hA (P_two (i0 := 3) (i1 := 9) hP rfl rfl) rfl rfl rfl hl.1 rfl (Nat.le_of_ble_eq_true rfl) dX1_liftCall_5 ⟨Nat.zero_le _, Nat.zero_le _⟩ (fun H locs hP hS => ?_)
  refine lv_istore_n (lv' := [(2, .int (rget (n.2 2) 48 x1)), (0, .ref (q 0)), (1, .int x1)]) hx hb dX1_liftCall_8 rfl hl (by decide) rfl (fun ls hl => ?_)
  refine lv_iload_n hx hb dX1_liftCall_9 rfl (lv_at hl 0 rfl) ?_
  refine lv_if_lt (tgt := 66) hx hb dX1_liftCall_10 (by decide) (fun c1 => ?_) (fun c1 => ?_)
  · have hf := it_t hf c1
    have e0 : n = n' := hf
    subst e0
    exact hret H locs ls _ dX1_liftCall_66 hP hD hS
  · have hf := it_f hf c1
    refine lv_aload_n hx hb dX1_liftCall_13 rfl (lv_at hl 1 rfl) ?_
    refine va_get (D := D) (ci := 1) (v := .ref (q 5)) (C := RX1) (T := TX1) (N := 16) hx hb hts inX1 hown hK.1 hP 0 rfl rfl 14 (by decide) (hts (.fieldLink RX1 42 "ClosExchange$Network" "firstLinks" "LClosExchange$Row;") (List.mem_of_getElem? (i := 2) rfl)) (fun _ h9 => h9) rfl dX1_liftCall_14 ?_
    refine lv_aload_n hx hb dX1_liftCall_17 rfl (lv_at hl 1 rfl) ?_
    refine lv_iload_n hx hb dX1_liftCall_18 rfl (lv_at hl 2 rfl) ?_
    refine cQi (As := [.int x1]) (rest := [.ref (q 5)]) (q0 := 0) (ci := 1) S (c_X1_boardOf l D cI cN q _ n x1 (fX1_boardOf n x1) rfl) (cwV 1 hts gX1_liftCall_X1_boardOf rfl rfl rfl (by decide +kernel) ⟨Nat.le_of_ble_eq_true rfl, Nat.le_of_ble_eq_true rfl⟩) hK hP hS hA hP rfl rfl rfl hl.1 rfl (Nat.le_of_ble_eq_true rfl) dX1_liftCall_19 ⟨Nat.zero_le _, Nat.zero_le _⟩ (fun H locs hP hS => ?_)
    refine lv_iload_n hx hb dX1_liftCall_22 rfl (lv_at hl 0 rfl) ?_
    refine cNi (As := [.int (fX1_boardOf n x1), .int (rget (n.2 2) 48 x1)]) (rest := [.ref (q 5)]) S (c_X5_link l D cI cN _ (fX1_boardOf n x1) (rget (n.2 2) 48 x1) (fX5_link (fX1_boardOf n x1) (rget (n.2 2) 48 x1)) rfl) ⟨va_cnB 2 hts gX1_liftCall_X5_link_n81 rfl rfl rfl hK.2.1 (hts (.initialized RX5) (List.mem_of_getElem? (i := 18) rfl)) (by decide +kernel) ⟨Nat.le_of_ble_eq_true rfl, Nat.le_of_ble_eq_true rfl⟩, (hts (.static yX5_link) (List.mem_of_getElem? (i := 17) rfl)), trivial⟩ hK hP hS hA [] rfl rfl hl.1 rfl (Nat.le_of_ble_eq_true rfl) dX1_liftCall_23 ⟨Nat.zero_le _, Nat.zero_le _⟩ (fun H locs hP hS => ?_)
    refine lv_bipush (v := (-6 : Int32)) hx hb dX1_liftCall_26 kc_bipush_m6 ?_
    obtain ⟨w2, hw2, hf⟩ := it_j hf
    refine cRv (As := [.int (fX5_link (fX1_boardOf n x1) (rget (n.2 2) 48 x1)), .int (-6 : Int32)]) (rest := []) (i0 := 5) (i1 := 11) (wf := (nwW cI q (setR n 4 w2))) S (c_X4_set l D cI cN (q 5) (q 11) 64 (Nat.le_of_ble_eq_true rfl) _ (n.2 4) (fX5_link (fX1_boardOf n x1) (rget (n.2 2) 48 x1)) (-6 : Int32) w2 hw2) (cwV 2 hts gX1_liftCall_X4_set rfl rfl rfl (by decide +kernel) ⟨Nat.le_of_ble_eq_true rfl, Nat.le_of_ble_eq_true rfl⟩) hK hP hD hS hA rfl rfl (by decide) rfl rfl hl.1 rfl (Nat.le_of_ble_eq_true rfl) dX1_liftCall_28 ⟨Nat.zero_le _, Nat.zero_le _⟩ (fun H locs hP hD hS => ?_)
    refine lv_aload_n hx hb dX1_liftCall_31 rfl (lv_at hl 1 rfl) ?_
    refine va_get (D := D) (ci := 1) (v := .ref (q 6)) (C := RX1) (T := TX1) (N := 16) hx hb hts inX1 hown hK.1 hP 0 rfl rfl 15 (by decide) (hts (.fieldLink RX1 45 "ClosExchange$Network" "lastLinks" "LClosExchange$Row;") (List.mem_of_getElem? (i := 3) rfl)) (fun _ h9 => h9) rfl dX1_liftCall_32 ?_
    refine lv_aload_n hx hb dX1_liftCall_35 rfl (lv_at hl 1 rfl) ?_
    refine lv_aload_n hx hb dX1_liftCall_36 rfl (lv_at hl 1 rfl) ?_
    refine va_get (D := D) (ci := 1) (v := .ref (q 2)) (C := RX1) (T := TX1) (N := 16) hx hb hts inX1 hown hK.1 hP 0 rfl rfl 11 (by decide) (hts (.fieldLink RX1 33 "ClosExchange$Network" "outlets" "LClosExchange$Row;") (List.mem_of_getElem? (i := 4) rfl)) (fun _ h9 => h9) rfl dX1_liftCall_37 ?_
    refine lv_iload_n hx hb dX1_liftCall_40 rfl (lv_at hl 2 rfl) ?_
    refine cQi (As := [.int x1]) (rest := [.ref (q 0), .ref (q 6)]) (q0 := 2) (ci := 4) S (c_X4_get l D cI cN (q 2) (q 8) 48 (Nat.le_of_ble_eq_true rfl) _ (n.2 1) x1) (cwV 1 hts gX1_liftCall_X4_get rfl rfl rfl (by decide +kernel) ⟨Nat.le_of_ble_eq_true rfl, Nat.le_of_ble_eq_true rfl⟩) hK hP hS hA (P_two (i0 := 2) (i1 := 8) hP rfl rfl) rfl rfl rfl hl.1 rfl (Nat.le_of_ble_eq_true rfl) dX1_liftCall_41 ⟨Nat.zero_le _, Nat.zero_le _⟩ (fun H locs hP hS => ?_)
    refine cQi (As := [.int (rget (n.2 1) 48 x1)]) (rest := [.ref (q 6)]) (q0 := 0) (ci := 1) S (c_X1_boardOf l D cI cN q _ (setR n 4 w2) (rget (n.2 1) 48 x1) (fX1_boardOf (setR n 4 w2) (rget (n.2 1) 48 x1)) rfl) (cwV 1 hts gX1_liftCall_X1_boardOf rfl rfl rfl (by decide +kernel) ⟨Nat.le_of_ble_eq_true rfl, Nat.le_of_ble_eq_true rfl⟩) hK hP hS hA hP rfl rfl rfl hl.1 rfl (Nat.le_of_ble_eq_true rfl) dX1_liftCall_44 ⟨Nat.zero_le _, Nat.zero_le _⟩ (fun H locs hP hS => ?_)
    refine lv_iload_n hx hb dX1_liftCall_47 rfl (lv_at hl 0 rfl) ?_
    refine cNi (As := [.int (fX1_boardOf (setR n 4 w2) (rget (n.2 1) 48 x1)), .int (rget (n.2 2) 48 x1)]) (rest := [.ref (q 6)]) S (c_X5_link l D cI cN _ (fX1_boardOf (setR n 4 w2) (rget (n.2 1) 48 x1)) (rget (n.2 2) 48 x1) (fX5_link (fX1_boardOf (setR n 4 w2) (rget (n.2 1) 48 x1)) (rget (n.2 2) 48 x1)) rfl) ⟨va_cnB 2 hts gX1_liftCall_X5_link_n81 rfl rfl rfl hK.2.1 (hts (.initialized RX5) (List.mem_of_getElem? (i := 18) rfl)) (by decide +kernel) ⟨Nat.le_of_ble_eq_true rfl, Nat.le_of_ble_eq_true rfl⟩, (hts (.static yX5_link) (List.mem_of_getElem? (i := 17) rfl)), trivial⟩ hK hP hS hA [] rfl rfl hl.1 rfl (Nat.le_of_ble_eq_true rfl) dX1_liftCall_48 ⟨Nat.zero_le _, Nat.zero_le _⟩ (fun H locs hP hS => ?_)
    refine lv_bipush (v := (-6 : Int32)) hx hb dX1_liftCall_51 kc_bipush_m6 ?_
    obtain ⟨w3, hw3, hf⟩ := it_j hf
    refine cRv (As := [.int (fX5_link (fX1_boardOf (setR n 4 w2) (rget (n.2 1) 48 x1)) (rget (n.2 2) 48 x1)), .int (-6 : Int32)]) (rest := []) (i0 := 6) (i1 := 12) (wf := (nwW cI q (setR (setR n 4 w2) 5 w3))) S (c_X4_set l D cI cN (q 6) (q 12) 64 (Nat.le_of_ble_eq_true rfl) _ (n.2 5) (fX5_link (fX1_boardOf (setR n 4 w2) (rget (n.2 1) 48 x1)) (rget (n.2 2) 48 x1)) (-6 : Int32) w3 hw3) (cwV 2 hts gX1_liftCall_X4_set rfl rfl rfl (by decide +kernel) ⟨Nat.le_of_ble_eq_true rfl, Nat.le_of_ble_eq_true rfl⟩) hK hP hD hS hA rfl rfl (by decide) rfl rfl hl.1 rfl (Nat.le_of_ble_eq_true rfl) dX1_liftCall_53 ⟨Nat.zero_le _, Nat.zero_le _⟩ (fun H locs hP hD hS => ?_)
    refine lv_aload_n hx hb dX1_liftCall_56 rfl (lv_at hl 1 rfl) ?_
    refine va_get (D := D) (ci := 1) (v := .ref (q 3)) (C := RX1) (T := TX1) (N := 16) hx hb hts inX1 hown hK.1 hP 0 rfl rfl 12 (by decide) (hts (.fieldLink RX1 36 "ClosExchange$Network" "vias" "LClosExchange$Row;") (List.mem_of_getElem? (i := 1) rfl)) (fun _ h9 => h9) rfl dX1_liftCall_57 ?_
    refine lv_iload_n hx hb dX1_liftCall_60 rfl (lv_at hl 2 rfl) ?_
    refine lv_bipush (v := (-6 : Int32)) hx hb dX1_liftCall_61 kc_bipush_m6 ?_
    obtain ⟨w4, hw4, hf⟩ := it_j hf
    refine cRv (As := [.int x1, .int (-6 : Int32)]) (rest := []) (i0 := 3) (i1 := 9) (wf := (nwW cI q (setR (setR (setR n 4 w2) 5 w3) 2 w4))) S (c_X4_set l D cI cN (q 3) (q 9) 48 (Nat.le_of_ble_eq_true rfl) _ (n.2 2) x1 (-6 : Int32) w4 hw4) (cwV 2 hts gX1_liftCall_X4_set rfl rfl rfl (by decide +kernel) ⟨Nat.le_of_ble_eq_true rfl, Nat.le_of_ble_eq_true rfl⟩) hK hP hD hS hA rfl rfl (by decide) rfl rfl hl.1 rfl (Nat.le_of_ble_eq_true rfl) dX1_liftCall_63 ⟨Nat.zero_le _, Nat.zero_le _⟩ (fun H locs hP hD hS => ?_)
    have e0 : (setR (setR (setR n 4 w2) 5 w3) 2 w4) = n' := hf
    subst e0
    exact hret H locs ls _ dX1_liftCall_66 hP hD hS
set_option maxRecDepth 100000 in
theorem c_X1_liftCall (l : Launch) (D : va_G) (cI cN : ClassId) (q : Nat → Nat) (sz : Nat) (n : OS) (x1 : Int32) (n' : OS) (hf : fX1_liftCall n x1 = n') : CtV l D cI cN yX1_liftCall wsX1_liftCall rm_X1_liftCall 0 0 [.ref (q 0), .int x1] (nwW cI q n) sz (nwW cI q n') := by
  refine mV (cc := cX1_liftCall) (maxL := 3) (by decide) rfl (Nat.le_of_ble_eq_true rfl) ?_
  intro p e s m args below meth c Q A S _ hK hP hD hS hA hret ls hl
  exact w_X1_liftCall_0 S hK hA hret hf _ _ _ hP hD hS (lv_sub (show lv_has ls 3 [(0, .ref (q 0)), (1, .int x1)] from hl) [0, 1] rfl)
abbrev rm_X1_removeCall : Room := { frames := 2, cells := 0, slots := 0, locals := 44 }
theorem in_X1_removeCall_X1 : ∀ w ∈ u_ws RX1 TX1 16, w ∈ wsX1_removeCall := fun w h => List.mem_cons_of_mem _ (List.mem_append_left _ (List.mem_append_right _ h))
set_option maxRecDepth 100000 in
set_option maxHeartbeats 4000000 in
theorem w_X1_removeCall_0 {p : Program} {l : Launch} {e : Env} {s : State} {m : MethodId} {args : Array Value} {below : List Frame} {meth : Method} {c : Code} {Q : State → Prop} {D : va_G} {cI cN : ClassId} {A : Nat → Prop} {q : Nat → Nat} (S : CallFix p m c cX1_removeCall 2 s args wsX1_removeCall RX1) (hK : KN D cI cN s) (hA : ∀ q : Nat, s.heap.size ≤ q → A q) {n : OS} {x1 : Int32} {n' : OS} (hret : ∀ (H : Heap) (locs : List Loc) (ls : Array Slot) (pc : Nat), decode cX1_removeCall pc = .ok (.return_, 1) → va_P D vwCl (nwW cI q n') H → va_D A (nwW cI q n') → va_S A s.heap H locs → W p l e (headSpec wsX1_removeCall rm_X1_removeCall).room s m args below meth c H locs 0 0 Q (F0 m pc ls [])) (hf : fX1_removeCall n x1 = n') (H : Heap) (locs : List Loc) (ls : Array Slot) (hP : va_P D vwCl (nwW cI q n) H) (hD : va_D A (nwW cI q n)) (hS : va_S A s.heap H locs) (hl : lv_has ls 2 [(0, .ref (q 0)), (1, .int x1)]) : W p l e (headSpec wsX1_removeCall rm_X1_removeCall).room s m args below meth c H locs 0 0 Q (F0 m 0 ls []) := by
  obtain ⟨hx, hb, hml, hown, hts⟩ := id S
  have inX1 := in_X1_removeCall_X1
  unfold fX1_removeCall at hf
  refine lv_aload_n hx hb dX1_removeCall_0 rfl (lv_at hl 0 rfl) ?_
  refine lv_iload_n hx hb dX1_removeCall_1 rfl (lv_at hl 1 rfl) ?_
  obtain ⟨v1, hv1, hf⟩ := it_j hf
  refine cBv (As := [.int x1]) (rest := []) (q0 := 0) (ci := 1) [(true, (nwW cI q n), (nwW cI q v1))] ⟨ad_net, (fun h => Bool.noConfusion h), trivial⟩ S (c_X1_liftCall l D cI cN q _ n x1 v1 hv1) (cwV 1 hts gX1_removeCall_X1_liftCall rfl rfl rfl (by decide +kernel) ⟨Nat.le_of_ble_eq_true rfl, Nat.le_of_ble_eq_true rfl⟩) hK hP hD hS hA rfl rfl rfl hl.1 rfl (Nat.le_of_ble_eq_true rfl) dX1_removeCall_2 ⟨Nat.zero_le _, Nat.zero_le _⟩ (fun H locs hP hD hS => ?_)
  refine lv_aload_n hx hb dX1_removeCall_5 rfl (lv_at hl 0 rfl) ?_
  refine va_get (D := D) (ci := 1) (v := .ref (q 4)) (C := RX1) (T := TX1) (N := 16) hx hb hts inX1 hown hK.1 hP 0 rfl rfl 13 (by decide) (hts (.fieldLink RX1 39 "ClosExchange$Network" "inlets" "LClosExchange$Row;") (List.mem_of_getElem? (i := 1) rfl)) (fun _ h9 => h9) rfl dX1_removeCall_6 ?_
  refine lv_aload_n hx hb dX1_removeCall_9 rfl (lv_at hl 0 rfl) ?_
  refine va_get (D := D) (ci := 1) (v := .ref (q 2)) (C := RX1) (T := TX1) (N := 16) hx hb hts inX1 hown hK.1 hP 0 rfl rfl 11 (by decide) (hts (.fieldLink RX1 33 "ClosExchange$Network" "outlets" "LClosExchange$Row;") (List.mem_of_getElem? (i := 2) rfl)) (fun _ h9 => h9) rfl dX1_removeCall_10 ?_
  refine lv_iload_n hx hb dX1_removeCall_13 rfl (lv_at hl 1 rfl) ?_
  refine cQi (As := [.int x1]) (rest := [.ref (q 4)]) (q0 := 2) (ci := 4) S (c_X4_get l D cI cN (q 2) (q 8) 48 (Nat.le_of_ble_eq_true rfl) _ (v1.2 1) x1) (cwV 1 hts gX1_removeCall_X4_get rfl rfl rfl (by decide +kernel) ⟨Nat.le_of_ble_eq_true rfl, Nat.le_of_ble_eq_true rfl⟩) hK hP hS hA (P_two (i0 := 2) (i1 := 8) hP rfl rfl) rfl rfl rfl hl.1 rfl (Nat.le_of_ble_eq_true rfl) dX1_removeCall_14 ⟨Nat.zero_le _, Nat.zero_le _⟩ (fun H locs hP hS => ?_)
  refine lv_bipush (v := (-6 : Int32)) hx hb dX1_removeCall_17 kc_bipush_m6 ?_
  obtain ⟨w2, hw2, hf⟩ := it_j hf
  refine cRv (As := [.int (rget (v1.2 1) 48 x1), .int (-6 : Int32)]) (rest := []) (i0 := 4) (i1 := 10) (wf := (nwW cI q (setR v1 3 w2))) S (c_X4_set l D cI cN (q 4) (q 10) 48 (Nat.le_of_ble_eq_true rfl) _ (v1.2 3) (rget (v1.2 1) 48 x1) (-6 : Int32) w2 hw2) (cwV 2 hts gX1_removeCall_X4_set rfl rfl rfl (by decide +kernel) ⟨Nat.le_of_ble_eq_true rfl, Nat.le_of_ble_eq_true rfl⟩) hK hP hD hS hA rfl rfl (by decide) rfl rfl hl.1 rfl (Nat.le_of_ble_eq_true rfl) dX1_removeCall_19 ⟨Nat.zero_le _, Nat.zero_le _⟩ (fun H locs hP hD hS => ?_)
  refine lv_aload_n hx hb dX1_removeCall_22 rfl (lv_at hl 0 rfl) ?_
  refine va_get (D := D) (ci := 1) (v := .ref (q 2)) (C := RX1) (T := TX1) (N := 16) hx hb hts inX1 hown hK.1 hP 0 rfl rfl 11 (by decide) (hts (.fieldLink RX1 33 "ClosExchange$Network" "outlets" "LClosExchange$Row;") (List.mem_of_getElem? (i := 2) rfl)) (fun _ h9 => h9) rfl dX1_removeCall_23 ?_
  refine lv_iload_n hx hb dX1_removeCall_26 rfl (lv_at hl 1 rfl) ?_
  refine lv_bipush (v := (-6 : Int32)) hx hb dX1_removeCall_27 kc_bipush_m6 ?_
  obtain ⟨w3, hw3, hf⟩ := it_j hf
  refine cRv (As := [.int x1, .int (-6 : Int32)]) (rest := []) (i0 := 2) (i1 := 8) (wf := (nwW cI q (setR (setR v1 3 w2) 1 w3))) S (c_X4_set l D cI cN (q 2) (q 8) 48 (Nat.le_of_ble_eq_true rfl) _ (v1.2 1) x1 (-6 : Int32) w3 hw3) (cwV 2 hts gX1_removeCall_X4_set rfl rfl rfl (by decide +kernel) ⟨Nat.le_of_ble_eq_true rfl, Nat.le_of_ble_eq_true rfl⟩) hK hP hD hS hA rfl rfl (by decide) rfl rfl hl.1 rfl (Nat.le_of_ble_eq_true rfl) dX1_removeCall_29 ⟨Nat.zero_le _, Nat.zero_le _⟩ (fun H locs hP hD hS => ?_)
  refine lv_aload_n hx hb dX1_removeCall_32 rfl (lv_at hl 0 rfl) ?_
  refine va_get (D := D) (ci := 1) (v := .ref (q 1)) (C := RX1) (T := TX1) (N := 16) hx hb hts inX1 hown hK.1 hP 0 rfl rfl 10 (by decide) (hts (.fieldLink RX1 29 "ClosExchange$Network" "numbers" "LClosExchange$Row;") (List.mem_of_getElem? (i := 3) rfl)) (fun _ h9 => h9) rfl dX1_removeCall_33 ?_
  refine lv_iload_n hx hb dX1_removeCall_36 rfl (lv_at hl 1 rfl) ?_
  refine lv_bipush (v := (-6 : Int32)) hx hb dX1_removeCall_37 kc_bipush_m6 ?_
  obtain ⟨w4, hw4, hf⟩ := it_j hf
  refine cRv (As := [.int x1, .int (-6 : Int32)]) (rest := []) (i0 := 1) (i1 := 7) (wf := (nwW cI q (setR (setR (setR v1 3 w2) 1 w3) 0 w4))) S (c_X4_set l D cI cN (q 1) (q 7) 48 (Nat.le_of_ble_eq_true rfl) _ (v1.2 0) x1 (-6 : Int32) w4 hw4) (cwV 2 hts gX1_removeCall_X4_set rfl rfl rfl (by decide +kernel) ⟨Nat.le_of_ble_eq_true rfl, Nat.le_of_ble_eq_true rfl⟩) hK hP hD hS hA rfl rfl (by decide) rfl rfl hl.1 rfl (Nat.le_of_ble_eq_true rfl) dX1_removeCall_39 ⟨Nat.zero_le _, Nat.zero_le _⟩ (fun H locs hP hD hS => ?_)
  have e0 : (setR (setR (setR v1 3 w2) 1 w3) 0 w4) = n' := hf
  subst e0
  exact hret H locs ls _ dX1_removeCall_42 hP hD hS
set_option maxRecDepth 100000 in
theorem c_X1_removeCall (l : Launch) (D : va_G) (cI cN : ClassId) (q : Nat → Nat) (sz : Nat) (n : OS) (x1 : Int32) (n' : OS) (hf : fX1_removeCall n x1 = n') : CtV l D cI cN yX1_removeCall wsX1_removeCall rm_X1_removeCall 0 0 [.ref (q 0), .int x1] (nwW cI q n) sz (nwW cI q n') := by
  refine mV (cc := cX1_removeCall) (maxL := 2) (by decide) rfl (Nat.le_of_ble_eq_true rfl) ?_
  intro p e s m args below meth c Q A S _ hK hP hD hS hA hret ls hl
  exact w_X1_removeCall_0 S hK hA hret hf _ _ _ hP hD hS (lv_sub (show lv_has ls 2 [(0, .ref (q 0)), (1, .int x1)] from hl) [0, 1] rfl)
abbrev rm_X1_carryCall : Room := { frames := 1, cells := 0, slots := 0, locals := 22 }
theorem in_X1_carryCall_X1 : ∀ w ∈ u_ws RX1 TX1 16, w ∈ wsX1_carryCall := fun w h => List.mem_cons_of_mem _ (List.mem_append_left _ (List.mem_append_right _ h))
set_option maxRecDepth 100000 in
set_option maxHeartbeats 4000000 in
theorem w_X1_carryCall_0 {p : Program} {l : Launch} {e : Env} {s : State} {m : MethodId} {args : Array Value} {below : List Frame} {meth : Method} {c : Code} {Q : State → Prop} {D : va_G} {cI cN : ClassId} {A : Nat → Prop} {q : Nat → Nat} (S : CallFix p m c cX1_carryCall 3 s args wsX1_carryCall RX1) (hK : KN D cI cN s) (hA : ∀ q : Nat, s.heap.size ≤ q → A q) {n : OS} {x1 : Int32} {x2 : Int32} {n' : OS} (hret : ∀ (H : Heap) (locs : List Loc) (ls : Array Slot) (pc : Nat), decode cX1_carryCall pc = .ok (.return_, 1) → va_P D vwCl (nwW cI q n') H → va_D A (nwW cI q n') → va_S A s.heap H locs → W p l e (headSpec wsX1_carryCall rm_X1_carryCall).room s m args below meth c H locs 0 0 Q (F0 m pc ls [])) (hf : fX1_carryCall n x1 x2 = n') (H : Heap) (locs : List Loc) (ls : Array Slot) (hP : va_P D vwCl (nwW cI q n) H) (hD : va_D A (nwW cI q n)) (hS : va_S A s.heap H locs) (hl : lv_has ls 3 [(0, .ref (q 0)), (1, .int x1), (2, .int x2)]) : W p l e (headSpec wsX1_carryCall rm_X1_carryCall).room s m args below meth c H locs 0 0 Q (F0 m 0 ls []) := by
  obtain ⟨hx, hb, hml, hown, hts⟩ := id S
  have inX1 := in_X1_carryCall_X1
  unfold fX1_carryCall at hf
  refine lv_aload_n hx hb dX1_carryCall_0 rfl (lv_at hl 0 rfl) ?_
  refine va_get (D := D) (ci := 1) (v := .ref (q 3)) (C := RX1) (T := TX1) (N := 16) hx hb hts inX1 hown hK.1 hP 0 rfl rfl 12 (by decide) (hts (.fieldLink RX1 36 "ClosExchange$Network" "vias" "LClosExchange$Row;") (List.mem_of_getElem? (i := 1) rfl)) (fun _ h9 => h9) rfl dX1_carryCall_1 ?_
  refine lv_iload_n hx hb dX1_carryCall_4 rfl (lv_at hl 1 rfl) ?_
  refine lv_iload_n hx hb dX1_carryCall_5 rfl (lv_at hl 2 rfl) ?_
  obtain ⟨w1, hw1, hf⟩ := it_j hf
  refine cRv (As := [.int x1, .int x2]) (rest := []) (i0 := 3) (i1 := 9) (wf := (nwW cI q (setR n 2 w1))) S (c_X4_set l D cI cN (q 3) (q 9) 48 (Nat.le_of_ble_eq_true rfl) _ (n.2 2) x1 x2 w1 hw1) (cwV 2 hts gX1_carryCall_X4_set rfl rfl rfl (by decide +kernel) ⟨Nat.le_of_ble_eq_true rfl, Nat.le_of_ble_eq_true rfl⟩) hK hP hD hS hA rfl rfl (by decide) rfl rfl hl.1 rfl (Nat.le_of_ble_eq_true rfl) dX1_carryCall_6 ⟨Nat.zero_le _, Nat.zero_le _⟩ (fun H locs hP hD hS => ?_)
  refine lv_aload_n hx hb dX1_carryCall_9 rfl (lv_at hl 0 rfl) ?_
  refine va_get (D := D) (ci := 1) (v := .ref (q 5)) (C := RX1) (T := TX1) (N := 16) hx hb hts inX1 hown hK.1 hP 0 rfl rfl 14 (by decide) (hts (.fieldLink RX1 42 "ClosExchange$Network" "firstLinks" "LClosExchange$Row;") (List.mem_of_getElem? (i := 2) rfl)) (fun _ h9 => h9) rfl dX1_carryCall_10 ?_
  refine lv_aload_n hx hb dX1_carryCall_13 rfl (lv_at hl 0 rfl) ?_
  refine lv_iload_n hx hb dX1_carryCall_14 rfl (lv_at hl 1 rfl) ?_
  refine cQi (As := [.int x1]) (rest := [.ref (q 5)]) (q0 := 0) (ci := 1) S (c_X1_boardOf l D cI cN q _ (setR n 2 w1) x1 (fX1_boardOf (setR n 2 w1) x1) rfl) (cwV 1 hts gX1_carryCall_X1_boardOf rfl rfl rfl (by decide +kernel) ⟨Nat.le_of_ble_eq_true rfl, Nat.le_of_ble_eq_true rfl⟩) hK hP hS hA hP rfl rfl rfl hl.1 rfl (Nat.le_of_ble_eq_true rfl) dX1_carryCall_15 ⟨Nat.zero_le _, Nat.zero_le _⟩ (fun H locs hP hS => ?_)
  refine lv_iload_n hx hb dX1_carryCall_18 rfl (lv_at hl 2 rfl) ?_
  refine cNi (As := [.int (fX1_boardOf (setR n 2 w1) x1), .int x2]) (rest := [.ref (q 5)]) S (c_X5_link l D cI cN _ (fX1_boardOf (setR n 2 w1) x1) x2 (fX5_link (fX1_boardOf (setR n 2 w1) x1) x2) rfl) ⟨va_cnB 2 hts gX1_carryCall_X5_link_n81 rfl rfl rfl hK.2.1 (hts (.initialized RX5) (List.mem_of_getElem? (i := 18) rfl)) (by decide +kernel) ⟨Nat.le_of_ble_eq_true rfl, Nat.le_of_ble_eq_true rfl⟩, (hts (.static yX5_link) (List.mem_of_getElem? (i := 17) rfl)), trivial⟩ hK hP hS hA [] rfl rfl hl.1 rfl (Nat.le_of_ble_eq_true rfl) dX1_carryCall_19 ⟨Nat.zero_le _, Nat.zero_le _⟩ (fun H locs hP hS => ?_)
  refine lv_iload_n hx hb dX1_carryCall_22 rfl (lv_at hl 1 rfl) ?_
  obtain ⟨w2, hw2, hf⟩ := it_j hf
  refine cRv (As := [.int (fX5_link (fX1_boardOf (setR n 2 w1) x1) x2), .int x1]) (rest := []) (i0 := 5) (i1 := 11) (wf := (nwW cI q (setR (setR n 2 w1) 4 w2))) S (c_X4_set l D cI cN (q 5) (q 11) 64 (Nat.le_of_ble_eq_true rfl) _ (n.2 4) (fX5_link (fX1_boardOf (setR n 2 w1) x1) x2) x1 w2 hw2) (cwV 2 hts gX1_carryCall_X4_set rfl rfl rfl (by decide +kernel) ⟨Nat.le_of_ble_eq_true rfl, Nat.le_of_ble_eq_true rfl⟩) hK hP hD hS hA rfl rfl (by decide) rfl rfl hl.1 rfl (Nat.le_of_ble_eq_true rfl) dX1_carryCall_23 ⟨Nat.zero_le _, Nat.zero_le _⟩ (fun H locs hP hD hS => ?_)
  refine lv_aload_n hx hb dX1_carryCall_26 rfl (lv_at hl 0 rfl) ?_
  refine va_get (D := D) (ci := 1) (v := .ref (q 6)) (C := RX1) (T := TX1) (N := 16) hx hb hts inX1 hown hK.1 hP 0 rfl rfl 15 (by decide) (hts (.fieldLink RX1 45 "ClosExchange$Network" "lastLinks" "LClosExchange$Row;") (List.mem_of_getElem? (i := 3) rfl)) (fun _ h9 => h9) rfl dX1_carryCall_27 ?_
  refine lv_aload_n hx hb dX1_carryCall_30 rfl (lv_at hl 0 rfl) ?_
  refine lv_aload_n hx hb dX1_carryCall_31 rfl (lv_at hl 0 rfl) ?_
  refine va_get (D := D) (ci := 1) (v := .ref (q 2)) (C := RX1) (T := TX1) (N := 16) hx hb hts inX1 hown hK.1 hP 0 rfl rfl 11 (by decide) (hts (.fieldLink RX1 33 "ClosExchange$Network" "outlets" "LClosExchange$Row;") (List.mem_of_getElem? (i := 4) rfl)) (fun _ h9 => h9) rfl dX1_carryCall_32 ?_
  refine lv_iload_n hx hb dX1_carryCall_35 rfl (lv_at hl 1 rfl) ?_
  refine cQi (As := [.int x1]) (rest := [.ref (q 0), .ref (q 6)]) (q0 := 2) (ci := 4) S (c_X4_get l D cI cN (q 2) (q 8) 48 (Nat.le_of_ble_eq_true rfl) _ (n.2 1) x1) (cwV 1 hts gX1_carryCall_X4_get rfl rfl rfl (by decide +kernel) ⟨Nat.le_of_ble_eq_true rfl, Nat.le_of_ble_eq_true rfl⟩) hK hP hS hA (P_two (i0 := 2) (i1 := 8) hP rfl rfl) rfl rfl rfl hl.1 rfl (Nat.le_of_ble_eq_true rfl) dX1_carryCall_36 ⟨Nat.zero_le _, Nat.zero_le _⟩ (fun H locs hP hS => ?_)
  refine cQi (As := [.int (rget (n.2 1) 48 x1)]) (rest := [.ref (q 6)]) (q0 := 0) (ci := 1) S (c_X1_boardOf l D cI cN q _ (setR (setR n 2 w1) 4 w2) (rget (n.2 1) 48 x1) (fX1_boardOf (setR (setR n 2 w1) 4 w2) (rget (n.2 1) 48 x1)) rfl) (cwV 1 hts gX1_carryCall_X1_boardOf rfl rfl rfl (by decide +kernel) ⟨Nat.le_of_ble_eq_true rfl, Nat.le_of_ble_eq_true rfl⟩) hK hP hS hA hP rfl rfl rfl hl.1 rfl (Nat.le_of_ble_eq_true rfl) dX1_carryCall_39 ⟨Nat.zero_le _, Nat.zero_le _⟩ (fun H locs hP hS => ?_)
  refine lv_iload_n hx hb dX1_carryCall_42 rfl (lv_at hl 2 rfl) ?_
  refine cNi (As := [.int (fX1_boardOf (setR (setR n 2 w1) 4 w2) (rget (n.2 1) 48 x1)), .int x2]) (rest := [.ref (q 6)]) S (c_X5_link l D cI cN _ (fX1_boardOf (setR (setR n 2 w1) 4 w2) (rget (n.2 1) 48 x1)) x2 (fX5_link (fX1_boardOf (setR (setR n 2 w1) 4 w2) (rget (n.2 1) 48 x1)) x2) rfl) ⟨va_cnB 2 hts gX1_carryCall_X5_link_n81 rfl rfl rfl hK.2.1 (hts (.initialized RX5) (List.mem_of_getElem? (i := 18) rfl)) (by decide +kernel) ⟨Nat.le_of_ble_eq_true rfl, Nat.le_of_ble_eq_true rfl⟩, (hts (.static yX5_link) (List.mem_of_getElem? (i := 17) rfl)), trivial⟩ hK hP hS hA [] rfl rfl hl.1 rfl (Nat.le_of_ble_eq_true rfl) dX1_carryCall_43 ⟨Nat.zero_le _, Nat.zero_le _⟩ (fun H locs hP hS => ?_)
  refine lv_iload_n hx hb dX1_carryCall_46 rfl (lv_at hl 1 rfl) ?_
  obtain ⟨w3, hw3, hf⟩ := it_j hf
  refine cRv (As := [.int (fX5_link (fX1_boardOf (setR (setR n 2 w1) 4 w2) (rget (n.2 1) 48 x1)) x2), .int x1]) (rest := []) (i0 := 6) (i1 := 12) (wf := (nwW cI q (setR (setR (setR n 2 w1) 4 w2) 5 w3))) S (c_X4_set l D cI cN (q 6) (q 12) 64 (Nat.le_of_ble_eq_true rfl) _ (n.2 5) (fX5_link (fX1_boardOf (setR (setR n 2 w1) 4 w2) (rget (n.2 1) 48 x1)) x2) x1 w3 hw3) (cwV 2 hts gX1_carryCall_X4_set rfl rfl rfl (by decide +kernel) ⟨Nat.le_of_ble_eq_true rfl, Nat.le_of_ble_eq_true rfl⟩) hK hP hD hS hA rfl rfl (by decide) rfl rfl hl.1 rfl (Nat.le_of_ble_eq_true rfl) dX1_carryCall_47 ⟨Nat.zero_le _, Nat.zero_le _⟩ (fun H locs hP hD hS => ?_)
  have e0 : (setR (setR (setR n 2 w1) 4 w2) 5 w3) = n' := hf
  subst e0
  exact hret H locs ls _ dX1_carryCall_50 hP hD hS
set_option maxRecDepth 100000 in
theorem c_X1_carryCall (l : Launch) (D : va_G) (cI cN : ClassId) (q : Nat → Nat) (sz : Nat) (n : OS) (x1 : Int32) (x2 : Int32) (n' : OS) (hf : fX1_carryCall n x1 x2 = n') : CtV l D cI cN yX1_carryCall wsX1_carryCall rm_X1_carryCall 0 0 [.ref (q 0), .int x1, .int x2] (nwW cI q n) sz (nwW cI q n') := by
  refine mV (cc := cX1_carryCall) (maxL := 3) (by decide) rfl (Nat.le_of_ble_eq_true rfl) ?_
  intro p e s m args below meth c Q A S _ hK hP hD hS hA hret ls hl
  exact w_X1_carryCall_0 S hK hA hret hf _ _ _ hP hD hS (lv_sub (show lv_has ls 3 [(0, .ref (q 0)), (1, .int x1), (2, .int x2)] from hl) [0, 1, 2] rfl)
abbrev rm_X1_freeOnLinks4 : Room := { frames := 1, cells := 0, slots := 0, locals := 21 }
theorem in_X1_freeOnLinks4_X1 : ∀ w ∈ u_ws RX1 TX1 16, w ∈ wsX1_freeOnLinks := fun w h => List.mem_cons_of_mem _ (List.mem_append_left _ (List.mem_append_right _ h))
set_option maxRecDepth 100000 in
set_option maxHeartbeats 4000000 in
theorem w_X1_freeOnLinks4_5 {p : Program} {l : Launch} {e : Env} {s : State} {m : MethodId} {args : Array Value} {below : List Frame} {meth : Method} {c : Code} {Q : State → Prop} {D : va_G} {cI cN : ClassId} {q : Nat → Nat} (S : CallFix p m c cX1_freeOnLinks 5 s args wsX1_freeOnLinks RX1) (hK : KN D cI cN s) {n : OS} {x2 : Int32} {r0 : Int32} (hret : ∀ (H : Heap) (locs : List Loc) (ls : Array Slot) (pc : Nat), decode cX1_freeOnLinks pc = .ok (.ireturn, 1) → narrow .int (.int r0) = .int r0 → va_S (nwA s.heap.size) s.heap H locs → W p l e (headSpec wsX1_freeOnLinks rm_X1_freeOnLinks4).room s m args below meth c H locs 0 0 Q (F0 m pc ls [.int r0])) : ∀ (k : Nat) (x3 : Int32) (x4 : Int32), fX1_freeOnLinks4_5 n x2 k x3 x4 = some r0 → ∀ (H : Heap) (locs : List Loc) (ls : Array Slot), va_P D vwCl (nwW cI q n) H → va_S (nwA s.heap.size) s.heap H locs → lv_has ls 5 [(0, .ref (q 0)), (1, .ref (q 5)), (2, .int x2), (3, .int x3), (4, .int x4)] → W p l e (headSpec wsX1_freeOnLinks rm_X1_freeOnLinks4).room s m args below meth c H locs 0 0 Q (F0 m 5 ls []) := by
  obtain ⟨hx, hb, hml, hown, hts⟩ := id S
  have inX1 := in_X1_freeOnLinks4_X1
  have hA : ∀ q : Nat, s.heap.size ≤ q → nwA s.heap.size q := fun _ h => h
  intro k
  induction k with
  | zero => intro x3 x4 hf; rw [fX1_freeOnLinks4_5_z] at hf; cases hf
  | succ k ih =>
    intro x3 x4 hf H locs ls hP hS hl
    rw [fX1_freeOnLinks4_5_s] at hf
    refine lv_iload hx hb dX1_freeOnLinks_5 (lv_at hl 4 rfl) ?_
    refine lv_aload_n hx hb dX1_freeOnLinks_7 rfl (lv_at hl 0 rfl) ?_
    refine va_get (D := D) (ci := 1) (v := .int (n.1 2)) (C := RX1) (T := TX1) (N := 16) hx hb hts inX1 hown hK.1 hP 0 rfl rfl 2 (by decide) (hts (.fieldLink RX1 18 "ClosExchange$Network" "middles" "I") (List.mem_of_getElem? (i := 1) rfl)) (fun _ h9 => h9) rfl dX1_freeOnLinks_8 ?_
    refine lv_icmp_ge (tgt := 40) hx hb dX1_freeOnLinks_11 (by decide) (fun c1 => ?_) (fun c1 => ?_)
    · have hf := it_t hf c1
      refine lv_iload_n hx hb dX1_freeOnLinks_40 rfl (lv_at hl 3 rfl) ?_
      refine lv_aload_n hx hb dX1_freeOnLinks_41 rfl (lv_at hl 0 rfl) ?_
      refine va_get (D := D) (ci := 1) (v := .int (n.1 3)) (C := RX1) (T := TX1) (N := 16) hx hb hts inX1 hown hK.1 hP 0 rfl rfl 3 (by decide) (hts (.fieldLink RX1 21 "ClosExchange$Network" "service" "I") (List.mem_of_getElem? (i := 2) rfl)) (fun _ h9 => h9) rfl dX1_freeOnLinks_42 ?_
      refine lv_iand hx hb dX1_freeOnLinks_45 ?_
      have e0 : (x3 &&& (n.1 3)) = r0 := (Option.some.inj hf)
      subst e0
      exact hret H locs ls _ dX1_freeOnLinks_46 rfl hS
    · have hf := it_f hf c1
      refine lv_aload_n hx hb dX1_freeOnLinks_14 rfl (lv_at hl 1 rfl) ?_
      refine lv_iload_n hx hb dX1_freeOnLinks_15 rfl (lv_at hl 2 rfl) ?_
      refine lv_iload hx hb dX1_freeOnLinks_16 (lv_at hl 4 rfl) ?_
      refine cNi (As := [.int x2, .int x4]) (rest := [.ref (q 5)]) S (c_X5_link l D cI cN _ x2 x4 (fX5_link x2 x4) rfl) ⟨va_cnB 2 hts gX1_freeOnLinks_X5_link_n81 rfl rfl rfl hK.2.1 (hts (.initialized RX5) (List.mem_of_getElem? (i := 4) rfl)) (by decide +kernel) ⟨Nat.le_of_ble_eq_true rfl, Nat.le_of_ble_eq_true rfl⟩, (hts (.static yX5_link) (List.mem_of_getElem? (i := 3) rfl)), trivial⟩ hK hP hS hA [] rfl rfl hl.1 rfl (Nat.le_of_ble_eq_true rfl) dX1_freeOnLinks_18 ⟨Nat.zero_le _, Nat.zero_le _⟩ (fun H locs hP hS => ?_)
      refine cQi (As := [.int (fX5_link x2 x4)]) (rest := []) (q0 := 5) (ci := 4) S (c_X4_get l D cI cN (q 5) (q 11) 64 (Nat.le_of_ble_eq_true rfl) _ (n.2 4) (fX5_link x2 x4)) (cwV 1 hts gX1_freeOnLinks_X4_get rfl rfl rfl (by decide +kernel) ⟨Nat.le_of_ble_eq_true rfl, Nat.le_of_ble_eq_true rfl⟩) hK hP hS hA (P_two (i0 := 5) (i1 := 11) hP rfl rfl) rfl rfl rfl hl.1 rfl (Nat.le_of_ble_eq_true rfl) dX1_freeOnLinks_21 ⟨Nat.zero_le _, Nat.zero_le _⟩ (fun H locs hP hS => ?_)
      refine lv_if_ge (tgt := 34) hx hb dX1_freeOnLinks_24 (by decide) (fun c2 => ?_) (fun c2 => ?_)
      · have hf := it_t hf c2
        refine lv_iinc (v := (x4 + (1 : Int32))) (lv' := [(4, .int (x4 + (1 : Int32))), (0, .ref (q 0)), (1, .ref (q 5)), (2, .int x2), (3, .int x3)]) hx hb dX1_freeOnLinks_34 hl (k := 4) rfl rfl (by decide) rfl (fun ls hl => ?_)
        refine lv_goto (tgt := 5) hx hb dX1_freeOnLinks_37 (by decide) ?_
        exact ih _ _ hf H locs ls hP hS (lv_sub hl [1, 2, 3, 4, 0] rfl)
      · have hf := it_f hf c2
        refine lv_iload_n hx hb dX1_freeOnLinks_27 rfl (lv_at hl 3 rfl) ?_
        refine lv_iconst (v := (1 : Int32)) hx hb dX1_freeOnLinks_28 kc_iconst_1 ?_
        refine lv_iload hx hb dX1_freeOnLinks_29 (lv_at hl 4 rfl) ?_
        refine lv_ishl hx hb dX1_freeOnLinks_31 ?_
        refine lv_ior hx hb dX1_freeOnLinks_32 ?_
        refine lv_istore_n (lv' := [(3, .int (x3 ||| ((1 : Int32) <<< (x4 &&& 31)))), (0, .ref (q 0)), (1, .ref (q 5)), (2, .int x2), (4, .int x4)]) hx hb dX1_freeOnLinks_33 rfl hl (by decide) rfl (fun ls hl => ?_)
        refine lv_iinc (v := (x4 + (1 : Int32))) (lv' := [(4, .int (x4 + (1 : Int32))), (3, .int (x3 ||| ((1 : Int32) <<< (x4 &&& 31)))), (0, .ref (q 0)), (1, .ref (q 5)), (2, .int x2)]) hx hb dX1_freeOnLinks_34 hl (k := 4) rfl rfl (by decide) rfl (fun ls hl => ?_)
        refine lv_goto (tgt := 5) hx hb dX1_freeOnLinks_37 (by decide) ?_
        exact ih _ _ hf H locs ls hP hS (lv_sub hl [2, 3, 4, 1, 0] rfl)
set_option maxRecDepth 100000 in
set_option maxHeartbeats 4000000 in
theorem w_X1_freeOnLinks4_0 {p : Program} {l : Launch} {e : Env} {s : State} {m : MethodId} {args : Array Value} {below : List Frame} {meth : Method} {c : Code} {Q : State → Prop} {D : va_G} {cI cN : ClassId} {q : Nat → Nat} (S : CallFix p m c cX1_freeOnLinks 5 s args wsX1_freeOnLinks RX1) (hK : KN D cI cN s) {n : OS} {x2 : Int32} {r0 : Int32} (hret : ∀ (H : Heap) (locs : List Loc) (ls : Array Slot) (pc : Nat), decode cX1_freeOnLinks pc = .ok (.ireturn, 1) → narrow .int (.int r0) = .int r0 → va_S (nwA s.heap.size) s.heap H locs → W p l e (headSpec wsX1_freeOnLinks rm_X1_freeOnLinks4).room s m args below meth c H locs 0 0 Q (F0 m pc ls [.int r0])) (hf : fX1_freeOnLinks4 n x2 = some r0) (H : Heap) (locs : List Loc) (ls : Array Slot) (hP : va_P D vwCl (nwW cI q n) H) (hS : va_S (nwA s.heap.size) s.heap H locs) (hl : lv_has ls 5 [(0, .ref (q 0)), (1, .ref (q 5)), (2, .int x2)]) : W p l e (headSpec wsX1_freeOnLinks rm_X1_freeOnLinks4).room s m args below meth c H locs 0 0 Q (F0 m 0 ls []) := by
  obtain ⟨hx, hb, hml, hown, hts⟩ := id S
  have inX1 := in_X1_freeOnLinks4_X1
  have hA : ∀ q : Nat, s.heap.size ≤ q → nwA s.heap.size q := fun _ h => h
  unfold fX1_freeOnLinks4 at hf
  refine lv_iconst (v := (0 : Int32)) hx hb dX1_freeOnLinks_0 kc_iconst_0 ?_
  refine lv_istore_n (lv' := [(3, .int (0 : Int32)), (0, .ref (q 0)), (1, .ref (q 5)), (2, .int x2)]) hx hb dX1_freeOnLinks_1 rfl hl (by decide) rfl (fun ls hl => ?_)
  refine lv_iconst (v := (0 : Int32)) hx hb dX1_freeOnLinks_2 kc_iconst_0 ?_
  refine lv_istore (lv' := [(4, .int (0 : Int32)), (3, .int (0 : Int32)), (0, .ref (q 0)), (1, .ref (q 5)), (2, .int x2)]) hx hb dX1_freeOnLinks_3 hl (by decide) rfl (fun ls hl => ?_)
  exact w_X1_freeOnLinks4_5 S hK hret _ _ _ hf H locs ls hP hS (lv_sub hl [2, 3, 4, 1, 0] rfl)
set_option maxRecDepth 100000 in
theorem c_X1_freeOnLinks4 (l : Launch) (D : va_G) (cI cN : ClassId) (q : Nat → Nat) (sz : Nat) (n : OS) (x2 : Int32) (r0 : Int32) (hf : fX1_freeOnLinks4 n x2 = some r0) : CtP l D cI cN yX1_freeOnLinks wsX1_freeOnLinks rm_X1_freeOnLinks4 [.ref (q 0), .ref (q 5), .int x2] (nwW cI q n) sz r0 := by
  refine mP (cc := cX1_freeOnLinks) (maxL := 5) (ty := .int) (by decide) rfl rfl (Nat.le_of_ble_eq_true rfl) ?_
  intro p e s m args below meth c Q S hK hP hS hret ls hl
  exact w_X1_freeOnLinks4_0 S hK hret hf _ _ _ hP hS (lv_sub (show lv_has ls 5 [(0, .ref (q 0)), (1, .ref (q 5)), (2, .int x2)] from hl) [0, 1, 2] rfl)
abbrev rm_X1_freeOnLinks5 : Room := { frames := 1, cells := 0, slots := 0, locals := 21 }
theorem in_X1_freeOnLinks5_X1 : ∀ w ∈ u_ws RX1 TX1 16, w ∈ wsX1_freeOnLinks := fun w h => List.mem_cons_of_mem _ (List.mem_append_left _ (List.mem_append_right _ h))
set_option maxRecDepth 100000 in
set_option maxHeartbeats 4000000 in
theorem w_X1_freeOnLinks5_5 {p : Program} {l : Launch} {e : Env} {s : State} {m : MethodId} {args : Array Value} {below : List Frame} {meth : Method} {c : Code} {Q : State → Prop} {D : va_G} {cI cN : ClassId} {q : Nat → Nat} (S : CallFix p m c cX1_freeOnLinks 5 s args wsX1_freeOnLinks RX1) (hK : KN D cI cN s) {n : OS} {x2 : Int32} {r0 : Int32} (hret : ∀ (H : Heap) (locs : List Loc) (ls : Array Slot) (pc : Nat), decode cX1_freeOnLinks pc = .ok (.ireturn, 1) → narrow .int (.int r0) = .int r0 → va_S (nwA s.heap.size) s.heap H locs → W p l e (headSpec wsX1_freeOnLinks rm_X1_freeOnLinks5).room s m args below meth c H locs 0 0 Q (F0 m pc ls [.int r0])) : ∀ (k : Nat) (x3 : Int32) (x4 : Int32), fX1_freeOnLinks5_5 n x2 k x3 x4 = some r0 → ∀ (H : Heap) (locs : List Loc) (ls : Array Slot), va_P D vwCl (nwW cI q n) H → va_S (nwA s.heap.size) s.heap H locs → lv_has ls 5 [(0, .ref (q 0)), (1, .ref (q 6)), (2, .int x2), (3, .int x3), (4, .int x4)] → W p l e (headSpec wsX1_freeOnLinks rm_X1_freeOnLinks5).room s m args below meth c H locs 0 0 Q (F0 m 5 ls []) := by
  obtain ⟨hx, hb, hml, hown, hts⟩ := id S
  have inX1 := in_X1_freeOnLinks5_X1
  have hA : ∀ q : Nat, s.heap.size ≤ q → nwA s.heap.size q := fun _ h => h
  intro k
  induction k with
  | zero => intro x3 x4 hf; rw [fX1_freeOnLinks5_5_z] at hf; cases hf
  | succ k ih =>
    intro x3 x4 hf H locs ls hP hS hl
    rw [fX1_freeOnLinks5_5_s] at hf
    refine lv_iload hx hb dX1_freeOnLinks_5 (lv_at hl 4 rfl) ?_
    refine lv_aload_n hx hb dX1_freeOnLinks_7 rfl (lv_at hl 0 rfl) ?_
    refine va_get (D := D) (ci := 1) (v := .int (n.1 2)) (C := RX1) (T := TX1) (N := 16) hx hb hts inX1 hown hK.1 hP 0 rfl rfl 2 (by decide) (hts (.fieldLink RX1 18 "ClosExchange$Network" "middles" "I") (List.mem_of_getElem? (i := 1) rfl)) (fun _ h9 => h9) rfl dX1_freeOnLinks_8 ?_
    refine lv_icmp_ge (tgt := 40) hx hb dX1_freeOnLinks_11 (by decide) (fun c1 => ?_) (fun c1 => ?_)
    · have hf := it_t hf c1
      refine lv_iload_n hx hb dX1_freeOnLinks_40 rfl (lv_at hl 3 rfl) ?_
      refine lv_aload_n hx hb dX1_freeOnLinks_41 rfl (lv_at hl 0 rfl) ?_
      refine va_get (D := D) (ci := 1) (v := .int (n.1 3)) (C := RX1) (T := TX1) (N := 16) hx hb hts inX1 hown hK.1 hP 0 rfl rfl 3 (by decide) (hts (.fieldLink RX1 21 "ClosExchange$Network" "service" "I") (List.mem_of_getElem? (i := 2) rfl)) (fun _ h9 => h9) rfl dX1_freeOnLinks_42 ?_
      refine lv_iand hx hb dX1_freeOnLinks_45 ?_
      have e0 : (x3 &&& (n.1 3)) = r0 := (Option.some.inj hf)
      subst e0
      exact hret H locs ls _ dX1_freeOnLinks_46 rfl hS
    · have hf := it_f hf c1
      refine lv_aload_n hx hb dX1_freeOnLinks_14 rfl (lv_at hl 1 rfl) ?_
      refine lv_iload_n hx hb dX1_freeOnLinks_15 rfl (lv_at hl 2 rfl) ?_
      refine lv_iload hx hb dX1_freeOnLinks_16 (lv_at hl 4 rfl) ?_
      refine cNi (As := [.int x2, .int x4]) (rest := [.ref (q 6)]) S (c_X5_link l D cI cN _ x2 x4 (fX5_link x2 x4) rfl) ⟨va_cnB 2 hts gX1_freeOnLinks_X5_link_n81 rfl rfl rfl hK.2.1 (hts (.initialized RX5) (List.mem_of_getElem? (i := 4) rfl)) (by decide +kernel) ⟨Nat.le_of_ble_eq_true rfl, Nat.le_of_ble_eq_true rfl⟩, (hts (.static yX5_link) (List.mem_of_getElem? (i := 3) rfl)), trivial⟩ hK hP hS hA [] rfl rfl hl.1 rfl (Nat.le_of_ble_eq_true rfl) dX1_freeOnLinks_18 ⟨Nat.zero_le _, Nat.zero_le _⟩ (fun H locs hP hS => ?_)
      refine cQi (As := [.int (fX5_link x2 x4)]) (rest := []) (q0 := 6) (ci := 4) S (c_X4_get l D cI cN (q 6) (q 12) 64 (Nat.le_of_ble_eq_true rfl) _ (n.2 5) (fX5_link x2 x4)) (cwV 1 hts gX1_freeOnLinks_X4_get rfl rfl rfl (by decide +kernel) ⟨Nat.le_of_ble_eq_true rfl, Nat.le_of_ble_eq_true rfl⟩) hK hP hS hA (P_two (i0 := 6) (i1 := 12) hP rfl rfl) rfl rfl rfl hl.1 rfl (Nat.le_of_ble_eq_true rfl) dX1_freeOnLinks_21 ⟨Nat.zero_le _, Nat.zero_le _⟩ (fun H locs hP hS => ?_)
      refine lv_if_ge (tgt := 34) hx hb dX1_freeOnLinks_24 (by decide) (fun c2 => ?_) (fun c2 => ?_)
      · have hf := it_t hf c2
        refine lv_iinc (v := (x4 + (1 : Int32))) (lv' := [(4, .int (x4 + (1 : Int32))), (0, .ref (q 0)), (1, .ref (q 6)), (2, .int x2), (3, .int x3)]) hx hb dX1_freeOnLinks_34 hl (k := 4) rfl rfl (by decide) rfl (fun ls hl => ?_)
        refine lv_goto (tgt := 5) hx hb dX1_freeOnLinks_37 (by decide) ?_
        exact ih _ _ hf H locs ls hP hS (lv_sub hl [1, 2, 3, 4, 0] rfl)
      · have hf := it_f hf c2
        refine lv_iload_n hx hb dX1_freeOnLinks_27 rfl (lv_at hl 3 rfl) ?_
        refine lv_iconst (v := (1 : Int32)) hx hb dX1_freeOnLinks_28 kc_iconst_1 ?_
        refine lv_iload hx hb dX1_freeOnLinks_29 (lv_at hl 4 rfl) ?_
        refine lv_ishl hx hb dX1_freeOnLinks_31 ?_
        refine lv_ior hx hb dX1_freeOnLinks_32 ?_
        refine lv_istore_n (lv' := [(3, .int (x3 ||| ((1 : Int32) <<< (x4 &&& 31)))), (0, .ref (q 0)), (1, .ref (q 6)), (2, .int x2), (4, .int x4)]) hx hb dX1_freeOnLinks_33 rfl hl (by decide) rfl (fun ls hl => ?_)
        refine lv_iinc (v := (x4 + (1 : Int32))) (lv' := [(4, .int (x4 + (1 : Int32))), (3, .int (x3 ||| ((1 : Int32) <<< (x4 &&& 31)))), (0, .ref (q 0)), (1, .ref (q 6)), (2, .int x2)]) hx hb dX1_freeOnLinks_34 hl (k := 4) rfl rfl (by decide) rfl (fun ls hl => ?_)
        refine lv_goto (tgt := 5) hx hb dX1_freeOnLinks_37 (by decide) ?_
        exact ih _ _ hf H locs ls hP hS (lv_sub hl [2, 3, 4, 1, 0] rfl)
set_option maxRecDepth 100000 in
set_option maxHeartbeats 4000000 in
theorem w_X1_freeOnLinks5_0 {p : Program} {l : Launch} {e : Env} {s : State} {m : MethodId} {args : Array Value} {below : List Frame} {meth : Method} {c : Code} {Q : State → Prop} {D : va_G} {cI cN : ClassId} {q : Nat → Nat} (S : CallFix p m c cX1_freeOnLinks 5 s args wsX1_freeOnLinks RX1) (hK : KN D cI cN s) {n : OS} {x2 : Int32} {r0 : Int32} (hret : ∀ (H : Heap) (locs : List Loc) (ls : Array Slot) (pc : Nat), decode cX1_freeOnLinks pc = .ok (.ireturn, 1) → narrow .int (.int r0) = .int r0 → va_S (nwA s.heap.size) s.heap H locs → W p l e (headSpec wsX1_freeOnLinks rm_X1_freeOnLinks5).room s m args below meth c H locs 0 0 Q (F0 m pc ls [.int r0])) (hf : fX1_freeOnLinks5 n x2 = some r0) (H : Heap) (locs : List Loc) (ls : Array Slot) (hP : va_P D vwCl (nwW cI q n) H) (hS : va_S (nwA s.heap.size) s.heap H locs) (hl : lv_has ls 5 [(0, .ref (q 0)), (1, .ref (q 6)), (2, .int x2)]) : W p l e (headSpec wsX1_freeOnLinks rm_X1_freeOnLinks5).room s m args below meth c H locs 0 0 Q (F0 m 0 ls []) := by
  obtain ⟨hx, hb, hml, hown, hts⟩ := id S
  have inX1 := in_X1_freeOnLinks5_X1
  have hA : ∀ q : Nat, s.heap.size ≤ q → nwA s.heap.size q := fun _ h => h
  unfold fX1_freeOnLinks5 at hf
  refine lv_iconst (v := (0 : Int32)) hx hb dX1_freeOnLinks_0 kc_iconst_0 ?_
  refine lv_istore_n (lv' := [(3, .int (0 : Int32)), (0, .ref (q 0)), (1, .ref (q 6)), (2, .int x2)]) hx hb dX1_freeOnLinks_1 rfl hl (by decide) rfl (fun ls hl => ?_)
  refine lv_iconst (v := (0 : Int32)) hx hb dX1_freeOnLinks_2 kc_iconst_0 ?_
  refine lv_istore (lv' := [(4, .int (0 : Int32)), (3, .int (0 : Int32)), (0, .ref (q 0)), (1, .ref (q 6)), (2, .int x2)]) hx hb dX1_freeOnLinks_3 hl (by decide) rfl (fun ls hl => ?_)
  exact w_X1_freeOnLinks5_5 S hK hret _ _ _ hf H locs ls hP hS (lv_sub hl [2, 3, 4, 1, 0] rfl)
set_option maxRecDepth 100000 in
theorem c_X1_freeOnLinks5 (l : Launch) (D : va_G) (cI cN : ClassId) (q : Nat → Nat) (sz : Nat) (n : OS) (x2 : Int32) (r0 : Int32) (hf : fX1_freeOnLinks5 n x2 = some r0) : CtP l D cI cN yX1_freeOnLinks wsX1_freeOnLinks rm_X1_freeOnLinks5 [.ref (q 0), .ref (q 6), .int x2] (nwW cI q n) sz r0 := by
  refine mP (cc := cX1_freeOnLinks) (maxL := 5) (ty := .int) (by decide) rfl rfl (Nat.le_of_ble_eq_true rfl) ?_
  intro p e s m args below meth c Q S hK hP hS hret ls hl
  exact w_X1_freeOnLinks5_0 S hK hret hf _ _ _ hP hS (lv_sub (show lv_has ls 5 [(0, .ref (q 0)), (1, .ref (q 6)), (2, .int x2)] from hl) [0, 1, 2] rfl)
