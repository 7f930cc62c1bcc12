abbrev rm_X2_sign : Room := { frames := 1, cells := 0, slots := 0, locals := 21 }
theorem in_X2_sign_X2 : ∀ w ∈ u_ws RX2 TX2 6, w ∈ wsX2_sign := fun w h => List.mem_cons_of_mem _ (List.mem_append_left _ (List.mem_append_right _ h))
set_option maxRecDepth 100000 in
set_option maxHeartbeats 4000000 in
theorem w_X2_sign_0 {p : Program} {l : Launch} {e : Env} {s : State} {m : MethodId} {args : Array Value} {below : List Frame} {meth : Method} {c : Code} {Q : State → Prop} {D : va_G} {cI cN : ClassId} {u : Nat → Nat} (S : CallFix p m c cX2_sign 1 s args wsX2_sign RX2) (hK : KN D cI cN s) {x : OS} {r0 : Int32} (hret : ∀ (H : Heap) (locs : List Loc) (ls : Array Slot) (pc : Nat), decode cX2_sign pc = .ok (.ireturn, 1) → narrow .int (.int r0) = .int r0 → va_S (nwA s.heap.size) s.heap H locs → W p l e (headSpec wsX2_sign rm_X2_sign).room s m args below meth c H locs 0 0 Q (F0 m pc ls [.int r0])) (hf : fX2_sign x = r0) (H : Heap) (locs : List Loc) (ls : Array Slot) (hP : va_P D vwCl (txW cI u x) H) (hS : va_S (nwA s.heap.size) s.heap H locs) (hl : lv_has ls 1 [(0, .ref (u 0))]) : W p l e (headSpec wsX2_sign rm_X2_sign).room s m args below meth c H locs 0 0 Q (F0 m 0 ls []) := by
  obtain ⟨hx, hb, hml, hown, hts⟩ := id S
  have inX2 := in_X2_sign_X2
  have hA : ∀ q : Nat, s.heap.size ≤ q → nwA s.heap.size q := fun _ h => h
  unfold fX2_sign at hf
  refine lv_aload_n hx hb dX2_sign_0 rfl (lv_at hl 0 rfl) ?_
  refine va_get (D := D) (ci := 2) (v := .int (x.1 2)) (C := RX2) (T := TX2) (N := 6) hx hb hts inX2 hown hK.1 hP 0 rfl rfl 2 (by decide) (hts (.fieldLink RX2 28 "ClosExchange$OrderText" "place" "I") (List.mem_of_getElem? (i := 1) rfl)) (fun _ h9 => h9) rfl dX2_sign_1 ?_
  refine lv_aload_n hx hb dX2_sign_4 rfl (lv_at hl 0 rfl) ?_
  refine va_get (D := D) (ci := 2) (v := .int (x.1 1)) (C := RX2) (T := TX2) (N := 6) hx hb hts inX2 hown hK.1 hP 0 rfl rfl 1 (by decide) (hts (.fieldLink RX2 20 "ClosExchange$OrderText" "length" "I") (List.mem_of_getElem? (i := 2) rfl)) (fun _ h9 => h9) rfl dX2_sign_5 ?_
  refine lv_icmp_ge (tgt := 25) hx hb dX2_sign_8 (by decide) (fun c1 => ?_) (fun c1 => ?_)
  · have hf := it_t hf c1
    refine lv_bipush (v := (-6 : Int32)) hx hb dX2_sign_25 kc_bipush_m6 ?_
    have e0 : (-6 : Int32) = r0 := hf
    subst e0
    exact hret H locs ls _ dX2_sign_27 rfl hS
  · have hf := it_f hf c1
    refine lv_aload_n hx hb dX2_sign_11 rfl (lv_at hl 0 rfl) ?_
    refine va_get (D := D) (ci := 2) (v := .ref (u 1)) (C := RX2) (T := TX2) (N := 6) hx hb hts inX2 hown hK.1 hP 0 rfl rfl 0 (by decide) (hts (.fieldLink RX2 14 "ClosExchange$OrderText" "signs" "LClosExchange$Row;") (List.mem_of_getElem? (i := 3) rfl)) (fun _ h9 => h9) rfl dX2_sign_12 ?_
    refine lv_aload_n hx hb dX2_sign_15 rfl (lv_at hl 0 rfl) ?_
    refine va_get (D := D) (ci := 2) (v := .int (x.1 2)) (C := RX2) (T := TX2) (N := 6) hx hb hts inX2 hown hK.1 hP 0 rfl rfl 2 (by decide) (hts (.fieldLink RX2 28 "ClosExchange$OrderText" "place" "I") (List.mem_of_getElem? (i := 1) rfl)) (fun _ h9 => h9) rfl dX2_sign_16 ?_
    refine cQi (As := [.int (x.1 2)]) (rest := []) (q0 := 1) (ci := 4) S (c_X4_get l D cI cN (u 1) (u 2) 60 (Nat.le_of_ble_eq_true rfl) _ (x.2 0) (x.1 2)) (cwV 1 hts gX2_sign_X4_get rfl rfl rfl (by decide +kernel) ⟨Nat.le_of_ble_eq_true rfl, Nat.le_of_ble_eq_true rfl⟩) hK hP hS hA (P_two (i0 := 1) (i1 := 2) hP rfl rfl) rfl rfl rfl hl.1 rfl (Nat.le_of_ble_eq_true rfl) dX2_sign_19 ⟨Nat.zero_le _, Nat.zero_le _⟩ (fun H locs hP hS => ?_)
    refine lv_goto (tgt := 27) hx hb dX2_sign_22 (by decide) ?_
    have e0 : (rget (x.2 0) 60 (x.1 2)) = r0 := hf
    subst e0
    exact hret H locs ls _ dX2_sign_27 rfl hS
set_option maxRecDepth 100000 in
theorem c_X2_sign (l : Launch) (D : va_G) (cI cN : ClassId) (u : Nat → Nat) (sz : Nat) (x : OS) (r0 : Int32) (hf : fX2_sign x = r0) : CtP l D cI cN yX2_sign wsX2_sign rm_X2_sign [.ref (u 0)] (txW cI u x) sz r0 := by
  refine mP (cc := cX2_sign) (maxL := 1) (ty := .int) (by decide) rfl rfl (Nat.le_of_ble_eq_true rfl) ?_
  intro p e s m args below meth c Q S hK hP hS hret ls hl
  exact w_X2_sign_0 S hK hret hf _ _ _ hP hS (lv_sub (show lv_has ls 1 [(0, .ref (u 0))] from hl) [0] rfl)
abbrev rm_X2_rewind : Room := { frames := 0, cells := 0, slots := 0, locals := 0 }
theorem in_X2_rewind_X2 : ∀ w ∈ u_ws RX2 TX2 6, w ∈ wsX2_rewind := fun w h => List.mem_cons_of_mem _ (List.mem_append_right _ h)
set_option maxRecDepth 100000 in
set_option maxHeartbeats 4000000 in
theorem w_X2_rewind_0 {p : Program} {l : Launch} {e : Env} {s : State} {m : MethodId} {args : Array Value} {below : List Frame} {meth : Method} {c : Code} {Q : State → Prop} {D : va_G} {cI cN : ClassId} {A : Nat → Prop} {u : Nat → Nat} (S : CallFix p m c cX2_rewind 1 s args wsX2_rewind RX2) (hK : KN D cI cN s) (hA : ∀ q : Nat, s.heap.size ≤ q → A q) {x : OS} {x' : OS} (hret : ∀ (H : Heap) (locs : List Loc) (ls : Array Slot) (pc : Nat), decode cX2_rewind pc = .ok (.return_, 1) → va_P D vwCl (txW cI u x') H → va_D A (txW cI u x') → va_S A s.heap H locs → W p l e (headSpec wsX2_rewind rm_X2_rewind).room s m args below meth c H locs 0 0 Q (F0 m pc ls [])) (hf : fX2_rewind x = x') (H : Heap) (locs : List Loc) (ls : Array Slot) (hP : va_P D vwCl (txW cI u x) H) (hD : va_D A (txW cI u x)) (hS : va_S A s.heap H locs) (hl : lv_has ls 1 [(0, .ref (u 0))]) : W p l e (headSpec wsX2_rewind rm_X2_rewind).room s m args below meth c H locs 0 0 Q (F0 m 0 ls []) := by
  obtain ⟨hx, hb, hml, hown, hts⟩ := id S
  have inX2 := in_X2_rewind_X2
  unfold fX2_rewind at hf
  refine lv_aload_n hx hb dX2_rewind_0 rfl (lv_at hl 0 rfl) ?_
  refine lv_iconst (v := (0 : Int32)) hx hb dX2_rewind_1 kc_iconst_0 ?_
  refine gput (D := D) (ci := 2) (v := .int (0 : Int32)) (ty := .int) (C := RX2) (T := TX2) (N := 6) (wf := (txW cI u (setF x 2 (0 : Int32)))) hx hb hts inX2 tyX2 tyX2_ok nmX2 hown hK.1 hP hD hS 0 rfl rfl 2 (by decide) (hts (.fieldLink RX2 28 "ClosExchange$OrderText" "place" "I") (List.mem_of_getElem? (i := 1) rfl)) (fun _ h9 => h9) rfl (by decide +kernel) rfl rfl (Nat.le_of_ble_eq_true rfl) dX2_rewind_2 rfl (fun H locs hP hD hS => ?_)
  have e0 : (setF x 2 (0 : Int32)) = x' := hf
  subst e0
  exact hret H locs ls _ dX2_rewind_5 hP hD hS
set_option maxRecDepth 100000 in
theorem c_X2_rewind (l : Launch) (D : va_G) (cI cN : ClassId) (u : Nat → Nat) (sz : Nat) (x : OS) (x' : OS) (hf : fX2_rewind x = x') : CtV l D cI cN yX2_rewind wsX2_rewind rm_X2_rewind 0 0 [.ref (u 0)] (txW cI u x) sz (txW cI u x') := by
  refine mV (cc := cX2_rewind) (maxL := 1) (by decide) rfl (Nat.le_of_ble_eq_true rfl) ?_
  intro p e s m args below meth c Q A S _ hK hP hD hS hA hret ls hl
  exact w_X2_rewind_0 S hK hA hret hf _ _ _ hP hD hS (lv_sub (show lv_has ls 1 [(0, .ref (u 0))] from hl) [0] rfl)
abbrev rm_X2_skip : Room := { frames := 2, cells := 0, slots := 0, locals := 41 }
theorem in_X2_skip_X2 : ∀ w ∈ u_ws RX2 TX2 6, w ∈ wsX2_skip := fun w h => List.mem_cons_of_mem _ (List.mem_append_left _ (List.mem_append_right _ h))
set_option maxRecDepth 100000 in
set_option maxHeartbeats 4000000 in
theorem w_X2_skip_0 {p : Program} {l : Launch} {e : Env} {s : State} {m : MethodId} {args : Array Value} {below : List Frame} {meth : Method} {c : Code} {Q : State → Prop} {D : va_G} {cI cN : ClassId} {A : Nat → Prop} {u : Nat → Nat} (S : CallFix p m c cX2_skip 2 s args wsX2_skip RX2) (hK : KN D cI cN s) (hA : ∀ q : Nat, s.heap.size ≤ q → A q) {x : OS} {x1 : Int32} {r0 : Int32} {x' : OS} (hret : ∀ (H : Heap) (locs : List Loc) (ls : Array Slot) (pc : Nat), decode cX2_skip pc = .ok (.ireturn, 1) → narrow .boolean (.int r0) = .int r0 → va_P D vwCl (txW cI u x') H → va_D A (txW cI u x') → va_S A s.heap H locs → W p l e (headSpec wsX2_skip rm_X2_skip).room s m args below meth c H locs 0 0 Q (F0 m pc ls [.int r0])) (hf : fX2_skip x x1 = (r0, x')) (H : Heap) (locs : List Loc) (ls : Array Slot) (hP : va_P D vwCl (txW cI u x) H) (hD : va_D A (txW cI u x)) (hS : va_S A s.heap H locs) (hl : lv_has ls 2 [(0, .ref (u 0)), (1, .int x1)]) : W p l e (headSpec wsX2_skip rm_X2_skip).room s m args below meth c H locs 0 0 Q (F0 m 0 ls []) := by
  obtain ⟨hx, hb, hml, hown, hts⟩ := id S
  have inX2 := in_X2_skip_X2
  unfold fX2_skip at hf
  refine lv_aload_n hx hb dX2_skip_0 rfl (lv_at hl 0 rfl) ?_
  refine cQi (As := []) (rest := []) (q0 := 0) (ci := 2) S (c_X2_sign l D cI cN u _ x (fX2_sign x) rfl) (cwV 0 hts gX2_skip_X2_sign rfl rfl rfl (by decide +kernel) ⟨Nat.le_of_ble_eq_true rfl, Nat.le_of_ble_eq_true rfl⟩) hK hP hS hA hP rfl rfl rfl hl.1 rfl (Nat.le_of_ble_eq_true rfl) dX2_skip_1 ⟨Nat.zero_le _, Nat.zero_le _⟩ (fun H locs hP hS => ?_)
  refine lv_iload_n hx hb dX2_skip_4 rfl (lv_at hl 1 rfl) ?_
  refine lv_icmp_eq (tgt := 10) hx hb dX2_skip_5 (by decide) (fun c1 => ?_) (fun c1 => ?_)
  · have hf := it_t hf c1
    refine lv_aload_n hx hb dX2_skip_10 rfl (lv_at hl 0 rfl) ?_
    refine lv_dup hx hb dX2_skip_11 rfl ?_
    refine va_get (D := D) (ci := 2) (v := .int (x.1 2)) (C := RX2) (T := TX2) (N := 6) hx hb hts inX2 hown hK.1 hP 0 rfl rfl 2 (by decide) (hts (.fieldLink RX2 28 "ClosExchange$OrderText" "place" "I") (List.mem_of_getElem? (i := 1) rfl)) (fun _ h9 => h9) rfl dX2_skip_12 ?_
    refine lv_iconst (v := (1 : Int32)) hx hb dX2_skip_15 kc_iconst_1 ?_
    refine lv_iadd hx hb dX2_skip_16 ?_
    obtain ⟨w2, hw2, hf⟩ := it_j hf
    rw [hw2]
    refine gput (D := D) (ci := 2) (v := .int w2) (ty := .int) (C := RX2) (T := TX2) (N := 6) (wf := (txW cI u (setF x 2 w2))) hx hb hts inX2 tyX2 tyX2_ok nmX2 hown hK.1 hP hD hS 0 rfl rfl 2 (by decide) (hts (.fieldLink RX2 28 "ClosExchange$OrderText" "place" "I") (List.mem_of_getElem? (i := 1) rfl)) (fun _ h9 => h9) rfl (by decide +kernel) rfl rfl (Nat.le_of_ble_eq_true rfl) dX2_skip_17 rfl (fun H locs hP hD hS => ?_)
    refine lv_iconst (v := (1 : Int32)) hx hb dX2_skip_20 kc_iconst_1 ?_
    have e0 : (1 : Int32) = r0 := congrArg (fun z => z.1) hf
    have e1 : (setF x 2 w2) = x' := congrArg (fun z => z.2) hf
    subst e0
    subst e1
    exact hret H locs ls _ dX2_skip_21 (by first | rfl | exact bo_in | (exact bo_isHere (by assumption))) hP hD hS
  · have hf := it_f hf c1
    refine lv_iconst (v := (0 : Int32)) hx hb dX2_skip_8 kc_iconst_0 ?_
    have e0 : (0 : Int32) = r0 := congrArg (fun z => z.1) hf
    have e1 : x = x' := congrArg (fun z => z.2) hf
    subst e0
    subst e1
    exact hret H locs ls _ dX2_skip_9 (by first | rfl | exact bo_in | (exact bo_isHere (by assumption))) hP hD hS
set_option maxRecDepth 100000 in
theorem c_X2_skip (l : Launch) (D : va_G) (cI cN : ClassId) (u : Nat → Nat) (sz : Nat) (x : OS) (x1 : Int32) (r0 : Int32) (x' : OS) (hf : fX2_skip x x1 = (r0, x')) : CtI l D cI cN yX2_skip wsX2_skip rm_X2_skip 0 0 [.ref (u 0), .int x1] (txW cI u x) sz r0 (txW cI u x') := by
  refine mW (cc := cX2_skip) (maxL := 2) (ty := .boolean) (by decide) rfl rfl (Nat.le_of_ble_eq_true rfl) ?_
  intro p e s m args below meth c Q A S hK hP hD hS hA hret ls hl
  exact w_X2_skip_0 S hK hA hret hf _ _ _ hP hD hS (lv_sub (show lv_has ls 2 [(0, .ref (u 0)), (1, .int x1)] from hl) [0, 1] rfl)
abbrev rm_X2_readNumber : Room := { frames := 2, cells := 0, slots := 0, locals := 41 }
theorem in_X2_readNumber_X2 : ∀ w ∈ u_ws RX2 TX2 6, w ∈ wsX2_readNumber := fun w h => List.mem_cons_of_mem _ (List.mem_append_left _ (List.mem_append_right _ h))
set_option maxRecDepth 100000 in
set_option maxHeartbeats 4000000 in
theorem w_X2_readNumber_5 {p : Program} {l : Launch} {e : Env} {s : State} {m : MethodId} {args : Array Value} {below : List Frame} {meth : Method} {c : Code} {Q : State → Prop} {D : va_G} {cI cN : ClassId} {A : Nat → Prop} {u : Nat → Nat} (S : CallFix p m c cX2_readNumber 6 s args wsX2_readNumber RX2) (hK : KN D cI cN s) (hA : ∀ q : Nat, s.heap.size ≤ q → A q) {x1 : Int32} {r0 : Int32} {x' : OS} (hret : ∀ (H : Heap) (locs : List Loc) (ls : Array Slot) (pc : Nat), decode cX2_readNumber pc = .ok (.ireturn, 1) → narrow .int (.int r0) = .int r0 → va_P D vwCl (txW cI u x') H → va_D A (txW cI u x') → va_S A s.heap H locs → W p l e (headSpec wsX2_readNumber rm_X2_readNumber).room s m args below meth c H locs 0 0 Q (F0 m pc ls [.int r0])) : ∀ (k : Nat) (x2 : Int32) (x3 : Int32) (x : OS), fX2_readNumber_5 x1 k x2 x3 x = some (r0, x') → ∀ (H : Heap) (locs : List Loc) (ls : Array Slot), va_P D vwCl (txW cI u x) H → va_D A (txW cI u x) → va_S A s.heap H locs → lv_has ls 6 [(0, .ref (u 0)), (1, .int x1), (2, .int x2), (3, .int x3)] → W p l e (headSpec wsX2_readNumber rm_X2_readNumber).room s m args below meth c H locs 0 0 Q (F0 m 5 ls []) := by
  obtain ⟨hx, hb, hml, hown, hts⟩ := id S
  have inX2 := in_X2_readNumber_X2
  intro k
  induction k with
  | zero => intro x2 x3 x hf; rw [fX2_readNumber_5_z] at hf; cases hf
  | succ k ih =>
    intro x2 x3 x hf H locs ls hP hD hS hl
    rw [fX2_readNumber_5_s] at hf
    refine lv_iload_n hx hb dX2_readNumber_5 rfl (lv_at hl 3 rfl) ?_
    refine lv_bipush (v := (60 : Int32)) hx hb dX2_readNumber_6 kc_bipush_60 ?_
    refine lv_icmp_ge (tgt := 80) hx hb dX2_readNumber_8 (by decide) (fun c1 => ?_) (fun c1 => ?_)
    · have hf := it_t hf c1
      refine lv_iload_n hx hb dX2_readNumber_80 rfl (lv_at hl 2 rfl) ?_
      have e0 : x2 = r0 := congrArg (fun z => z.1) (Option.some.inj hf)
      have e1 : x = x' := congrArg (fun z => z.2) (Option.some.inj hf)
      subst e0
      subst e1
      exact hret H locs ls _ dX2_readNumber_81 rfl hP hD hS
    · have hf := it_f hf c1
      refine lv_aload_n hx hb dX2_readNumber_11 rfl (lv_at hl 0 rfl) ?_
      refine cQi (As := []) (rest := []) (q0 := 0) (ci := 2) S (c_X2_sign l D cI cN u _ x (fX2_sign x) rfl) (cwV 0 hts gX2_readNumber_X2_sign rfl rfl rfl (by decide +kernel) ⟨Nat.le_of_ble_eq_true rfl, Nat.le_of_ble_eq_true rfl⟩) hK hP hS hA hP rfl rfl rfl hl.1 rfl (Nat.le_of_ble_eq_true rfl) dX2_readNumber_12 ⟨Nat.zero_le _, Nat.zero_le _⟩ (fun H locs hP hS => ?_)
      refine lv_bipush (v := (48 : Int32)) hx hb dX2_readNumber_15 kc_bipush_48 ?_
      refine lv_isub hx hb dX2_readNumber_17 ?_
      refine lv_istore (lv' := [(4, .int ((fX2_sign x) - (48 : Int32))), (0, .ref (u 0)), (1, .int x1), (2, .int x2), (3, .int x3)]) hx hb dX2_readNumber_18 hl (by decide) rfl (fun ls hl => ?_)
      refine lv_iload hx hb dX2_readNumber_20 (lv_at hl 0 rfl) ?_
      refine lv_if_lt (tgt := 80) hx hb dX2_readNumber_22 (by decide) (fun c2 => ?_) (fun c2 => ?_)
      · have hf := it_t hf c2
        refine lv_iload_n hx hb dX2_readNumber_80 rfl (lv_at hl 3 rfl) ?_
        have e0 : x2 = r0 := congrArg (fun z => z.1) (Option.some.inj hf)
        have e1 : x = x' := congrArg (fun z => z.2) (Option.some.inj hf)
        subst e0
        subst e1
        exact hret H locs ls _ dX2_readNumber_81 rfl hP hD hS
      · have hf := it_f hf c2
        refine lv_iload hx hb dX2_readNumber_25 (lv_at hl 0 rfl) ?_
        refine lv_bipush (v := (9 : Int32)) hx hb dX2_readNumber_27 kc_bipush_9 ?_
        refine lv_icmp_gt (tgt := 80) hx hb dX2_readNumber_29 (by decide) (fun c3 => ?_) (fun c3 => ?_)
        · have hf := it_t hf c3
          refine lv_iload_n hx hb dX2_readNumber_80 rfl (lv_at hl 3 rfl) ?_
          have e0 : x2 = r0 := congrArg (fun z => z.1) (Option.some.inj hf)
          have e1 : x = x' := congrArg (fun z => z.2) (Option.some.inj hf)
          subst e0
          subst e1
          exact hret H locs ls _ dX2_readNumber_81 rfl hP hD hS
        · have hf := it_f hf c3
          refine lv_iload_n hx hb dX2_readNumber_32 rfl (lv_at hl 3 rfl) ?_
          refine lv_if_ne (tgt := 39) hx hb dX2_readNumber_33 (by decide) (fun c4 => ?_) (fun c4 => ?_)
          · have hf := it_f hf c4
            refine lv_iload_n hx hb dX2_readNumber_39 rfl (lv_at hl 3 rfl) ?_
            refine lv_iconst (v := (0 : Int32)) hx hb dX2_readNumber_40 kc_iconst_0 ?_
            refine va_mmax hx hb (hml.trans hl.1.symm) hown (hts (.methodLink RX2 62 Lib.Math.max.name) (List.mem_of_getElem? (i := 1) rfl)) (hts (.static Lib.Math.max.name) (List.mem_of_getElem? (i := 2) rfl)) (hts (.initialized "java/lang/Math") (List.mem_of_getElem? (i := 3) rfl)) (hts (.code Lib.Math.max.name Lib.Math.max.code 2 (some .int)) (List.mem_of_getElem? (i := 4) rfl)) (Nat.le_of_ble_eq_true rfl) (Nat.le_of_ble_eq_true rfl) (Nat.zero_le _) (Nat.zero_le _) dX2_readNumber_41 ?_
            refine lv_bipush (v := (10 : Int32)) hx hb dX2_readNumber_44 kc_bipush_10 ?_
            refine lv_imul hx hb dX2_readNumber_46 ?_
            refine lv_iload hx hb dX2_readNumber_47 (lv_at hl 0 rfl) ?_
            refine lv_iadd hx hb dX2_readNumber_49 ?_
            refine lv_istore (lv' := [(5, .int (((if x2 < (0 : Int32) then (0 : Int32) else x2) * (10 : Int32)) + ((fX2_sign x) - (48 : Int32)))), (4, .int ((fX2_sign x) - (48 : Int32))), (0, .ref (u 0)), (1, .int x1), (2, .int x2), (3, .int x3)]) hx hb dX2_readNumber_50 hl (by decide) rfl (fun ls hl => ?_)
            refine lv_iload hx hb dX2_readNumber_52 (lv_at hl 0 rfl) ?_
            refine lv_iload_n hx hb dX2_readNumber_54 rfl (lv_at hl 3 rfl) ?_
            refine lv_icmp_le (tgt := 61) hx hb dX2_readNumber_55 (by decide) (fun c5 => ?_) (fun c5 => ?_)
            · have hf := it_t hf c5
              refine lv_iload hx hb dX2_readNumber_61 (lv_at hl 0 rfl) ?_
              refine lv_istore_n (lv' := [(2, .int (((if x2 < (0 : Int32) then (0 : Int32) else x2) * (10 : Int32)) + ((fX2_sign x) - (48 : Int32)))), (5, .int (((if x2 < (0 : Int32) then (0 : Int32) else x2) * (10 : Int32)) + ((fX2_sign x) - (48 : Int32)))), (4, .int ((fX2_sign x) - (48 : Int32))), (0, .ref (u 0)), (1, .int x1), (3, .int x3)]) hx hb dX2_readNumber_63 rfl hl (by decide) rfl (fun ls hl => ?_)
              refine lv_aload_n hx hb dX2_readNumber_64 rfl (lv_at hl 3 rfl) ?_
              refine lv_dup hx hb dX2_readNumber_65 rfl ?_
              refine va_get (D := D) (ci := 2) (v := .int (x.1 2)) (C := RX2) (T := TX2) (N := 6) hx hb hts inX2 hown hK.1 hP 0 rfl rfl 2 (by decide) (hts (.fieldLink RX2 28 "ClosExchange$OrderText" "place" "I") (List.mem_of_getElem? (i := 5) rfl)) (fun _ h9 => h9) rfl dX2_readNumber_66 ?_
              refine lv_iconst (v := (1 : Int32)) hx hb dX2_readNumber_69 kc_iconst_1 ?_
              refine lv_iadd hx hb dX2_readNumber_70 ?_
              obtain ⟨w6, hw6, hf⟩ := it_j hf
              rw [hw6]
              refine gput (D := D) (ci := 2) (v := .int w6) (ty := .int) (C := RX2) (T := TX2) (N := 6) (wf := (txW cI u (setF x 2 w6))) hx hb hts inX2 tyX2 tyX2_ok nmX2 hown hK.1 hP hD hS 0 rfl rfl 2 (by decide) (hts (.fieldLink RX2 28 "ClosExchange$OrderText" "place" "I") (List.mem_of_getElem? (i := 5) rfl)) (fun _ h9 => h9) rfl (by decide +kernel) rfl rfl (Nat.le_of_ble_eq_true rfl) dX2_readNumber_71 rfl (fun H locs hP hD hS => ?_)
              refine lv_iinc (v := (x3 + (1 : Int32))) (lv' := [(3, .int (x3 + (1 : Int32))), (2, .int (((if x2 < (0 : Int32) then (0 : Int32) else x2) * (10 : Int32)) + ((fX2_sign x) - (48 : Int32)))), (5, .int (((if x2 < (0 : Int32) then (0 : Int32) else x2) * (10 : Int32)) + ((fX2_sign x) - (48 : Int32)))), (4, .int ((fX2_sign x) - (48 : Int32))), (0, .ref (u 0)), (1, .int x1)]) hx hb dX2_readNumber_74 hl (k := 5) rfl rfl (by decide) rfl (fun ls hl => ?_)
              refine lv_goto (tgt := 5) hx hb dX2_readNumber_77 (by decide) ?_
              exact ih _ _ _ hf H locs ls hP hD hS (lv_sub hl [4, 5, 1, 0] rfl)
            · have hf := it_f hf c5
              refine lv_goto (tgt := 80) hx hb dX2_readNumber_58 (by decide) ?_
              refine lv_iload_n hx hb dX2_readNumber_80 rfl (lv_at hl 4 rfl) ?_
              have e0 : x2 = r0 := congrArg (fun z => z.1) (Option.some.inj hf)
              have e1 : x = x' := congrArg (fun z => z.2) (Option.some.inj hf)
              subst e0
              subst e1
              exact hret H locs ls _ dX2_readNumber_81 rfl hP hD hS
          · have hf := it_t hf c4
            refine lv_goto (tgt := 80) hx hb dX2_readNumber_36 (by decide) ?_
            refine lv_iload_n hx hb dX2_readNumber_80 rfl (lv_at hl 3 rfl) ?_
            have e0 : x2 = r0 := congrArg (fun z => z.1) (Option.some.inj hf)
            have e1 : x = x' := congrArg (fun z => z.2) (Option.some.inj hf)
            subst e0
            subst e1
            exact hret H locs ls _ dX2_readNumber_81 rfl hP hD hS
set_option maxRecDepth 100000 in
set_option maxHeartbeats 4000000 in
theorem w_X2_readNumber_0 {p : Program} {l : Launch} {e : Env} {s : State} {m : MethodId} {args : Array Value} {below : List Frame} {meth : Method} {c : Code} {Q : State → Prop} {D : va_G} {cI cN : ClassId} {A : Nat → Prop} {u : Nat → Nat} (S : CallFix p m c cX2_readNumber 6 s args wsX2_readNumber RX2) (hK : KN D cI cN s) (hA : ∀ q : Nat, s.heap.size ≤ q → A q) {x : OS} {x1 : Int32} {r0 : Int32} {x' : OS} (hret : ∀ (H : Heap) (locs : List Loc) (ls : Array Slot) (pc : Nat), decode cX2_readNumber pc = .ok (.ireturn, 1) → narrow .int (.int r0) = .int r0 → va_P D vwCl (txW cI u x') H → va_D A (txW cI u x') → va_S A s.heap H locs → W p l e (headSpec wsX2_readNumber rm_X2_readNumber).room s m args below meth c H locs 0 0 Q (F0 m pc ls [.int r0])) (hf : fX2_readNumber x x1 = some (r0, x')) (H : Heap) (locs : List Loc) (ls : Array Slot) (hP : va_P D vwCl (txW cI u x) H) (hD : va_D A (txW cI u x)) (hS : va_S A s.heap H locs) (hl : lv_has ls 6 [(0, .ref (u 0)), (1, .int x1)]) : W p l e (headSpec wsX2_readNumber rm_X2_readNumber).room s m args below meth c H locs 0 0 Q (F0 m 0 ls []) := by
  obtain ⟨hx, hb, hml, hown, hts⟩ := id S
  have inX2 := in_X2_readNumber_X2
  unfold fX2_readNumber at hf
  refine lv_bipush (v := (-6 : Int32)) hx hb dX2_readNumber_0 kc_bipush_m6 ?_
  refine lv_istore_n (lv' := [(2, .int (-6 : Int32)), (0, .ref (u 0)), (1, .int x1)]) hx hb dX2_readNumber_2 rfl hl (by decide) rfl (fun ls hl => ?_)
  refine lv_iconst (v := (0 : Int32)) hx hb dX2_readNumber_3 kc_iconst_0 ?_
  refine lv_istore_n (lv' := [(3, .int (0 : Int32)), (2, .int (-6 : Int32)), (0, .ref (u 0)), (1, .int x1)]) hx hb dX2_readNumber_4 rfl hl (by decide) rfl (fun ls hl => ?_)
  exact w_X2_readNumber_5 S hK hA hret _ _ _ _ hf H locs ls hP hD hS (lv_sub hl [2, 3, 1, 0] rfl)
set_option maxRecDepth 100000 in
theorem c_X2_readNumber (l : Launch) (D : va_G) (cI cN : ClassId) (u : Nat → Nat) (sz : Nat) (x : OS) (x1 : Int32) (r0 : Int32) (x' : OS) (hf : fX2_readNumber x x1 = some (r0, x')) : CtI l D cI cN yX2_readNumber wsX2_readNumber rm_X2_readNumber 0 0 [.ref (u 0), .int x1] (txW cI u x) sz r0 (txW cI u x') := by
  refine mW (cc := cX2_readNumber) (maxL := 6) (ty := .int) (by decide) rfl rfl (Nat.le_of_ble_eq_true rfl) ?_
  intro p e s m args below meth c Q A S hK hP hD hS hA hret ls hl
  exact w_X2_readNumber_0 S hK hA hret hf _ _ _ hP hD hS (lv_sub (show lv_has ls 6 [(0, .ref (u 0)), (1, .int x1)] from hl) [0, 1] rfl)
abbrev rm_X2_append : Room := { frames := 1, cells := 0, slots := 0, locals := 22 }
theorem in_X2_append_X2 : ∀ w ∈ u_ws RX2 TX2 6, w ∈ wsX2_append := fun w h => List.mem_cons_of_mem _ (List.mem_append_left _ (List.mem_append_right _ h))
set_option maxRecDepth 100000 in
set_option maxHeartbeats 4000000 in
theorem w_X2_append_0 {p : Program} {l : Launch} {e : Env} {s : State} {m : MethodId} {args : Array Value} {below : List Frame} {meth : Method} {c : Code} {Q : State → Prop} {D : va_G} {cI cN : ClassId} {A : Nat → Prop} {u : Nat → Nat} (S : CallFix p m c cX2_append 2 s args wsX2_append RX2) (hK : KN D cI cN s) (hA : ∀ q : Nat, s.heap.size ≤ q → A q) {x : OS} {x1 : Int32} {r0 : Int32} {x' : OS} (hret : ∀ (H : Heap) (locs : List Loc) (ls : Array Slot) (pc : Nat), decode cX2_append pc = .ok (.ireturn, 1) → narrow .int (.int r0) = .int r0 → va_P D vwCl (txW cI u x') H → va_D A (txW cI u x') → va_S A s.heap H locs → W p l e (headSpec wsX2_append rm_X2_append).room s m args below meth c H locs 0 0 Q (F0 m pc ls [.int r0])) (hf : fX2_append x x1 = (r0, x')) (H : Heap) (locs : List Loc) (ls : Array Slot) (hP : va_P D vwCl (txW cI u x) H) (hD : va_D A (txW cI u x)) (hS : va_S A s.heap H locs) (hl : lv_has ls 2 [(0, .ref (u 0)), (1, .int x1)]) : W p l e (headSpec wsX2_append rm_X2_append).room s m args below meth c H locs 0 0 Q (F0 m 0 ls []) := by
  obtain ⟨hx, hb, hml, hown, hts⟩ := id S
  have inX2 := in_X2_append_X2
  unfold fX2_append at hf
  refine lv_aload_n hx hb dX2_append_0 rfl (lv_at hl 0 rfl) ?_
  refine va_get (D := D) (ci := 2) (v := .int (x.1 1)) (C := RX2) (T := TX2) (N := 6) hx hb hts inX2 hown hK.1 hP 0 rfl rfl 1 (by decide) (hts (.fieldLink RX2 20 "ClosExchange$OrderText" "length" "I") (List.mem_of_getElem? (i := 1) rfl)) (fun _ h9 => h9) rfl dX2_append_1 ?_
  refine lv_bipush (v := (60 : Int32)) hx hb dX2_append_4 kc_bipush_60 ?_
  refine lv_icmp_lt (tgt := 12) hx hb dX2_append_6 (by decide) (fun c1 => ?_) (fun c1 => ?_)
  · have hf := it_t hf c1
    refine lv_aload_n hx hb dX2_append_12 rfl (lv_at hl 0 rfl) ?_
    refine va_get (D := D) (ci := 2) (v := .ref (u 1)) (C := RX2) (T := TX2) (N := 6) hx hb hts inX2 hown hK.1 hP 0 rfl rfl 0 (by decide) (hts (.fieldLink RX2 14 "ClosExchange$OrderText" "signs" "LClosExchange$Row;") (List.mem_of_getElem? (i := 2) rfl)) (fun _ h9 => h9) rfl dX2_append_13 ?_
    refine lv_aload_n hx hb dX2_append_16 rfl (lv_at hl 0 rfl) ?_
    refine va_get (D := D) (ci := 2) (v := .int (x.1 1)) (C := RX2) (T := TX2) (N := 6) hx hb hts inX2 hown hK.1 hP 0 rfl rfl 1 (by decide) (hts (.fieldLink RX2 20 "ClosExchange$OrderText" "length" "I") (List.mem_of_getElem? (i := 1) rfl)) (fun _ h9 => h9) rfl dX2_append_17 ?_
    refine lv_iload_n hx hb dX2_append_20 rfl (lv_at hl 1 rfl) ?_
    obtain ⟨w2, hw2, hf⟩ := it_j hf
    refine cRv (As := [.int (x.1 1), .int x1]) (rest := []) (i0 := 1) (i1 := 2) (wf := (txW cI u (setR x 0 w2))) S (c_X4_set l D cI cN (u 1) (u 2) 60 (Nat.le_of_ble_eq_true rfl) _ (x.2 0) (x.1 1) x1 w2 hw2) (cwV 2 hts gX2_append_X4_set rfl rfl rfl (by decide +kernel) ⟨Nat.le_of_ble_eq_true rfl, Nat.le_of_ble_eq_true rfl⟩) hK hP hD hS hA rfl rfl (by decide) rfl rfl hl.1 rfl (Nat.le_of_ble_eq_true rfl) dX2_append_21 ⟨Nat.zero_le _, Nat.zero_le _⟩ (fun H locs hP hD hS => ?_)
    refine lv_aload_n hx hb dX2_append_24 rfl (lv_at hl 0 rfl) ?_
    refine lv_dup hx hb dX2_append_25 rfl ?_
    refine va_get (D := D) (ci := 2) (v := .int (x.1 1)) (C := RX2) (T := TX2) (N := 6) hx hb hts inX2 hown hK.1 hP 0 rfl rfl 1 (by decide) (hts (.fieldLink RX2 20 "ClosExchange$OrderText" "length" "I") (List.mem_of_getElem? (i := 1) rfl)) (fun _ h9 => h9) rfl dX2_append_26 ?_
    refine lv_iconst (v := (1 : Int32)) hx hb dX2_append_29 kc_iconst_1 ?_
    refine lv_iadd hx hb dX2_append_30 ?_
    obtain ⟨w3, hw3, hf⟩ := it_j hf
    rw [hw3]
    refine gput (D := D) (ci := 2) (v := .int w3) (ty := .int) (C := RX2) (T := TX2) (N := 6) (wf := (txW cI u (setF (setR x 0 w2) 1 w3))) hx hb hts inX2 tyX2 tyX2_ok nmX2 hown hK.1 hP hD hS 0 rfl rfl 1 (by decide) (hts (.fieldLink RX2 20 "ClosExchange$OrderText" "length" "I") (List.mem_of_getElem? (i := 1) rfl)) (fun _ h9 => h9) rfl (by decide +kernel) rfl rfl (Nat.le_of_ble_eq_true rfl) dX2_append_31 rfl (fun H locs hP hD hS => ?_)
    refine lv_aload_n hx hb dX2_append_34 rfl (lv_at hl 0 rfl) ?_
    refine va_get (D := D) (ci := 2) (v := .int w3) (C := RX2) (T := TX2) (N := 6) hx hb hts inX2 hown hK.1 hP 0 rfl rfl 1 (by decide) (hts (.fieldLink RX2 20 "ClosExchange$OrderText" "length" "I") (List.mem_of_getElem? (i := 1) rfl)) (fun _ h9 => h9) rfl dX2_append_35 ?_
    have e0 : w3 = r0 := congrArg (fun z => z.1) hf
    have e1 : (setF (setR x 0 w2) 1 w3) = x' := congrArg (fun z => z.2) hf
    subst e0
    subst e1
    exact hret H locs ls _ dX2_append_38 rfl hP hD hS
  · have hf := it_f hf c1
    refine lv_bipush (v := (-5 : Int32)) hx hb dX2_append_9 kc_bipush_m5 ?_
    have e0 : (-5 : Int32) = r0 := congrArg (fun z => z.1) hf
    have e1 : x = x' := congrArg (fun z => z.2) hf
    subst e0
    subst e1
    exact hret H locs ls _ dX2_append_11 rfl hP hD hS
set_option maxRecDepth 100000 in
theorem c_X2_append (l : Launch) (D : va_G) (cI cN : ClassId) (u : Nat → Nat) (sz : Nat) (x : OS) (x1 : Int32) (r0 : Int32) (x' : OS) (hf : fX2_append x x1 = (r0, x')) : CtI l D cI cN yX2_append wsX2_append rm_X2_append 0 0 [.ref (u 0), .int x1] (txW cI u x) sz r0 (txW cI u x') := by
  refine mW (cc := cX2_append) (maxL := 2) (ty := .int) (by decide) rfl rfl (Nat.le_of_ble_eq_true rfl) ?_
  intro p e s m args below meth c Q A S hK hP hD hS hA hret ls hl
  exact w_X2_append_0 S hK hA hret hf _ _ _ hP hD hS (lv_sub (show lv_has ls 2 [(0, .ref (u 0)), (1, .int x1)] from hl) [0, 1] rfl)
abbrev rm_X2_readOrder : Room := { frames := 3, cells := 0, slots := 0, locals := 66 }
theorem in_X2_readOrder_X2 : ∀ w ∈ u_ws RX2 TX2 6, w ∈ wsX2_readOrder := fun w h => List.mem_cons_of_mem _ (List.mem_append_left _ (List.mem_append_right _ h))
set_option maxRecDepth 100000 in
set_option maxHeartbeats 4000000 in
theorem w_X2_readOrder_0 {p : Program} {l : Launch} {e : Env} {s : State} {m : MethodId} {args : Array Value} {below : List Frame} {meth : Method} {c : Code} {Q : State → Prop} {D : va_G} {cI cN : ClassId} {A : Nat → Prop} {u : Nat → Nat} (S : CallFix p m c cX2_readOrder 1 s args wsX2_readOrder RX2) (hK : KN D cI cN s) (hA : ∀ q : Nat, s.heap.size ≤ q → A q) {x : OS} {r0 : Int32} {x' : OS} (hret : ∀ (H : Heap) (locs : List Loc) (ls : Array Slot) (pc : Nat), decode cX2_readOrder pc = .ok (.ireturn, 1) → narrow .boolean (.int r0) = .int r0 → va_P D vwCl (txW cI u x') H → va_D A (txW cI u x') → va_S A s.heap H locs → W p l e (headSpec wsX2_readOrder rm_X2_readOrder).room s m args below meth c H locs 0 0 Q (F0 m pc ls [.int r0])) (hf : fX2_readOrder x = some (r0, x')) (H : Heap) (locs : List Loc) (ls : Array Slot) (hP : va_P D vwCl (txW cI u x) H) (hD : va_D A (txW cI u x)) (hS : va_S A s.heap H locs) (hl : lv_has ls 1 [(0, .ref (u 0))]) : W p l e (headSpec wsX2_readOrder rm_X2_readOrder).room s m args below meth c H locs 0 0 Q (F0 m 0 ls []) := by
  obtain ⟨hx, hb, hml, hown, hts⟩ := id S
  have inX2 := in_X2_readOrder_X2
  unfold fX2_readOrder at hf
  refine lv_aload_n hx hb dX2_readOrder_0 rfl (lv_at hl 0 rfl) ?_
  refine lv_aload_n hx hb dX2_readOrder_1 rfl (lv_at hl 0 rfl) ?_
  refine cQi (As := []) (rest := [.ref (u 0)]) (q0 := 0) (ci := 2) S (c_X2_sign l D cI cN u _ x (fX2_sign x) rfl) (cwV 0 hts gX2_readOrder_X2_sign rfl rfl rfl (by decide +kernel) ⟨Nat.le_of_ble_eq_true rfl, Nat.le_of_ble_eq_true rfl⟩) hK hP hS hA hP rfl rfl rfl hl.1 rfl (Nat.le_of_ble_eq_true rfl) dX2_readOrder_2 ⟨Nat.zero_le _, Nat.zero_le _⟩ (fun H locs hP hS => ?_)
  obtain ⟨w1, hw1, hf⟩ := it_j hf
  rw [hw1]
  refine gput (D := D) (ci := 2) (v := .int w1) (ty := .int) (C := RX2) (T := TX2) (N := 6) (wf := (txW cI u (setF x 3 w1))) hx hb hts inX2 tyX2 tyX2_ok nmX2 hown hK.1 hP hD hS 0 rfl rfl 3 (by decide) (hts (.fieldLink RX2 46 "ClosExchange$OrderText" "kind" "I") (List.mem_of_getElem? (i := 1) rfl)) (fun _ h9 => h9) rfl (by decide +kernel) rfl rfl (Nat.le_of_ble_eq_true rfl) dX2_readOrder_5 rfl (fun H locs hP hD hS => ?_)
  refine lv_aload_n hx hb dX2_readOrder_8 rfl (lv_at hl 0 rfl) ?_
  refine va_get (D := D) (ci := 2) (v := .int w1) (C := RX2) (T := TX2) (N := 6) hx hb hts inX2 hown hK.1 hP 0 rfl rfl 3 (by decide) (hts (.fieldLink RX2 46 "ClosExchange$OrderText" "kind" "I") (List.mem_of_getElem? (i := 1) rfl)) (fun _ h9 => h9) rfl dX2_readOrder_9 ?_
  refine lv_topi (fun y2 ey2 => ?_)
  by_cases c_y2_99 : w1 = (99 : Int32)
  · have hf := it_t hf c_y2_99
    obtain rfl := ey2.trans c_y2_99
    refine lv_tableIn (tgt := 84) hx hb dX2_readOrder_12 (by decide) (by decide) rfl (by decide) ?_
    refine lv_aload_n hx hb dX2_readOrder_84 rfl (lv_at hl 0 rfl) ?_
    refine lv_dup hx hb dX2_readOrder_85 rfl ?_
    refine va_get (D := D) (ci := 2) (v := .int (x.1 2)) (C := RX2) (T := TX2) (N := 6) hx hb hts inX2 hown hK.1 hP 0 rfl rfl 2 (by decide) (hts (.fieldLink RX2 28 "ClosExchange$OrderText" "place" "I") (List.mem_of_getElem? (i := 2) rfl)) (fun _ h9 => h9) rfl dX2_readOrder_86 ?_
    refine lv_iconst (v := (1 : Int32)) hx hb dX2_readOrder_89 kc_iconst_1 ?_
    refine lv_iadd hx hb dX2_readOrder_90 ?_
    obtain ⟨w3, hw3, hf⟩ := it_j hf
    rw [hw3]
    refine gput (D := D) (ci := 2) (v := .int w3) (ty := .int) (C := RX2) (T := TX2) (N := 6) (wf := (txW cI u (setF (setF x 3 w1) 2 w3))) hx hb hts inX2 tyX2 tyX2_ok nmX2 hown hK.1 hP hD hS 0 rfl rfl 2 (by decide) (hts (.fieldLink RX2 28 "ClosExchange$OrderText" "place" "I") (List.mem_of_getElem? (i := 2) rfl)) (fun _ h9 => h9) rfl (by decide +kernel) rfl rfl (Nat.le_of_ble_eq_true rfl) dX2_readOrder_91 rfl (fun H locs hP hD hS => ?_)
    refine lv_aload_n hx hb dX2_readOrder_94 rfl (lv_at hl 0 rfl) ?_
    refine lv_aload_n hx hb dX2_readOrder_95 rfl (lv_at hl 0 rfl) ?_
    refine lv_bipush (v := (47 : Int32)) hx hb dX2_readOrder_96 kc_bipush_47 ?_
    obtain ⟨v4, hv4, hf⟩ := it_b hf
    refine cBi (As := [.int (47 : Int32)]) (rest := [.ref (u 0)]) (q0 := 0) (ci := 2) [(true, (txW cI u (setF (setF x 3 w1) 2 w3)), (txW cI u v4.2))] ⟨ad_txt, (fun h => Bool.noConfusion h), trivial⟩ S (c_X2_readNumber l D cI cN u _ (setF (setF x 3 w1) 2 w3) (47 : Int32) v4.1 v4.2 hv4) (cwV 1 hts gX2_readOrder_X2_readNumber rfl rfl rfl (by decide +kernel) ⟨Nat.le_of_ble_eq_true rfl, Nat.le_of_ble_eq_true rfl⟩) hK hP hD hS hA rfl rfl rfl hl.1 rfl (Nat.le_of_ble_eq_true rfl) dX2_readOrder_98 ⟨Nat.zero_le _, Nat.zero_le _⟩ (fun H locs hP hD hS => ?_)
    refine gput (D := D) (ci := 2) (v := .int v4.1) (ty := .int) (C := RX2) (T := TX2) (N := 6) (wf := (txW cI u (setF v4.2 4 v4.1))) hx hb hts inX2 tyX2 tyX2_ok nmX2 hown hK.1 hP hD hS 0 rfl rfl 4 (by decide) (hts (.fieldLink RX2 53 "ClosExchange$OrderText" "first" "I") (List.mem_of_getElem? (i := 3) rfl)) (fun _ h9 => h9) rfl (by decide +kernel) rfl rfl (Nat.le_of_ble_eq_true rfl) dX2_readOrder_101 rfl (fun H locs hP hD hS => ?_)
    refine lv_aload_n hx hb dX2_readOrder_104 rfl (lv_at hl 0 rfl) ?_
    refine va_get (D := D) (ci := 2) (v := .int v4.1) (C := RX2) (T := TX2) (N := 6) hx hb hts inX2 hown hK.1 hP 0 rfl rfl 4 (by decide) (hts (.fieldLink RX2 53 "ClosExchange$OrderText" "first" "I") (List.mem_of_getElem? (i := 3) rfl)) (fun _ h9 => h9) rfl dX2_readOrder_105 ?_
    refine lv_if_lt (tgt := 120) hx hb dX2_readOrder_108 (by decide) (fun c5 => ?_) (fun c5 => ?_)
    · have hf := it_t hf c5
      refine lv_iconst (v := (0 : Int32)) hx hb dX2_readOrder_120 kc_iconst_0 ?_
      have e0 : (0 : Int32) = r0 := congrArg (fun z => z.1) (Option.some.inj hf)
      have e1 : (setF v4.2 4 v4.1) = x' := congrArg (fun z => z.2) (Option.some.inj hf)
      subst e0
      subst e1
      exact hret H locs ls _ dX2_readOrder_121 (by first | rfl | exact bo_in | (exact bo_isHere (by assumption))) hP hD hS
    · have hf := it_f hf c5
      refine lv_aload_n hx hb dX2_readOrder_111 rfl (lv_at hl 0 rfl) ?_
      refine lv_bipush (v := (45 : Int32)) hx hb dX2_readOrder_112 kc_bipush_45 ?_
      obtain ⟨v6, hv6, hf⟩ := it_j hf
      refine cBi (As := [.int (45 : Int32)]) (rest := []) (q0 := 0) (ci := 2) [(true, (txW cI u (setF v4.2 4 v4.1)), (txW cI u v6.2))] ⟨ad_txt, (fun h => Bool.noConfusion h), trivial⟩ S (c_X2_skip l D cI cN u _ (setF v4.2 4 v4.1) (45 : Int32) v6.1 v6.2 hv6) (cwV 1 hts gX2_readOrder_X2_skip rfl rfl rfl (by decide +kernel) ⟨Nat.le_of_ble_eq_true rfl, Nat.le_of_ble_eq_true rfl⟩) hK hP hD hS hA rfl rfl rfl hl.1 rfl (Nat.le_of_ble_eq_true rfl) dX2_readOrder_114 ⟨Nat.zero_le _, Nat.zero_le _⟩ (fun H locs hP hD hS => ?_)
      refine lv_if_ne (tgt := 122) hx hb dX2_readOrder_117 (by decide) (fun c7 => ?_) (fun c7 => ?_)
      · have hf := it_f hf c7
        refine lv_aload_n hx hb dX2_readOrder_122 rfl (lv_at hl 0 rfl) ?_
        refine lv_aload_n hx hb dX2_readOrder_123 rfl (lv_at hl 0 rfl) ?_
        refine lv_bipush (v := (47 : Int32)) hx hb dX2_readOrder_124 kc_bipush_47 ?_
        obtain ⟨v8, hv8, hf⟩ := it_b hf
        refine cBi (As := [.int (47 : Int32)]) (rest := [.ref (u 0)]) (q0 := 0) (ci := 2) [(true, (txW cI u v6.2), (txW cI u v8.2))] ⟨ad_txt, (fun h => Bool.noConfusion h), trivial⟩ S (c_X2_readNumber l D cI cN u _ v6.2 (47 : Int32) v8.1 v8.2 hv8) (cwV 1 hts gX2_readOrder_X2_readNumber rfl rfl rfl (by decide +kernel) ⟨Nat.le_of_ble_eq_true rfl, Nat.le_of_ble_eq_true rfl⟩) hK hP hD hS hA rfl rfl rfl hl.1 rfl (Nat.le_of_ble_eq_true rfl) dX2_readOrder_126 ⟨Nat.zero_le _, Nat.zero_le _⟩ (fun H locs hP hD hS => ?_)
        refine gput (D := D) (ci := 2) (v := .int v8.1) (ty := .int) (C := RX2) (T := TX2) (N := 6) (wf := (txW cI u (setF v8.2 5 v8.1))) hx hb hts inX2 tyX2 tyX2_ok nmX2 hown hK.1 hP hD hS 0 rfl rfl 5 (by decide) (hts (.fieldLink RX2 56 "ClosExchange$OrderText" "second" "I") (List.mem_of_getElem? (i := 4) rfl)) (fun _ h9 => h9) rfl (by decide +kernel) rfl rfl (Nat.le_of_ble_eq_true rfl) dX2_readOrder_129 rfl (fun H locs hP hD hS => ?_)
        refine lv_aload_n hx hb dX2_readOrder_132 rfl (lv_at hl 0 rfl) ?_
        refine va_get (D := D) (ci := 2) (v := .int v8.1) (C := RX2) (T := TX2) (N := 6) hx hb hts inX2 hown hK.1 hP 0 rfl rfl 5 (by decide) (hts (.fieldLink RX2 56 "ClosExchange$OrderText" "second" "I") (List.mem_of_getElem? (i := 4) rfl)) (fun _ h9 => h9) rfl dX2_readOrder_133 ?_
        refine lv_if_lt (tgt := 143) hx hb dX2_readOrder_136 (by decide) (fun c9 => ?_) (fun c9 => ?_)
        · have hf := it_t hf c9
          refine lv_iconst (v := (0 : Int32)) hx hb dX2_readOrder_143 kc_iconst_0 ?_
          have e0 : (0 : Int32) = r0 := congrArg (fun z => z.1) (Option.some.inj hf)
          have e1 : (setF v8.2 5 v8.1) = x' := congrArg (fun z => z.2) (Option.some.inj hf)
          subst e0
          subst e1
          exact hret H locs ls _ dX2_readOrder_144 (by first | rfl | exact bo_in | (exact bo_isHere (by assumption))) hP hD hS
        · have hf := it_f hf c9
          refine lv_iconst (v := (1 : Int32)) hx hb dX2_readOrder_139 kc_iconst_1 ?_
          refine lv_goto (tgt := 144) hx hb dX2_readOrder_140 (by decide) ?_
          have e0 : (1 : Int32) = r0 := congrArg (fun z => z.1) (Option.some.inj hf)
          have e1 : (setF v8.2 5 v8.1) = x' := congrArg (fun z => z.2) (Option.some.inj hf)
          subst e0
          subst e1
          exact hret H locs ls _ dX2_readOrder_144 (by first | rfl | exact bo_in | (exact bo_isHere (by assumption))) hP hD hS
      · have hf := it_t hf c7
        refine lv_iconst (v := (0 : Int32)) hx hb dX2_readOrder_120 kc_iconst_0 ?_
        have e0 : (0 : Int32) = r0 := congrArg (fun z => z.1) (Option.some.inj hf)
        have e1 : v6.2 = x' := congrArg (fun z => z.2) (Option.some.inj hf)
        subst e0
        subst e1
        exact hret H locs ls _ dX2_readOrder_121 (by first | rfl | exact bo_in | (exact bo_isHere (by assumption))) hP hD hS
  · have hf := it_f hf c_y2_99
    by_cases c_y2_100 : w1 = (100 : Int32)
    · have hf := it_t hf c_y2_100
      obtain rfl := ey2.trans c_y2_100
      refine lv_tableIn (tgt := 145) hx hb dX2_readOrder_12 (by decide) (by decide) rfl (by decide) ?_
      refine lv_aload_n hx hb dX2_readOrder_145 rfl (lv_at hl 0 rfl) ?_
      refine lv_dup hx hb dX2_readOrder_146 rfl ?_
      refine va_get (D := D) (ci := 2) (v := .int (x.1 2)) (C := RX2) (T := TX2) (N := 6) hx hb hts inX2 hown hK.1 hP 0 rfl rfl 2 (by decide) (hts (.fieldLink RX2 28 "ClosExchange$OrderText" "place" "I") (List.mem_of_getElem? (i := 2) rfl)) (fun _ h9 => h9) rfl dX2_readOrder_147 ?_
      refine lv_iconst (v := (1 : Int32)) hx hb dX2_readOrder_150 kc_iconst_1 ?_
      refine lv_iadd hx hb dX2_readOrder_151 ?_
      obtain ⟨w10, hw10, hf⟩ := it_j hf
      rw [hw10]
      refine gput (D := D) (ci := 2) (v := .int w10) (ty := .int) (C := RX2) (T := TX2) (N := 6) (wf := (txW cI u (setF (setF x 3 w1) 2 w10))) hx hb hts inX2 tyX2 tyX2_ok nmX2 hown hK.1 hP hD hS 0 rfl rfl 2 (by decide) (hts (.fieldLink RX2 28 "ClosExchange$OrderText" "place" "I") (List.mem_of_getElem? (i := 2) rfl)) (fun _ h9 => h9) rfl (by decide +kernel) rfl rfl (Nat.le_of_ble_eq_true rfl) dX2_readOrder_152 rfl (fun H locs hP hD hS => ?_)
      refine lv_aload_n hx hb dX2_readOrder_155 rfl (lv_at hl 0 rfl) ?_
      refine lv_aload_n hx hb dX2_readOrder_156 rfl (lv_at hl 0 rfl) ?_
      refine lv_bipush (v := (47 : Int32)) hx hb dX2_readOrder_157 kc_bipush_47 ?_
      obtain ⟨v11, hv11, hf⟩ := it_b hf
      refine cBi (As := [.int (47 : Int32)]) (rest := [.ref (u 0)]) (q0 := 0) (ci := 2) [(true, (txW cI u (setF (setF x 3 w1) 2 w10)), (txW cI u v11.2))] ⟨ad_txt, (fun h => Bool.noConfusion h), trivial⟩ S (c_X2_readNumber l D cI cN u _ (setF (setF x 3 w1) 2 w10) (47 : Int32) v11.1 v11.2 hv11) (cwV 1 hts gX2_readOrder_X2_readNumber rfl rfl rfl (by decide +kernel) ⟨Nat.le_of_ble_eq_true rfl, Nat.le_of_ble_eq_true rfl⟩) hK hP hD hS hA rfl rfl rfl hl.1 rfl (Nat.le_of_ble_eq_true rfl) dX2_readOrder_159 ⟨Nat.zero_le _, Nat.zero_le _⟩ (fun H locs hP hD hS => ?_)
      refine gput (D := D) (ci := 2) (v := .int v11.1) (ty := .int) (C := RX2) (T := TX2) (N := 6) (wf := (txW cI u (setF v11.2 4 v11.1))) hx hb hts inX2 tyX2 tyX2_ok nmX2 hown hK.1 hP hD hS 0 rfl rfl 4 (by decide) (hts (.fieldLink RX2 53 "ClosExchange$OrderText" "first" "I") (List.mem_of_getElem? (i := 3) rfl)) (fun _ h9 => h9) rfl (by decide +kernel) rfl rfl (Nat.le_of_ble_eq_true rfl) dX2_readOrder_162 rfl (fun H locs hP hD hS => ?_)
      refine lv_aload_n hx hb dX2_readOrder_165 rfl (lv_at hl 0 rfl) ?_
      refine va_get (D := D) (ci := 2) (v := .int v11.1) (C := RX2) (T := TX2) (N := 6) hx hb hts inX2 hown hK.1 hP 0 rfl rfl 4 (by decide) (hts (.fieldLink RX2 53 "ClosExchange$OrderText" "first" "I") (List.mem_of_getElem? (i := 3) rfl)) (fun _ h9 => h9) rfl dX2_readOrder_166 ?_
      refine lv_if_lt (tgt := 176) hx hb dX2_readOrder_169 (by decide) (fun c12 => ?_) (fun c12 => ?_)
      · have hf := it_t hf c12
        refine lv_iconst (v := (0 : Int32)) hx hb dX2_readOrder_176 kc_iconst_0 ?_
        have e0 : (0 : Int32) = r0 := congrArg (fun z => z.1) (Option.some.inj hf)
        have e1 : (setF v11.2 4 v11.1) = x' := congrArg (fun z => z.2) (Option.some.inj hf)
        subst e0
        subst e1
        exact hret H locs ls _ dX2_readOrder_177 (by first | rfl | exact bo_in | (exact bo_isHere (by assumption))) hP hD hS
      · have hf := it_f hf c12
        refine lv_iconst (v := (1 : Int32)) hx hb dX2_readOrder_172 kc_iconst_1 ?_
        refine lv_goto (tgt := 177) hx hb dX2_readOrder_173 (by decide) ?_
        have e0 : (1 : Int32) = r0 := congrArg (fun z => z.1) (Option.some.inj hf)
        have e1 : (setF v11.2 4 v11.1) = x' := congrArg (fun z => z.2) (Option.some.inj hf)
        subst e0
        subst e1
        exact hret H locs ls _ dX2_readOrder_177 (by first | rfl | exact bo_in | (exact bo_isHere (by assumption))) hP hD hS
    · have hf := it_f hf c_y2_100
      by_cases c_y2_101 : w1 = (101 : Int32)
      · have hf := it_t hf c_y2_101
        obtain rfl := ey2.trans c_y2_101
        refine lv_tableIn (tgt := 223) hx hb dX2_readOrder_12 (by decide) (by decide) rfl (by decide) ?_
        refine lv_iconst (v := (0 : Int32)) hx hb dX2_readOrder_223 kc_iconst_0 ?_
        have e0 : (0 : Int32) = r0 := congrArg (fun z => z.1) (Option.some.inj hf)
        have e1 : (setF x 3 w1) = x' := congrArg (fun z => z.2) (Option.some.inj hf)
        subst e0
        subst e1
        exact hret H locs ls _ dX2_readOrder_224 (by first | rfl | exact bo_in | (exact bo_isHere (by assumption))) hP hD hS
      · have hf := it_f hf c_y2_101
        by_cases c_y2_102 : w1 = (102 : Int32)
        · have hf := it_t hf c_y2_102
          obtain rfl := ey2.trans c_y2_102
          refine lv_tableIn (tgt := 223) hx hb dX2_readOrder_12 (by decide) (by decide) rfl (by decide) ?_
          refine lv_iconst (v := (0 : Int32)) hx hb dX2_readOrder_223 kc_iconst_0 ?_
          have e0 : (0 : Int32) = r0 := congrArg (fun z => z.1) (Option.some.inj hf)
          have e1 : (setF x 3 w1) = x' := congrArg (fun z => z.2) (Option.some.inj hf)
          subst e0
          subst e1
          exact hret H locs ls _ dX2_readOrder_224 (by first | rfl | exact bo_in | (exact bo_isHere (by assumption))) hP hD hS
        · have hf := it_f hf c_y2_102
          by_cases c_y2_103 : w1 = (103 : Int32)
          · have hf := it_t hf c_y2_103
            obtain rfl := ey2.trans c_y2_103
            refine lv_tableIn (tgt := 223) hx hb dX2_readOrder_12 (by decide) (by decide) rfl (by decide) ?_
            refine lv_iconst (v := (0 : Int32)) hx hb dX2_readOrder_223 kc_iconst_0 ?_
            have e0 : (0 : Int32) = r0 := congrArg (fun z => z.1) (Option.some.inj hf)
            have e1 : (setF x 3 w1) = x' := congrArg (fun z => z.2) (Option.some.inj hf)
            subst e0
            subst e1
            exact hret H locs ls _ dX2_readOrder_224 (by first | rfl | exact bo_in | (exact bo_isHere (by assumption))) hP hD hS
          · have hf := it_f hf c_y2_103
            by_cases c_y2_104 : w1 = (104 : Int32)
            · have hf := it_t hf c_y2_104
              obtain rfl := ey2.trans c_y2_104
              refine lv_tableIn (tgt := 223) hx hb dX2_readOrder_12 (by decide) (by decide) rfl (by decide) ?_
              refine lv_iconst (v := (0 : Int32)) hx hb dX2_readOrder_223 kc_iconst_0 ?_
              have e0 : (0 : Int32) = r0 := congrArg (fun z => z.1) (Option.some.inj hf)
              have e1 : (setF x 3 w1) = x' := congrArg (fun z => z.2) (Option.some.inj hf)
              subst e0
              subst e1
              exact hret H locs ls _ dX2_readOrder_224 (by first | rfl | exact bo_in | (exact bo_isHere (by assumption))) hP hD hS
            · have hf := it_f hf c_y2_104
              by_cases c_y2_105 : w1 = (105 : Int32)
              · have hf := it_t hf c_y2_105
                obtain rfl := ey2.trans c_y2_105
                refine lv_tableIn (tgt := 178) hx hb dX2_readOrder_12 (by decide) (by decide) rfl (by decide) ?_
                refine lv_aload_n hx hb dX2_readOrder_178 rfl (lv_at hl 0 rfl) ?_
                refine lv_dup hx hb dX2_readOrder_179 rfl ?_
                refine va_get (D := D) (ci := 2) (v := .int (x.1 2)) (C := RX2) (T := TX2) (N := 6) hx hb hts inX2 hown hK.1 hP 0 rfl rfl 2 (by decide) (hts (.fieldLink RX2 28 "ClosExchange$OrderText" "place" "I") (List.mem_of_getElem? (i := 2) rfl)) (fun _ h9 => h9) rfl dX2_readOrder_180 ?_
                refine lv_iconst (v := (1 : Int32)) hx hb dX2_readOrder_183 kc_iconst_1 ?_
                refine lv_iadd hx hb dX2_readOrder_184 ?_
                obtain ⟨w13, hw13, hf⟩ := it_j hf
                rw [hw13]
                refine gput (D := D) (ci := 2) (v := .int w13) (ty := .int) (C := RX2) (T := TX2) (N := 6) (wf := (txW cI u (setF (setF x 3 w1) 2 w13))) hx hb hts inX2 tyX2 tyX2_ok nmX2 hown hK.1 hP hD hS 0 rfl rfl 2 (by decide) (hts (.fieldLink RX2 28 "ClosExchange$OrderText" "place" "I") (List.mem_of_getElem? (i := 2) rfl)) (fun _ h9 => h9) rfl (by decide +kernel) rfl rfl (Nat.le_of_ble_eq_true rfl) dX2_readOrder_185 rfl (fun H locs hP hD hS => ?_)
                refine lv_aload_n hx hb dX2_readOrder_188 rfl (lv_at hl 0 rfl) ?_
                refine lv_aload_n hx hb dX2_readOrder_189 rfl (lv_at hl 0 rfl) ?_
                refine lv_bipush (v := (7 : Int32)) hx hb dX2_readOrder_190 kc_bipush_7 ?_
                obtain ⟨v14, hv14, hf⟩ := it_b hf
                refine cBi (As := [.int (7 : Int32)]) (rest := [.ref (u 0)]) (q0 := 0) (ci := 2) [(true, (txW cI u (setF (setF x 3 w1) 2 w13)), (txW cI u v14.2))] ⟨ad_txt, (fun h => Bool.noConfusion h), trivial⟩ S (c_X2_readNumber l D cI cN u _ (setF (setF x 3 w1) 2 w13) (7 : Int32) v14.1 v14.2 hv14) (cwV 1 hts gX2_readOrder_X2_readNumber rfl rfl rfl (by decide +kernel) ⟨Nat.le_of_ble_eq_true rfl, Nat.le_of_ble_eq_true rfl⟩) hK hP hD hS hA rfl rfl rfl hl.1 rfl (Nat.le_of_ble_eq_true rfl) dX2_readOrder_192 ⟨Nat.zero_le _, Nat.zero_le _⟩ (fun H locs hP hD hS => ?_)
                refine gput (D := D) (ci := 2) (v := .int v14.1) (ty := .int) (C := RX2) (T := TX2) (N := 6) (wf := (txW cI u (setF v14.2 4 v14.1))) hx hb hts inX2 tyX2 tyX2_ok nmX2 hown hK.1 hP hD hS 0 rfl rfl 4 (by decide) (hts (.fieldLink RX2 53 "ClosExchange$OrderText" "first" "I") (List.mem_of_getElem? (i := 3) rfl)) (fun _ h9 => h9) rfl (by decide +kernel) rfl rfl (Nat.le_of_ble_eq_true rfl) dX2_readOrder_195 rfl (fun H locs hP hD hS => ?_)
                refine lv_aload_n hx hb dX2_readOrder_198 rfl (lv_at hl 0 rfl) ?_
                refine va_get (D := D) (ci := 2) (v := .int v14.1) (C := RX2) (T := TX2) (N := 6) hx hb hts inX2 hown hK.1 hP 0 rfl rfl 4 (by decide) (hts (.fieldLink RX2 53 "ClosExchange$OrderText" "first" "I") (List.mem_of_getElem? (i := 3) rfl)) (fun _ h9 => h9) rfl dX2_readOrder_199 ?_
                refine lv_if_lt (tgt := 209) hx hb dX2_readOrder_202 (by decide) (fun c15 => ?_) (fun c15 => ?_)
                · have hf := it_t hf c15
                  refine lv_iconst (v := (0 : Int32)) hx hb dX2_readOrder_209 kc_iconst_0 ?_
                  have e0 : (0 : Int32) = r0 := congrArg (fun z => z.1) (Option.some.inj hf)
                  have e1 : (setF v14.2 4 v14.1) = x' := congrArg (fun z => z.2) (Option.some.inj hf)
                  subst e0
                  subst e1
                  exact hret H locs ls _ dX2_readOrder_210 (by first | rfl | exact bo_in | (exact bo_isHere (by assumption))) hP hD hS
                · have hf := it_f hf c15
                  refine lv_iconst (v := (1 : Int32)) hx hb dX2_readOrder_205 kc_iconst_1 ?_
                  refine lv_goto (tgt := 210) hx hb dX2_readOrder_206 (by decide) ?_
                  have e0 : (1 : Int32) = r0 := congrArg (fun z => z.1) (Option.some.inj hf)
                  have e1 : (setF v14.2 4 v14.1) = x' := congrArg (fun z => z.2) (Option.some.inj hf)
                  subst e0
                  subst e1
                  exact hret H locs ls _ dX2_readOrder_210 (by first | rfl | exact bo_in | (exact bo_isHere (by assumption))) hP hD hS
              · have hf := it_f hf c_y2_105
                by_cases c_y2_106 : w1 = (106 : Int32)
                · have hf := it_t hf c_y2_106
                  obtain rfl := ey2.trans c_y2_106
                  refine lv_tableIn (tgt := 223) hx hb dX2_readOrder_12 (by decide) (by decide) rfl (by decide) ?_
                  refine lv_iconst (v := (0 : Int32)) hx hb dX2_readOrder_223 kc_iconst_0 ?_
                  have e0 : (0 : Int32) = r0 := congrArg (fun z => z.1) (Option.some.inj hf)
                  have e1 : (setF x 3 w1) = x' := congrArg (fun z => z.2) (Option.some.inj hf)
                  subst e0
                  subst e1
                  exact hret H locs ls _ dX2_readOrder_224 (by first | rfl | exact bo_in | (exact bo_isHere (by assumption))) hP hD hS
                · have hf := it_f hf c_y2_106
                  by_cases c_y2_107 : w1 = (107 : Int32)
                  · have hf := it_t hf c_y2_107
                    obtain rfl := ey2.trans c_y2_107
                    refine lv_tableIn (tgt := 223) hx hb dX2_readOrder_12 (by decide) (by decide) rfl (by decide) ?_
                    refine lv_iconst (v := (0 : Int32)) hx hb dX2_readOrder_223 kc_iconst_0 ?_
                    have e0 : (0 : Int32) = r0 := congrArg (fun z => z.1) (Option.some.inj hf)
                    have e1 : (setF x 3 w1) = x' := congrArg (fun z => z.2) (Option.some.inj hf)
                    subst e0
                    subst e1
                    exact hret H locs ls _ dX2_readOrder_224 (by first | rfl | exact bo_in | (exact bo_isHere (by assumption))) hP hD hS
                  · have hf := it_f hf c_y2_107
                    by_cases c_y2_108 : w1 = (108 : Int32)
                    · have hf := it_t hf c_y2_108
                      obtain rfl := ey2.trans c_y2_108
                      refine lv_tableIn (tgt := 223) hx hb dX2_readOrder_12 (by decide) (by decide) rfl (by decide) ?_
                      refine lv_iconst (v := (0 : Int32)) hx hb dX2_readOrder_223 kc_iconst_0 ?_
                      have e0 : (0 : Int32) = r0 := congrArg (fun z => z.1) (Option.some.inj hf)
                      have e1 : (setF x 3 w1) = x' := congrArg (fun z => z.2) (Option.some.inj hf)
                      subst e0
                      subst e1
                      exact hret H locs ls _ dX2_readOrder_224 (by first | rfl | exact bo_in | (exact bo_isHere (by assumption))) hP hD hS
                    · have hf := it_f hf c_y2_108
                      by_cases c_y2_109 : w1 = (109 : Int32)
                      · have hf := it_t hf c_y2_109
                        obtain rfl := ey2.trans c_y2_109
                        refine lv_tableIn (tgt := 223) hx hb dX2_readOrder_12 (by decide) (by decide) rfl (by decide) ?_
                        refine lv_iconst (v := (0 : Int32)) hx hb dX2_readOrder_223 kc_iconst_0 ?_
                        have e0 : (0 : Int32) = r0 := congrArg (fun z => z.1) (Option.some.inj hf)
                        have e1 : (setF x 3 w1) = x' := congrArg (fun z => z.2) (Option.some.inj hf)
                        subst e0
                        subst e1
                        exact hret H locs ls _ dX2_readOrder_224 (by first | rfl | exact bo_in | (exact bo_isHere (by assumption))) hP hD hS
                      · have hf := it_f hf c_y2_109
                        by_cases c_y2_110 : w1 = (110 : Int32)
                        · have hf := it_t hf c_y2_110
                          obtain rfl := ey2.trans c_y2_110
                          refine lv_tableIn (tgt := 223) hx hb dX2_readOrder_12 (by decide) (by decide) rfl (by decide) ?_
                          refine lv_iconst (v := (0 : Int32)) hx hb dX2_readOrder_223 kc_iconst_0 ?_
                          have e0 : (0 : Int32) = r0 := congrArg (fun z => z.1) (Option.some.inj hf)
                          have e1 : (setF x 3 w1) = x' := congrArg (fun z => z.2) (Option.some.inj hf)
                          subst e0
                          subst e1
                          exact hret H locs ls _ dX2_readOrder_224 (by first | rfl | exact bo_in | (exact bo_isHere (by assumption))) hP hD hS
                        · have hf := it_f hf c_y2_110
                          by_cases c_y2_111 : w1 = (111 : Int32)
                          · have hf := it_t hf c_y2_111
                            obtain rfl := ey2.trans c_y2_111
                            refine lv_tableIn (tgt := 178) hx hb dX2_readOrder_12 (by decide) (by decide) rfl (by decide) ?_
                            refine lv_aload_n hx hb dX2_readOrder_178 rfl (lv_at hl 0 rfl) ?_
                            refine lv_dup hx hb dX2_readOrder_179 rfl ?_
                            refine va_get (D := D) (ci := 2) (v := .int (x.1 2)) (C := RX2) (T := TX2) (N := 6) hx hb hts inX2 hown hK.1 hP 0 rfl rfl 2 (by decide) (hts (.fieldLink RX2 28 "ClosExchange$OrderText" "place" "I") (List.mem_of_getElem? (i := 2) rfl)) (fun _ h9 => h9) rfl dX2_readOrder_180 ?_
                            refine lv_iconst (v := (1 : Int32)) hx hb dX2_readOrder_183 kc_iconst_1 ?_
                            refine lv_iadd hx hb dX2_readOrder_184 ?_
                            obtain ⟨w16, hw16, hf⟩ := it_j hf
                            rw [hw16]
                            refine gput (D := D) (ci := 2) (v := .int w16) (ty := .int) (C := RX2) (T := TX2) (N := 6) (wf := (txW cI u (setF (setF x 3 w1) 2 w16))) hx hb hts inX2 tyX2 tyX2_ok nmX2 hown hK.1 hP hD hS 0 rfl rfl 2 (by decide) (hts (.fieldLink RX2 28 "ClosExchange$OrderText" "place" "I") (List.mem_of_getElem? (i := 2) rfl)) (fun _ h9 => h9) rfl (by decide +kernel) rfl rfl (Nat.le_of_ble_eq_true rfl) dX2_readOrder_185 rfl (fun H locs hP hD hS => ?_)
                            refine lv_aload_n hx hb dX2_readOrder_188 rfl (lv_at hl 0 rfl) ?_
                            refine lv_aload_n hx hb dX2_readOrder_189 rfl (lv_at hl 0 rfl) ?_
                            refine lv_bipush (v := (7 : Int32)) hx hb dX2_readOrder_190 kc_bipush_7 ?_
                            obtain ⟨v17, hv17, hf⟩ := it_b hf
                            refine cBi (As := [.int (7 : Int32)]) (rest := [.ref (u 0)]) (q0 := 0) (ci := 2) [(true, (txW cI u (setF (setF x 3 w1) 2 w16)), (txW cI u v17.2))] ⟨ad_txt, (fun h => Bool.noConfusion h), trivial⟩ S (c_X2_readNumber l D cI cN u _ (setF (setF x 3 w1) 2 w16) (7 : Int32) v17.1 v17.2 hv17) (cwV 1 hts gX2_readOrder_X2_readNumber rfl rfl rfl (by decide +kernel) ⟨Nat.le_of_ble_eq_true rfl, Nat.le_of_ble_eq_true rfl⟩) hK hP hD hS hA rfl rfl rfl hl.1 rfl (Nat.le_of_ble_eq_true rfl) dX2_readOrder_192 ⟨Nat.zero_le _, Nat.zero_le _⟩ (fun H locs hP hD hS => ?_)
                            refine gput (D := D) (ci := 2) (v := .int v17.1) (ty := .int) (C := RX2) (T := TX2) (N := 6) (wf := (txW cI u (setF v17.2 4 v17.1))) hx hb hts inX2 tyX2 tyX2_ok nmX2 hown hK.1 hP hD hS 0 rfl rfl 4 (by decide) (hts (.fieldLink RX2 53 "ClosExchange$OrderText" "first" "I") (List.mem_of_getElem? (i := 3) rfl)) (fun _ h9 => h9) rfl (by decide +kernel) rfl rfl (Nat.le_of_ble_eq_true rfl) dX2_readOrder_195 rfl (fun H locs hP hD hS => ?_)
                            refine lv_aload_n hx hb dX2_readOrder_198 rfl (lv_at hl 0 rfl) ?_
                            refine va_get (D := D) (ci := 2) (v := .int v17.1) (C := RX2) (T := TX2) (N := 6) hx hb hts inX2 hown hK.1 hP 0 rfl rfl 4 (by decide) (hts (.fieldLink RX2 53 "ClosExchange$OrderText" "first" "I") (List.mem_of_getElem? (i := 3) rfl)) (fun _ h9 => h9) rfl dX2_readOrder_199 ?_
                            refine lv_if_lt (tgt := 209) hx hb dX2_readOrder_202 (by decide) (fun c18 => ?_) (fun c18 => ?_)
                            · have hf := it_t hf c18
                              refine lv_iconst (v := (0 : Int32)) hx hb dX2_readOrder_209 kc_iconst_0 ?_
                              have e0 : (0 : Int32) = r0 := congrArg (fun z => z.1) (Option.some.inj hf)
                              have e1 : (setF v17.2 4 v17.1) = x' := congrArg (fun z => z.2) (Option.some.inj hf)
                              subst e0
                              subst e1
                              exact hret H locs ls _ dX2_readOrder_210 (by first | rfl | exact bo_in | (exact bo_isHere (by assumption))) hP hD hS
                            · have hf := it_f hf c18
                              refine lv_iconst (v := (1 : Int32)) hx hb dX2_readOrder_205 kc_iconst_1 ?_
                              refine lv_goto (tgt := 210) hx hb dX2_readOrder_206 (by decide) ?_
                              have e0 : (1 : Int32) = r0 := congrArg (fun z => z.1) (Option.some.inj hf)
                              have e1 : (setF v17.2 4 v17.1) = x' := congrArg (fun z => z.2) (Option.some.inj hf)
                              subst e0
                              subst e1
                              exact hret H locs ls _ dX2_readOrder_210 (by first | rfl | exact bo_in | (exact bo_isHere (by assumption))) hP hD hS
                          · have hf := it_f hf c_y2_111
                            by_cases c_y2_112 : w1 = (112 : Int32)
                            · have hf := it_t hf c_y2_112
                              obtain rfl := ey2.trans c_y2_112
                              refine lv_tableIn (tgt := 211) hx hb dX2_readOrder_12 (by decide) (by decide) rfl (by decide) ?_
                              refine lv_aload_n hx hb dX2_readOrder_211 rfl (lv_at hl 0 rfl) ?_
                              refine lv_dup hx hb dX2_readOrder_212 rfl ?_
                              refine va_get (D := D) (ci := 2) (v := .int (x.1 2)) (C := RX2) (T := TX2) (N := 6) hx hb hts inX2 hown hK.1 hP 0 rfl rfl 2 (by decide) (hts (.fieldLink RX2 28 "ClosExchange$OrderText" "place" "I") (List.mem_of_getElem? (i := 2) rfl)) (fun _ h9 => h9) rfl dX2_readOrder_213 ?_
                              refine lv_iconst (v := (1 : Int32)) hx hb dX2_readOrder_216 kc_iconst_1 ?_
                              refine lv_iadd hx hb dX2_readOrder_217 ?_
                              obtain ⟨w19, hw19, hf⟩ := it_j hf
                              rw [hw19]
                              refine gput (D := D) (ci := 2) (v := .int w19) (ty := .int) (C := RX2) (T := TX2) (N := 6) (wf := (txW cI u (setF (setF x 3 w1) 2 w19))) hx hb hts inX2 tyX2 tyX2_ok nmX2 hown hK.1 hP hD hS 0 rfl rfl 2 (by decide) (hts (.fieldLink RX2 28 "ClosExchange$OrderText" "place" "I") (List.mem_of_getElem? (i := 2) rfl)) (fun _ h9 => h9) rfl (by decide +kernel) rfl rfl (Nat.le_of_ble_eq_true rfl) dX2_readOrder_218 rfl (fun H locs hP hD hS => ?_)
                              refine lv_iconst (v := (1 : Int32)) hx hb dX2_readOrder_221 kc_iconst_1 ?_
                              have e0 : (1 : Int32) = r0 := congrArg (fun z => z.1) (Option.some.inj hf)
                              have e1 : (setF (setF x 3 w1) 2 w19) = x' := congrArg (fun z => z.2) (Option.some.inj hf)
                              subst e0
                              subst e1
                              exact hret H locs ls _ dX2_readOrder_222 (by first | rfl | exact bo_in | (exact bo_isHere (by assumption))) hP hD hS
                            · have hf := it_f hf c_y2_112
                              refine lv_tableOut (tgt := 223) hx hb dX2_readOrder_12 (by have h0 := lv_neT (x := y2) (fun h => c_y2_99 (ey2.symm.trans h)) (a := 99) (by decide); have h1 := lv_neT (x := y2) (fun h => c_y2_100 (ey2.symm.trans h)) (a := 100) (by decide); have h2 := lv_neT (x := y2) (fun h => c_y2_101 (ey2.symm.trans h)) (a := 101) (by decide); have h3 := lv_neT (x := y2) (fun h => c_y2_102 (ey2.symm.trans h)) (a := 102) (by decide); have h4 := lv_neT (x := y2) (fun h => c_y2_103 (ey2.symm.trans h)) (a := 103) (by decide); have h5 := lv_neT (x := y2) (fun h => c_y2_104 (ey2.symm.trans h)) (a := 104) (by decide); have h6 := lv_neT (x := y2) (fun h => c_y2_105 (ey2.symm.trans h)) (a := 105) (by decide); have h7 := lv_neT (x := y2) (fun h => c_y2_106 (ey2.symm.trans h)) (a := 106) (by decide); have h8 := lv_neT (x := y2) (fun h => c_y2_107 (ey2.symm.trans h)) (a := 107) (by decide); have h9 := lv_neT (x := y2) (fun h => c_y2_108 (ey2.symm.trans h)) (a := 108) (by decide); have h10 := lv_neT (x := y2) (fun h => c_y2_109 (ey2.symm.trans h)) (a := 109) (by decide); have h11 := lv_neT (x := y2) (fun h => c_y2_110 (ey2.symm.trans h)) (a := 110) (by decide); have h12 := lv_neT (x := y2) (fun h => c_y2_111 (ey2.symm.trans h)) (a := 111) (by decide); have h13 := lv_neT (x := y2) (fun h => c_y2_112 (ey2.symm.trans h)) (a := 112) (by decide); omega) (by decide) ?_
                              refine lv_iconst (v := (0 : Int32)) hx hb dX2_readOrder_223 kc_iconst_0 ?_
                              have e0 : (0 : Int32) = r0 := congrArg (fun z => z.1) (Option.some.inj hf)
                              have e1 : (setF x 3 w1) = x' := congrArg (fun z => z.2) (Option.some.inj hf)
                              subst e0
                              subst e1
                              exact hret H locs ls _ dX2_readOrder_224 (by first | rfl | exact bo_in | (exact bo_isHere (by assumption))) hP hD hS
set_option maxRecDepth 100000 in
theorem c_X2_readOrder (l : Launch) (D : va_G) (cI cN : ClassId) (u : Nat → Nat) (sz : Nat) (x : OS) (r0 : Int32) (x' : OS) (hf : fX2_readOrder x = some (r0, x')) : CtI l D cI cN yX2_readOrder wsX2_readOrder rm_X2_readOrder 0 0 [.ref (u 0)] (txW cI u x) sz r0 (txW cI u x') := by
  refine mW (cc := cX2_readOrder) (maxL := 1) (ty := .boolean) (by decide) rfl rfl (Nat.le_of_ble_eq_true rfl) ?_
  intro p e s m args below meth c Q A S hK hP hD hS hA hret ls hl
  exact w_X2_readOrder_0 S hK hA hret hf _ _ _ hP hD hS (lv_sub (show lv_has ls 1 [(0, .ref (u 0))] from hl) [0] rfl)
abbrev rm_X2_findFault : Room := { frames := 4, cells := 0, slots := 0, locals := 86 }
theorem in_X2_findFault_X2 : ∀ w ∈ u_ws RX2 TX2 6, w ∈ wsX2_findFault := fun w h => List.mem_cons_of_mem _ (List.mem_append_left _ (List.mem_append_right _ h))
set_option maxRecDepth 100000 in
set_option maxHeartbeats 4000000 in
theorem w_X2_findFault_6 {p : Program} {l : Launch} {e : Env} {s : State} {m : MethodId} {args : Array Value} {below : List Frame} {meth : Method} {c : Code} {Q : State → Prop} {D : va_G} {cI cN : ClassId} {A : Nat → Prop} {u : Nat → Nat} (S : CallFix p m c cX2_findFault 2 s args wsX2_findFault RX2) (hK : KN D cI cN s) (hA : ∀ q : Nat, s.heap.size ≤ q → A q) {r0 : Int32} {x' : OS} (hret : ∀ (H : Heap) (locs : List Loc) (ls : Array Slot) (pc : Nat), decode cX2_findFault pc = .ok (.ireturn, 1) → narrow .int (.int r0) = .int r0 → va_P D vwCl (txW cI u x') H → va_D A (txW cI u x') → va_S A s.heap H locs → W p l e (headSpec wsX2_findFault rm_X2_findFault).room s m args below meth c H locs 0 0 Q (F0 m pc ls [.int r0])) : ∀ (k : Nat) (x1 : Int32) (x : OS), fX2_findFault_6  k x1 x = some (r0, x') → ∀ (H : Heap) (locs : List Loc) (ls : Array Slot), va_P D vwCl (txW cI u x) H → va_D A (txW cI u x) → va_S A s.heap H locs → lv_has ls 2 [(0, .ref (u 0)), (1, .int x1)] → W p l e (headSpec wsX2_findFault rm_X2_findFault).room s m args below meth c H locs 0 0 Q (F0 m 6 ls []) := by
  obtain ⟨hx, hb, hml, hown, hts⟩ := id S
  have inX2 := in_X2_findFault_X2
  intro k
  induction k with
  | zero => intro x1 x hf; rw [fX2_findFault_6_z] at hf; cases hf
  | succ k ih =>
    intro x1 x hf H locs ls hP hD hS hl
    rw [fX2_findFault_6_s] at hf
    refine lv_iload_n hx hb dX2_findFault_6 rfl (lv_at hl 1 rfl) ?_
    refine lv_bipush (v := (60 : Int32)) hx hb dX2_findFault_7 kc_bipush_60 ?_
    refine lv_icmp_ge (tgt := 53) hx hb dX2_findFault_9 (by decide) (fun c2 => ?_) (fun c2 => ?_)
    · have hf := it_t hf c2
      refine lv_aload_n hx hb dX2_findFault_53 rfl (lv_at hl 0 rfl) ?_
      refine va_get (D := D) (ci := 2) (v := .int (x.1 2)) (C := RX2) (T := TX2) (N := 6) hx hb hts inX2 hown hK.1 hP 0 rfl rfl 2 (by decide) (hts (.fieldLink RX2 28 "ClosExchange$OrderText" "place" "I") (List.mem_of_getElem? (i := 1) rfl)) (fun _ h9 => h9) rfl dX2_findFault_54 ?_
      have e0 : (x.1 2) = r0 := congrArg (fun z => z.1) (Option.some.inj hf)
      have e1 : x = x' := congrArg (fun z => z.2) (Option.some.inj hf)
      subst e0
      subst e1
      exact hret H locs ls _ dX2_findFault_57 rfl hP hD hS
    · have hf := it_f hf c2
      refine lv_aload_n hx hb dX2_findFault_12 rfl (lv_at hl 0 rfl) ?_
      obtain ⟨v3, hv3, hf⟩ := it_b hf
      refine cBi (As := []) (rest := []) (q0 := 0) (ci := 2) [(true, (txW cI u x), (txW cI u v3.2))] ⟨ad_txt, (fun h => Bool.noConfusion h), trivial⟩ S (c_X2_readOrder l D cI cN u _ x v3.1 v3.2 hv3) (cwV 0 hts gX2_findFault_X2_readOrder rfl rfl rfl (by decide +kernel) ⟨Nat.le_of_ble_eq_true rfl, Nat.le_of_ble_eq_true rfl⟩) hK hP hD hS hA rfl rfl rfl hl.1 rfl (Nat.le_of_ble_eq_true rfl) dX2_findFault_13 ⟨Nat.zero_le _, Nat.zero_le _⟩ (fun H locs hP hD hS => ?_)
      refine lv_if_eq (tgt := 53) hx hb dX2_findFault_16 (by decide) (fun c4 => ?_) (fun c4 => ?_)
      · have hf := it_t hf c4
        refine lv_aload_n hx hb dX2_findFault_53 rfl (lv_at hl 0 rfl) ?_
        refine va_get (D := D) (ci := 2) (v := .int (v3.2.1 2)) (C := RX2) (T := TX2) (N := 6) hx hb hts inX2 hown hK.1 hP 0 rfl rfl 2 (by decide) (hts (.fieldLink RX2 28 "ClosExchange$OrderText" "place" "I") (List.mem_of_getElem? (i := 1) rfl)) (fun _ h9 => h9) rfl dX2_findFault_54 ?_
        have e0 : (v3.2.1 2) = r0 := congrArg (fun z => z.1) (Option.some.inj hf)
        have e1 : v3.2 = x' := congrArg (fun z => z.2) (Option.some.inj hf)
        subst e0
        subst e1
        exact hret H locs ls _ dX2_findFault_57 rfl hP hD hS
      · have hf := it_f hf c4
        refine lv_aload_n hx hb dX2_findFault_19 rfl (lv_at hl 0 rfl) ?_
        refine va_get (D := D) (ci := 2) (v := .int (v3.2.1 2)) (C := RX2) (T := TX2) (N := 6) hx hb hts inX2 hown hK.1 hP 0 rfl rfl 2 (by decide) (hts (.fieldLink RX2 28 "ClosExchange$OrderText" "place" "I") (List.mem_of_getElem? (i := 1) rfl)) (fun _ h9 => h9) rfl dX2_findFault_20 ?_
        refine lv_aload_n hx hb dX2_findFault_23 rfl (lv_at hl 0 rfl) ?_
        refine va_get (D := D) (ci := 2) (v := .int (v3.2.1 1)) (C := RX2) (T := TX2) (N := 6) hx hb hts inX2 hown hK.1 hP 0 rfl rfl 1 (by decide) (hts (.fieldLink RX2 20 "ClosExchange$OrderText" "length" "I") (List.mem_of_getElem? (i := 2) rfl)) (fun _ h9 => h9) rfl dX2_findFault_24 ?_
        refine lv_icmp_lt (tgt := 33) hx hb dX2_findFault_27 (by decide) (fun c5 => ?_) (fun c5 => ?_)
        · have hf := it_t hf c5
          refine lv_aload_n hx hb dX2_findFault_33 rfl (lv_at hl 0 rfl) ?_
          refine lv_bipush (v := (59 : Int32)) hx hb dX2_findFault_34 kc_bipush_59 ?_
          obtain ⟨v6, hv6, hf⟩ := it_j hf
          refine cBi (As := [.int (59 : Int32)]) (rest := []) (q0 := 0) (ci := 2) [(true, (txW cI u v3.2), (txW cI u v6.2))] ⟨ad_txt, (fun h => Bool.noConfusion h), trivial⟩ S (c_X2_skip l D cI cN u _ v3.2 (59 : Int32) v6.1 v6.2 hv6) (cwV 1 hts gX2_findFault_X2_skip rfl rfl rfl (by decide +kernel) ⟨Nat.le_of_ble_eq_true rfl, Nat.le_of_ble_eq_true rfl⟩) hK hP hD hS hA rfl rfl rfl hl.1 rfl (Nat.le_of_ble_eq_true rfl) dX2_findFault_36 ⟨Nat.zero_le _, Nat.zero_le _⟩ (fun H locs hP hD hS => ?_)
          refine lv_if_ne (tgt := 47) hx hb dX2_findFault_39 (by decide) (fun c7 => ?_) (fun c7 => ?_)
          · have hf := it_f hf c7
            refine lv_iinc (v := (x1 + (1 : Int32))) (lv' := [(1, .int (x1 + (1 : Int32))), (0, .ref (u 0))]) hx hb dX2_findFault_47 hl (k := 1) rfl rfl (by decide) rfl (fun ls hl => ?_)
            refine lv_goto (tgt := 6) hx hb dX2_findFault_50 (by decide) ?_
            exact ih _ _ hf H locs ls hP hD hS (lv_sub hl [1, 0] rfl)
          · have hf := it_t hf c7
            refine lv_aload_n hx hb dX2_findFault_42 rfl (lv_at hl 0 rfl) ?_
            refine va_get (D := D) (ci := 2) (v := .int (v6.2.1 2)) (C := RX2) (T := TX2) (N := 6) hx hb hts inX2 hown hK.1 hP 0 rfl rfl 2 (by decide) (hts (.fieldLink RX2 28 "ClosExchange$OrderText" "place" "I") (List.mem_of_getElem? (i := 1) rfl)) (fun _ h9 => h9) rfl dX2_findFault_43 ?_
            have e0 : (v6.2.1 2) = r0 := congrArg (fun z => z.1) (Option.some.inj hf)
            have e1 : v6.2 = x' := congrArg (fun z => z.2) (Option.some.inj hf)
            subst e0
            subst e1
            exact hret H locs ls _ dX2_findFault_46 rfl hP hD hS
        · have hf := it_f hf c5
          refine lv_bipush (v := (-6 : Int32)) hx hb dX2_findFault_30 kc_bipush_m6 ?_
          have e0 : (-6 : Int32) = r0 := congrArg (fun z => z.1) (Option.some.inj hf)
          have e1 : v3.2 = x' := congrArg (fun z => z.2) (Option.some.inj hf)
          subst e0
          subst e1
          exact hret H locs ls _ dX2_findFault_32 rfl hP hD hS
set_option maxRecDepth 100000 in
set_option maxHeartbeats 4000000 in
theorem w_X2_findFault_0 {p : Program} {l : Launch} {e : Env} {s : State} {m : MethodId} {args : Array Value} {below : List Frame} {meth : Method} {c : Code} {Q : State → Prop} {D : va_G} {cI cN : ClassId} {A : Nat → Prop} {u : Nat → Nat} (S : CallFix p m c cX2_findFault 2 s args wsX2_findFault RX2) (hK : KN D cI cN s) (hA : ∀ q : Nat, s.heap.size ≤ q → A q) {x : OS} {r0 : Int32} {x' : OS} (hret : ∀ (H : Heap) (locs : List Loc) (ls : Array Slot) (pc : Nat), decode cX2_findFault pc = .ok (.ireturn, 1) → narrow .int (.int r0) = .int r0 → va_P D vwCl (txW cI u x') H → va_D A (txW cI u x') → va_S A s.heap H locs → W p l e (headSpec wsX2_findFault rm_X2_findFault).room s m args below meth c H locs 0 0 Q (F0 m pc ls [.int r0])) (hf : fX2_findFault x = some (r0, x')) (H : Heap) (locs : List Loc) (ls : Array Slot) (hP : va_P D vwCl (txW cI u x) H) (hD : va_D A (txW cI u x)) (hS : va_S A s.heap H locs) (hl : lv_has ls 2 [(0, .ref (u 0))]) : W p l e (headSpec wsX2_findFault rm_X2_findFault).room s m args below meth c H locs 0 0 Q (F0 m 0 ls []) := by
  obtain ⟨hx, hb, hml, hown, hts⟩ := id S
  have inX2 := in_X2_findFault_X2
  unfold fX2_findFault at hf
  refine lv_aload_n hx hb dX2_findFault_0 rfl (lv_at hl 0 rfl) ?_
  obtain ⟨v1, hv1, hf⟩ := it_j hf
  refine cBv (As := []) (rest := []) (q0 := 0) (ci := 2) [(true, (txW cI u x), (txW cI u v1))] ⟨ad_txt, (fun h => Bool.noConfusion h), trivial⟩ S (c_X2_rewind l D cI cN u _ x v1 hv1) (cwV 0 hts gX2_findFault_X2_rewind rfl rfl rfl (by decide +kernel) ⟨Nat.le_of_ble_eq_true rfl, Nat.le_of_ble_eq_true rfl⟩) hK hP hD hS hA rfl rfl rfl hl.1 rfl (Nat.le_of_ble_eq_true rfl) dX2_findFault_1 ⟨Nat.zero_le _, Nat.zero_le _⟩ (fun H locs hP hD hS => ?_)
  refine lv_iconst (v := (0 : Int32)) hx hb dX2_findFault_4 kc_iconst_0 ?_
  refine lv_istore_n (lv' := [(1, .int (0 : Int32)), (0, .ref (u 0))]) hx hb dX2_findFault_5 rfl hl (by decide) rfl (fun ls hl => ?_)
  exact w_X2_findFault_6 S hK hA hret _ _ _ hf H locs ls hP hD hS (lv_sub hl [1, 0] rfl)
set_option maxRecDepth 100000 in
theorem c_X2_findFault (l : Launch) (D : va_G) (cI cN : ClassId) (u : Nat → Nat) (sz : Nat) (x : OS) (r0 : Int32) (x' : OS) (hf : fX2_findFault x = some (r0, x')) : CtI l D cI cN yX2_findFault wsX2_findFault rm_X2_findFault 0 0 [.ref (u 0)] (txW cI u x) sz r0 (txW cI u x') := by
  refine mW (cc := cX2_findFault) (maxL := 2) (ty := .int) (by decide) rfl rfl (Nat.le_of_ble_eq_true rfl) ?_
  intro p e s m args below meth c Q A S hK hP hD hS hA hret ls hl
  exact w_X2_findFault_0 S hK hA hret hf _ _ _ hP hD hS (lv_sub (show lv_has ls 2 [(0, .ref (u 0))] from hl) [0] rfl)
