abbrev rm_X6_in : Room := { frames := 0, cells := 0, slots := 0, locals := 0 }
set_option maxRecDepth 100000 in
set_option maxHeartbeats 4000000 in
theorem w_X6_in_0 {p : Program} {l : Launch} {e : Env} {s : State} {m : MethodId} {args : Array Value} {below : List Frame} {meth : Method} {c : Code} {Q : State → Prop} {D : va_G} {cI cN : ClassId}  (S : CallFix p m c cX6_in 3 s args wsX6_in RX6) (hK : KN D cI cN s) {x0 : Int32} {x1 : Int32} {x2 : Int32} {r0 : Int32} (hret : ∀ (H : Heap) (locs : List Loc) (ls : Array Slot) (pc : Nat), decode cX6_in pc = .ok (.ireturn, 1) → narrow .boolean (.int r0) = .int r0 → va_S (nwA s.heap.size) s.heap H locs → W p l e (headSpec wsX6_in rm_X6_in).room s m args below meth c H locs 0 0 Q (F0 m pc ls [.int r0])) (hf : fX6_in x0 x1 x2 = r0) (H : Heap) (locs : List Loc) (ls : Array Slot) (hP : va_P D vwCl ([] : va_W) H) (hS : va_S (nwA s.heap.size) s.heap H locs) (hl : lv_has ls 3 [(0, .int x0), (1, .int x1), (2, .int x2)]) : W p l e (headSpec wsX6_in rm_X6_in).room s m args below meth c H locs 0 0 Q (F0 m 0 ls []) := by
  obtain ⟨hx, hb, hml, hown, hts⟩ := id S
  have hA : ∀ q : Nat, s.heap.size ≤ q → nwA s.heap.size q := fun _ h => h
  unfold fX6_in at hf
  refine lv_iload_n hx hb dX6_in_0 rfl (lv_at hl 0 rfl) ?_
  refine lv_iload_n hx hb dX6_in_1 rfl (lv_at hl 1 rfl) ?_
  refine lv_icmp_lt (tgt := 14) hx hb dX6_in_2 (by decide) (fun c1 => ?_) (fun c1 => ?_)
  · have hf := it_t hf c1
    refine lv_iconst (v := (0 : Int32)) hx hb dX6_in_14 kc_iconst_0 ?_
    have e0 : (0 : Int32) = r0 := hf
    subst e0
    exact hret H locs ls _ dX6_in_15 (by first | rfl | exact bo_in | (exact bo_isHere (by assumption))) hS
  · have hf := it_f hf c1
    refine lv_iload_n hx hb dX6_in_5 rfl (lv_at hl 0 rfl) ?_
    refine lv_iload_n hx hb dX6_in_6 rfl (lv_at hl 2 rfl) ?_
    refine lv_icmp_gt (tgt := 14) hx hb dX6_in_7 (by decide) (fun c2 => ?_) (fun c2 => ?_)
    · have hf := it_t hf c2
      refine lv_iconst (v := (0 : Int32)) hx hb dX6_in_14 kc_iconst_0 ?_
      have e0 : (0 : Int32) = r0 := hf
      subst e0
      exact hret H locs ls _ dX6_in_15 (by first | rfl | exact bo_in | (exact bo_isHere (by assumption))) hS
    · have hf := it_f hf c2
      refine lv_iconst (v := (1 : Int32)) hx hb dX6_in_10 kc_iconst_1 ?_
      refine lv_goto (tgt := 15) hx hb dX6_in_11 (by decide) ?_
      have e0 : (1 : Int32) = r0 := hf
      subst e0
      exact hret H locs ls _ dX6_in_15 (by first | rfl | exact bo_in | (exact bo_isHere (by assumption))) hS
set_option maxRecDepth 100000 in
theorem c_X6_in (l : Launch) (D : va_G) (cI cN : ClassId)  (sz : Nat) (x0 : Int32) (x1 : Int32) (x2 : Int32) (r0 : Int32) (hf : fX6_in x0 x1 x2 = r0) : CtP l D cI cN yX6_in wsX6_in rm_X6_in [.int x0, .int x1, .int x2] ([] : va_W) sz r0 := by
  refine mP (cc := cX6_in) (maxL := 3) (ty := .boolean) (by decide) rfl rfl (Nat.le_of_ble_eq_true rfl) ?_
  intro p e s m args below meth c Q S hK hP hS hret ls hl
  exact w_X6_in_0 S hK hret hf _ _ _ hP hS (lv_sub (show lv_has ls 3 [(0, .int x0), (1, .int x1), (2, .int x2)] from hl) [0, 1, 2] rfl)
abbrev rm_X6_has : Room := { frames := 0, cells := 0, slots := 0, locals := 0 }
set_option maxRecDepth 100000 in
set_option maxHeartbeats 4000000 in
theorem w_X6_has_0 {p : Program} {l : Launch} {e : Env} {s : State} {m : MethodId} {args : Array Value} {below : List Frame} {meth : Method} {c : Code} {Q : State → Prop} {D : va_G} {cI cN : ClassId}  (S : CallFix p m c cX6_has 2 s args wsX6_has RX6) (hK : KN D cI cN s) {x0 : Int32} {x1 : Int32} {r0 : Int32} (hret : ∀ (H : Heap) (locs : List Loc) (ls : Array Slot) (pc : Nat), decode cX6_has pc = .ok (.ireturn, 1) → narrow .boolean (.int r0) = .int r0 → va_S (nwA s.heap.size) s.heap H locs → W p l e (headSpec wsX6_has rm_X6_has).room s m args below meth c H locs 0 0 Q (F0 m pc ls [.int r0])) (hf : fX6_has x0 x1 = r0) (H : Heap) (locs : List Loc) (ls : Array Slot) (hP : va_P D vwCl ([] : va_W) H) (hS : va_S (nwA s.heap.size) s.heap H locs) (hl : lv_has ls 2 [(0, .int x0), (1, .int x1)]) : W p l e (headSpec wsX6_has rm_X6_has).room s m args below meth c H locs 0 0 Q (F0 m 0 ls []) := by
  obtain ⟨hx, hb, hml, hown, hts⟩ := id S
  have hA : ∀ q : Nat, s.heap.size ≤ q → nwA s.heap.size q := fun _ h => h
  unfold fX6_has at hf
  refine lv_iload_n hx hb dX6_has_0 rfl (lv_at hl 0 rfl) ?_
  refine lv_iload_n hx hb dX6_has_1 rfl (lv_at hl 1 rfl) ?_
  refine lv_ishr hx hb dX6_has_2 ?_
  refine lv_iconst (v := (1 : Int32)) hx hb dX6_has_3 kc_iconst_1 ?_
  refine lv_iand hx hb dX6_has_4 ?_
  refine lv_iconst (v := (1 : Int32)) hx hb dX6_has_5 kc_iconst_1 ?_
  refine lv_icmp_ne (tgt := 13) hx hb dX6_has_6 (by decide) (fun c1 => ?_) (fun c1 => ?_)
  · have hf := it_f hf c1
    refine lv_iconst (v := (0 : Int32)) hx hb dX6_has_13 kc_iconst_0 ?_
    have e0 : (0 : Int32) = r0 := hf
    subst e0
    exact hret H locs ls _ dX6_has_14 (by first | rfl | exact bo_in | (exact bo_isHere (by assumption))) hS
  · have hf := it_t hf c1
    refine lv_iconst (v := (1 : Int32)) hx hb dX6_has_9 kc_iconst_1 ?_
    refine lv_goto (tgt := 14) hx hb dX6_has_10 (by decide) ?_
    have e0 : (1 : Int32) = r0 := hf
    subst e0
    exact hret H locs ls _ dX6_has_14 (by first | rfl | exact bo_in | (exact bo_isHere (by assumption))) hS
set_option maxRecDepth 100000 in
theorem c_X6_has (l : Launch) (D : va_G) (cI cN : ClassId)  (sz : Nat) (x0 : Int32) (x1 : Int32) (r0 : Int32) (hf : fX6_has x0 x1 = r0) : CtP l D cI cN yX6_has wsX6_has rm_X6_has [.int x0, .int x1] ([] : va_W) sz r0 := by
  refine mP (cc := cX6_has) (maxL := 2) (ty := .boolean) (by decide) rfl rfl (Nat.le_of_ble_eq_true rfl) ?_
  intro p e s m args below meth c Q S hK hP hS hret ls hl
  exact w_X6_has_0 S hK hret hf _ _ _ hP hS (lv_sub (show lv_has ls 2 [(0, .int x0), (1, .int x1)] from hl) [0, 1] rfl)
abbrev rm_X6_lowest : Room := { frames := 1, cells := 0, slots := 0, locals := 21 }
set_option maxRecDepth 100000 in
set_option maxHeartbeats 4000000 in
theorem w_X6_lowest_2 {p : Program} {l : Launch} {e : Env} {s : State} {m : MethodId} {args : Array Value} {below : List Frame} {meth : Method} {c : Code} {Q : State → Prop} {D : va_G} {cI cN : ClassId}  (S : CallFix p m c cX6_lowest 2 s args wsX6_lowest RX6) (hK : KN D cI cN s) {x0 : Int32} {r0 : Int32} (hret : ∀ (H : Heap) (locs : List Loc) (ls : Array Slot) (pc : Nat), decode cX6_lowest pc = .ok (.ireturn, 1) → narrow .int (.int r0) = .int r0 → va_S (nwA s.heap.size) s.heap H locs → W p l e (headSpec wsX6_lowest rm_X6_lowest).room s m args below meth c H locs 0 0 Q (F0 m pc ls [.int r0])) : ∀ (k : Nat) (x1 : Int32), fX6_lowest_2 x0 k x1 = some r0 → ∀ (H : Heap) (locs : List Loc) (ls : Array Slot), va_P D vwCl ([] : va_W) H → va_S (nwA s.heap.size) s.heap H locs → lv_has ls 2 [(0, .int x0), (1, .int x1)] → W p l e (headSpec wsX6_lowest rm_X6_lowest).room s m args below meth c H locs 0 0 Q (F0 m 2 ls []) := by
  obtain ⟨hx, hb, hml, hown, hts⟩ := id S
  have hA : ∀ q : Nat, s.heap.size ≤ q → nwA s.heap.size q := fun _ h => h
  intro k
  induction k with
  | zero => intro x1 hf; rw [fX6_lowest_2_z] at hf; cases hf
  | succ k ih =>
    intro x1 hf H locs ls hP hS hl
    rw [fX6_lowest_2_s] at hf
    refine lv_iload_n hx hb dX6_lowest_2 rfl (lv_at hl 0 rfl) ?_
    refine lv_iload_n hx hb dX6_lowest_3 rfl (lv_at hl 1 rfl) ?_
    refine cSi (As := [.int x0, .int x1]) (rest := []) S (c_X6_has l D cI cN _ x0 x1 (fX6_has x0 x1) rfl) (va_cwS 2 hts gX6_lowest_X6_has rfl rfl rfl (by decide +kernel) ⟨Nat.le_of_ble_eq_true rfl, Nat.le_of_ble_eq_true rfl⟩) hK hP hS hA [] rfl rfl hl.1 rfl (Nat.le_of_ble_eq_true rfl) dX6_lowest_4 ⟨Nat.zero_le _, Nat.zero_le _⟩ (fun H locs hP hS => ?_)
    refine lv_if_ne (tgt := 16) hx hb dX6_lowest_7 (by decide) (fun c1 => ?_) (fun c1 => ?_)
    · have hf := it_f hf c1
      refine lv_iload_n hx hb dX6_lowest_16 rfl (lv_at hl 1 rfl) ?_
      have e0 : x1 = r0 := (Option.some.inj hf)
      subst e0
      exact hret H locs ls _ dX6_lowest_17 rfl hS
    · have hf := it_t hf c1
      refine lv_iinc (v := (x1 + (1 : Int32))) (lv' := [(1, .int (x1 + (1 : Int32))), (0, .int x0)]) hx hb dX6_lowest_10 hl (k := 1) rfl rfl (by decide) rfl (fun ls hl => ?_)
      refine lv_goto (tgt := 2) hx hb dX6_lowest_13 (by decide) ?_
      exact ih _ hf H locs ls hP hS (lv_sub hl [1, 0] rfl)
set_option maxRecDepth 100000 in
set_option maxHeartbeats 4000000 in
theorem w_X6_lowest_0 {p : Program} {l : Launch} {e : Env} {s : State} {m : MethodId} {args : Array Value} {below : List Frame} {meth : Method} {c : Code} {Q : State → Prop} {D : va_G} {cI cN : ClassId}  (S : CallFix p m c cX6_lowest 2 s args wsX6_lowest RX6) (hK : KN D cI cN s) {x0 : Int32} {r0 : Int32} (hret : ∀ (H : Heap) (locs : List Loc) (ls : Array Slot) (pc : Nat), decode cX6_lowest pc = .ok (.ireturn, 1) → narrow .int (.int r0) = .int r0 → va_S (nwA s.heap.size) s.heap H locs → W p l e (headSpec wsX6_lowest rm_X6_lowest).room s m args below meth c H locs 0 0 Q (F0 m pc ls [.int r0])) (hf : fX6_lowest x0 = some r0) (H : Heap) (locs : List Loc) (ls : Array Slot) (hP : va_P D vwCl ([] : va_W) H) (hS : va_S (nwA s.heap.size) s.heap H locs) (hl : lv_has ls 2 [(0, .int x0)]) : W p l e (headSpec wsX6_lowest rm_X6_lowest).room s m args below meth c H locs 0 0 Q (F0 m 0 ls []) := by
  obtain ⟨hx, hb, hml, hown, hts⟩ := id S
  have hA : ∀ q : Nat, s.heap.size ≤ q → nwA s.heap.size q := fun _ h => h
  unfold fX6_lowest at hf
  refine lv_iconst (v := (0 : Int32)) hx hb dX6_lowest_0 kc_iconst_0 ?_
  refine lv_istore_n (lv' := [(1, .int (0 : Int32)), (0, .int x0)]) hx hb dX6_lowest_1 rfl hl (by decide) rfl (fun ls hl => ?_)
  exact w_X6_lowest_2 S hK hret _ _ hf H locs ls hP hS (lv_sub hl [1, 0] rfl)
set_option maxRecDepth 100000 in
theorem c_X6_lowest (l : Launch) (D : va_G) (cI cN : ClassId)  (sz : Nat) (x0 : Int32) (r0 : Int32) (hf : fX6_lowest x0 = some r0) : CtP l D cI cN yX6_lowest wsX6_lowest rm_X6_lowest [.int x0] ([] : va_W) sz r0 := by
  refine mP (cc := cX6_lowest) (maxL := 2) (ty := .int) (by decide) rfl rfl (Nat.le_of_ble_eq_true rfl) ?_
  intro p e s m args below meth c Q S hK hP hS hret ls hl
  exact w_X6_lowest_0 S hK hret hf _ _ _ hP hS (lv_sub (show lv_has ls 2 [(0, .int x0)] from hl) [0] rfl)
abbrev rm_X6_bits : Room := { frames := 0, cells := 0, slots := 0, locals := 0 }
set_option maxRecDepth 100000 in
set_option maxHeartbeats 4000000 in
theorem w_X6_bits_4 {p : Program} {l : Launch} {e : Env} {s : State} {m : MethodId} {args : Array Value} {below : List Frame} {meth : Method} {c : Code} {Q : State → Prop} {D : va_G} {cI cN : ClassId}  (S : CallFix p m c cX6_bits 3 s args wsX6_bits RX6) (hK : KN D cI cN s) {x0 : Int32} {r0 : Int32} (hret : ∀ (H : Heap) (locs : List Loc) (ls : Array Slot) (pc : Nat), decode cX6_bits pc = .ok (.ireturn, 1) → narrow .int (.int r0) = .int r0 → va_S (nwA s.heap.size) s.heap H locs → W p l e (headSpec wsX6_bits rm_X6_bits).room s m args below meth c H locs 0 0 Q (F0 m pc ls [.int r0])) : ∀ (k : Nat) (x1 : Int32) (x2 : Int32), fX6_bits_4 x0 k x1 x2 = some r0 → ∀ (H : Heap) (locs : List Loc) (ls : Array Slot), va_P D vwCl ([] : va_W) H → va_S (nwA s.heap.size) s.heap H locs → lv_has ls 3 [(0, .int x0), (1, .int x1), (2, .int x2)] → W p l e (headSpec wsX6_bits rm_X6_bits).room s m args below meth c H locs 0 0 Q (F0 m 4 ls []) := by
  obtain ⟨hx, hb, hml, hown, hts⟩ := id S
  have hA : ∀ q : Nat, s.heap.size ≤ q → nwA s.heap.size q := fun _ h => h
  intro k
  induction k with
  | zero => intro x1 x2 hf; rw [fX6_bits_4_z] at hf; cases hf
  | succ k ih =>
    intro x1 x2 hf H locs ls hP hS hl
    rw [fX6_bits_4_s] at hf
    refine lv_iload_n hx hb dX6_bits_4 rfl (lv_at hl 2 rfl) ?_
    refine lv_bipush (v := (8 : Int32)) hx hb dX6_bits_5 kc_bipush_8 ?_
    refine lv_icmp_ge (tgt := 24) hx hb dX6_bits_7 (by decide) (fun c1 => ?_) (fun c1 => ?_)
    · have hf := it_t hf c1
      refine lv_iload_n hx hb dX6_bits_24 rfl (lv_at hl 1 rfl) ?_
      have e0 : x1 = r0 := (Option.some.inj hf)
      subst e0
      exact hret H locs ls _ dX6_bits_25 rfl hS
    · have hf := it_f hf c1
      refine lv_iload_n hx hb dX6_bits_10 rfl (lv_at hl 1 rfl) ?_
      refine lv_iload_n hx hb dX6_bits_11 rfl (lv_at hl 0 rfl) ?_
      refine lv_iload_n hx hb dX6_bits_12 rfl (lv_at hl 2 rfl) ?_
      refine lv_ishr hx hb dX6_bits_13 ?_
      refine lv_iconst (v := (1 : Int32)) hx hb dX6_bits_14 kc_iconst_1 ?_
      refine lv_iand hx hb dX6_bits_15 ?_
      refine lv_iadd hx hb dX6_bits_16 ?_
      refine lv_istore_n (lv' := [(1, .int (x1 + ((x0 >>> (x2 &&& 31)) &&& (1 : Int32)))), (0, .int x0), (2, .int x2)]) hx hb dX6_bits_17 rfl hl (by decide) rfl (fun ls hl => ?_)
      refine lv_iinc (v := (x2 + (1 : Int32))) (lv' := [(2, .int (x2 + (1 : Int32))), (1, .int (x1 + ((x0 >>> (x2 &&& 31)) &&& (1 : Int32)))), (0, .int x0)]) hx hb dX6_bits_18 hl (k := 2) rfl rfl (by decide) rfl (fun ls hl => ?_)
      refine lv_goto (tgt := 4) hx hb dX6_bits_21 (by decide) ?_
      exact ih _ _ hf H locs ls hP hS (lv_sub hl [2, 1, 0] rfl)
set_option maxRecDepth 100000 in
set_option maxHeartbeats 4000000 in
theorem w_X6_bits_0 {p : Program} {l : Launch} {e : Env} {s : State} {m : MethodId} {args : Array Value} {below : List Frame} {meth : Method} {c : Code} {Q : State → Prop} {D : va_G} {cI cN : ClassId}  (S : CallFix p m c cX6_bits 3 s args wsX6_bits RX6) (hK : KN D cI cN s) {x0 : Int32} {r0 : Int32} (hret : ∀ (H : Heap) (locs : List Loc) (ls : Array Slot) (pc : Nat), decode cX6_bits pc = .ok (.ireturn, 1) → narrow .int (.int r0) = .int r0 → va_S (nwA s.heap.size) s.heap H locs → W p l e (headSpec wsX6_bits rm_X6_bits).room s m args below meth c H locs 0 0 Q (F0 m pc ls [.int r0])) (hf : fX6_bits x0 = some r0) (H : Heap) (locs : List Loc) (ls : Array Slot) (hP : va_P D vwCl ([] : va_W) H) (hS : va_S (nwA s.heap.size) s.heap H locs) (hl : lv_has ls 3 [(0, .int x0)]) : W p l e (headSpec wsX6_bits rm_X6_bits).room s m args below meth c H locs 0 0 Q (F0 m 0 ls []) := by
  obtain ⟨hx, hb, hml, hown, hts⟩ := id S
  have hA : ∀ q : Nat, s.heap.size ≤ q → nwA s.heap.size q := fun _ h => h
  unfold fX6_bits at hf
  refine lv_iconst (v := (0 : Int32)) hx hb dX6_bits_0 kc_iconst_0 ?_
  refine lv_istore_n (lv' := [(1, .int (0 : Int32)), (0, .int x0)]) hx hb dX6_bits_1 rfl hl (by decide) rfl (fun ls hl => ?_)
  refine lv_iconst (v := (0 : Int32)) hx hb dX6_bits_2 kc_iconst_0 ?_
  refine lv_istore_n (lv' := [(2, .int (0 : Int32)), (1, .int (0 : Int32)), (0, .int x0)]) hx hb dX6_bits_3 rfl hl (by decide) rfl (fun ls hl => ?_)
  exact w_X6_bits_4 S hK hret _ _ _ hf H locs ls hP hS (lv_sub hl [2, 1, 0] rfl)
set_option maxRecDepth 100000 in
theorem c_X6_bits (l : Launch) (D : va_G) (cI cN : ClassId)  (sz : Nat) (x0 : Int32) (r0 : Int32) (hf : fX6_bits x0 = some r0) : CtP l D cI cN yX6_bits wsX6_bits rm_X6_bits [.int x0] ([] : va_W) sz r0 := by
  refine mP (cc := cX6_bits) (maxL := 3) (ty := .int) (by decide) rfl rfl (Nat.le_of_ble_eq_true rfl) ?_
  intro p e s m args below meth c Q S hK hP hS hret ls hl
  exact w_X6_bits_0 S hK hret hf _ _ _ hP hS (lv_sub (show lv_has ls 3 [(0, .int x0)] from hl) [0] rfl)
abbrev rm_X6_of : Room := { frames := 0, cells := 0, slots := 0, locals := 0 }
theorem in_X6_of_X6 : ∀ w ∈ u_ws RX6 TX6 12, w ∈ wsX6_of := fun w h => List.mem_cons_of_mem _ (List.mem_append_right _ h)
set_option maxRecDepth 100000 in
set_option maxHeartbeats 4000000 in
theorem w_X6_of_0 {p : Program} {l : Launch} {e : Env} {s : State} {m : MethodId} {args : Array Value} {below : List Frame} {meth : Method} {c : Code} {Q : State → Prop} {D : va_G} {cI cN : ClassId} {z : Nat → Nat} (S : CallFix p m c cX6_of 4 s args wsX6_of RX6) (hK : KN D cI cN s) {g : OS} {x1 : Int32} {x2 : Int32} {x3 : Int32} {r0 : Int32} (hret : ∀ (H : Heap) (locs : List Loc) (ls : Array Slot) (pc : Nat), decode cX6_of pc = .ok (.ireturn, 1) → narrow .int (.int r0) = .int r0 → va_S (nwA s.heap.size) s.heap H locs → W p l e (headSpec wsX6_of rm_X6_of).room s m args below meth c H locs 0 0 Q (F0 m pc ls [.int r0])) (hf : fX6_of g x1 x2 x3 = some r0) (H : Heap) (locs : List Loc) (ls : Array Slot) (hP : va_P D vwCl (mdW cI z g) H) (hS : va_S (nwA s.heap.size) s.heap H locs) (hl : lv_has ls 4 [(0, .ref (z 0)), (1, .int x1), (2, .int x2), (3, .int x3)]) : W p l e (headSpec wsX6_of rm_X6_of).room s m args below meth c H locs 0 0 Q (F0 m 0 ls []) := by
  obtain ⟨hx, hb, hml, hown, hts⟩ := id S
  have inX6 := in_X6_of_X6
  have hA : ∀ q : Nat, s.heap.size ≤ q → nwA s.heap.size q := fun _ h => h
  unfold fX6_of at hf
  refine lv_aload_n hx hb dX6_of_0 rfl (lv_at hl 0 rfl) ?_
  refine va_get (D := D) (ci := 6) (v := .ref (z 1)) (C := RX6) (T := TX6) (N := 12) hx hb hts inX6 hown hK.1 hP 0 rfl rfl 0 (by decide) (hts (.fieldLink RX6 7 "ClosExchangeModel" "s" "[I") (List.mem_of_getElem? (i := 1) rfl)) (fun _ h9 => h9) rfl dX6_of_1 ?_
  refine lv_iload_n hx hb dX6_of_4 rfl (lv_at hl 1 rfl) ?_
  refine lv_bipush (v := (10 : Int32)) hx hb dX6_of_5 kc_bipush_10 ?_
  refine lv_iadd hx hb dX6_of_7 ?_
  refine lv_iconst (v := (3 : Int32)) hx hb dX6_of_8 kc_iconst_3 ?_
  refine lv_iload_n hx hb dX6_of_9 rfl (lv_at hl 2 rfl) ?_
  refine lv_imul hx hb dX6_of_10 ?_
  refine lv_iadd hx hb dX6_of_11 ?_
  refine lv_iload_n hx hb dX6_of_12 rfl (lv_at hl 3 rfl) ?_
  refine lv_iadd hx hb dX6_of_13 ?_
  obtain ⟨c1, hf⟩ := it_g hf
  refine va_iald hx hb hK.1 hP 1 0 rfl rfl (inb_in c1) dX6_of_14 ?_
  have e0 : ((g.2 0) (((x1 + (10 : Int32)) + ((3 : Int32) * x2)) + x3).toNatClampNeg) = r0 := (Option.some.inj hf)
  subst e0
  exact hret H locs ls _ dX6_of_15 rfl hS
set_option maxRecDepth 100000 in
theorem c_X6_of (l : Launch) (D : va_G) (cI cN : ClassId) (z : Nat → Nat) (sz : Nat) (g : OS) (x1 : Int32) (x2 : Int32) (x3 : Int32) (r0 : Int32) (hf : fX6_of g x1 x2 x3 = some r0) : CtP l D cI cN yX6_of wsX6_of rm_X6_of [.ref (z 0), .int x1, .int x2, .int x3] (mdW cI z g) sz r0 := by
  refine mP (cc := cX6_of) (maxL := 4) (ty := .int) (by decide) rfl rfl (Nat.le_of_ble_eq_true rfl) ?_
  intro p e s m args below meth c Q S hK hP hS hret ls hl
  exact w_X6_of_0 S hK hret hf _ _ _ hP hS (lv_sub (show lv_has ls 4 [(0, .ref (z 0)), (1, .int x1), (2, .int x2), (3, .int x3)] from hl) [0, 1, 2, 3] rfl)
abbrev rm_X6_lay : Room := { frames := 0, cells := 0, slots := 0, locals := 0 }
theorem in_X6_lay_X6 : ∀ w ∈ u_ws RX6 TX6 12, w ∈ wsX6_lay := fun w h => List.mem_cons_of_mem _ (List.mem_append_right _ h)
set_option maxRecDepth 100000 in
set_option maxHeartbeats 4000000 in
theorem w_X6_lay_0 {p : Program} {l : Launch} {e : Env} {s : State} {m : MethodId} {args : Array Value} {below : List Frame} {meth : Method} {c : Code} {Q : State → Prop} {D : va_G} {cI cN : ClassId} {A : Nat → Prop} {z : Nat → Nat} (S : CallFix p m c cX6_lay 5 s args wsX6_lay RX6) (hK : KN D cI cN s) (hA : ∀ q : Nat, s.heap.size ≤ q → A q) {g : OS} {x1 : Int32} {x2 : Int32} {x3 : Int32} {x4 : Int32} {g' : OS} (hret : ∀ (H : Heap) (locs : List Loc) (ls : Array Slot) (pc : Nat), decode cX6_lay pc = .ok (.return_, 1) → va_P D vwCl (mdW cI z g') H → va_D A (mdW cI z g') → va_S A s.heap H locs → W p l e (headSpec wsX6_lay rm_X6_lay).room s m args below meth c H locs 0 0 Q (F0 m pc ls [])) (hf : fX6_lay g x1 x2 x3 x4 = some g') (H : Heap) (locs : List Loc) (ls : Array Slot) (hP : va_P D vwCl (mdW cI z g) H) (hD : va_D A (mdW cI z g)) (hS : va_S A s.heap H locs) (hl : lv_has ls 5 [(0, .ref (z 0)), (1, .int x1), (2, .int x2), (3, .int x3), (4, .int x4)]) : W p l e (headSpec wsX6_lay rm_X6_lay).room s m args below meth c H locs 0 0 Q (F0 m 0 ls []) := by
  obtain ⟨hx, hb, hml, hown, hts⟩ := id S
  have inX6 := in_X6_lay_X6
  unfold fX6_lay at hf
  refine lv_aload_n hx hb dX6_lay_0 rfl (lv_at hl 0 rfl) ?_
  refine va_get (D := D) (ci := 6) (v := .ref (z 1)) (C := RX6) (T := TX6) (N := 12) hx hb hts inX6 hown hK.1 hP 0 rfl rfl 0 (by decide) (hts (.fieldLink RX6 7 "ClosExchangeModel" "s" "[I") (List.mem_of_getElem? (i := 1) rfl)) (fun _ h9 => h9) rfl dX6_lay_1 ?_
  refine lv_iload_n hx hb dX6_lay_4 rfl (lv_at hl 1 rfl) ?_
  refine lv_bipush (v := (10 : Int32)) hx hb dX6_lay_5 kc_bipush_10 ?_
  refine lv_iadd hx hb dX6_lay_7 ?_
  refine lv_iconst (v := (3 : Int32)) hx hb dX6_lay_8 kc_iconst_3 ?_
  refine lv_iload_n hx hb dX6_lay_9 rfl (lv_at hl 2 rfl) ?_
  refine lv_imul hx hb dX6_lay_10 ?_
  refine lv_iadd hx hb dX6_lay_11 ?_
  refine lv_iload_n hx hb dX6_lay_12 rfl (lv_at hl 3 rfl) ?_
  refine lv_iadd hx hb dX6_lay_13 ?_
  refine lv_iload hx hb dX6_lay_14 (lv_at hl 4 rfl) ?_
  obtain ⟨c1, hf⟩ := it_g hf
  obtain ⟨w2, hw2, hf⟩ := it_j hf
  refine giastw (wf := (mdW cI z (setR g 0 w2))) hw2 hx hb hK.1 hP hD hS 1 0 rfl rfl (inb_in c1) dX6_lay_16 rfl (fun H locs hP hD hS => ?_)
  have e0 : (setR g 0 w2) = g' := (Option.some.inj hf)
  subst e0
  exact hret H locs ls _ dX6_lay_17 hP hD hS
set_option maxRecDepth 100000 in
theorem c_X6_lay (l : Launch) (D : va_G) (cI cN : ClassId) (z : Nat → Nat) (sz : Nat) (g : OS) (x1 : Int32) (x2 : Int32) (x3 : Int32) (x4 : Int32) (g' : OS) (hf : fX6_lay g x1 x2 x3 x4 = some g') : CtV l D cI cN yX6_lay wsX6_lay rm_X6_lay 0 0 [.ref (z 0), .int x1, .int x2, .int x3, .int x4] (mdW cI z g) sz (mdW cI z g') := by
  refine mV (cc := cX6_lay) (maxL := 5) (by decide) rfl (Nat.le_of_ble_eq_true rfl) ?_
  intro p e s m args below meth c Q A S _ hK hP hD hS hA hret ls hl
  exact w_X6_lay_0 S hK hA hret hf _ _ _ hP hD hS (lv_sub (show lv_has ls 5 [(0, .ref (z 0)), (1, .int x1), (2, .int x2), (3, .int x3), (4, .int x4)] from hl) [0, 1, 2, 3, 4] rfl)
abbrev rm_X6_lines : Room := { frames := 0, cells := 0, slots := 0, locals := 0 }
theorem in_X6_lines_X6 : ∀ w ∈ u_ws RX6 TX6 12, w ∈ wsX6_lines := fun w h => List.mem_cons_of_mem _ (List.mem_append_right _ h)
set_option maxRecDepth 100000 in
set_option maxHeartbeats 4000000 in
theorem w_X6_lines_0 {p : Program} {l : Launch} {e : Env} {s : State} {m : MethodId} {args : Array Value} {below : List Frame} {meth : Method} {c : Code} {Q : State → Prop} {D : va_G} {cI cN : ClassId} {z : Nat → Nat} (S : CallFix p m c cX6_lines 2 s args wsX6_lines RX6) (hK : KN D cI cN s) {g : OS} {x1 : Int32} {r0 : Int32} (hret : ∀ (H : Heap) (locs : List Loc) (ls : Array Slot) (pc : Nat), decode cX6_lines pc = .ok (.ireturn, 1) → narrow .int (.int r0) = .int r0 → va_S (nwA s.heap.size) s.heap H locs → W p l e (headSpec wsX6_lines rm_X6_lines).room s m args below meth c H locs 0 0 Q (F0 m pc ls [.int r0])) (hf : fX6_lines g x1 = some r0) (H : Heap) (locs : List Loc) (ls : Array Slot) (hP : va_P D vwCl (mdW cI z g) H) (hS : va_S (nwA s.heap.size) s.heap H locs) (hl : lv_has ls 2 [(0, .ref (z 0)), (1, .int x1)]) : W p l e (headSpec wsX6_lines rm_X6_lines).room s m args below meth c H locs 0 0 Q (F0 m 0 ls []) := by
  obtain ⟨hx, hb, hml, hown, hts⟩ := id S
  have inX6 := in_X6_lines_X6
  have hA : ∀ q : Nat, s.heap.size ≤ q → nwA s.heap.size q := fun _ h => h
  unfold fX6_lines at hf
  refine lv_aload_n hx hb dX6_lines_0 rfl (lv_at hl 0 rfl) ?_
  refine va_get (D := D) (ci := 6) (v := .ref (z 1)) (C := RX6) (T := TX6) (N := 12) hx hb hts inX6 hown hK.1 hP 0 rfl rfl 0 (by decide) (hts (.fieldLink RX6 7 "ClosExchangeModel" "s" "[I") (List.mem_of_getElem? (i := 1) rfl)) (fun _ h9 => h9) rfl dX6_lines_1 ?_
  refine lv_iload_n hx hb dX6_lines_4 rfl (lv_at hl 1 rfl) ?_
  refine lv_iconst (v := (0 : Int32)) hx hb dX6_lines_5 kc_iconst_0 ?_
  refine lv_iadd hx hb dX6_lines_6 ?_
  obtain ⟨c1, hf⟩ := it_g hf
  refine va_iald hx hb hK.1 hP 1 0 rfl rfl (inb_in c1) dX6_lines_7 ?_
  refine lv_aload_n hx hb dX6_lines_8 rfl (lv_at hl 0 rfl) ?_
  refine va_get (D := D) (ci := 6) (v := .ref (z 1)) (C := RX6) (T := TX6) (N := 12) hx hb hts inX6 hown hK.1 hP 0 rfl rfl 0 (by decide) (hts (.fieldLink RX6 7 "ClosExchangeModel" "s" "[I") (List.mem_of_getElem? (i := 1) rfl)) (fun _ h9 => h9) rfl dX6_lines_9 ?_
  refine lv_iload_n hx hb dX6_lines_12 rfl (lv_at hl 1 rfl) ?_
  refine lv_iconst (v := (1 : Int32)) hx hb dX6_lines_13 kc_iconst_1 ?_
  refine lv_iadd hx hb dX6_lines_14 ?_
  obtain ⟨c2, hf⟩ := it_g hf
  refine va_iald hx hb hK.1 hP 1 0 rfl rfl (inb_in c2) dX6_lines_15 ?_
  refine lv_imul hx hb dX6_lines_16 ?_
  have e0 : (((g.2 0) (x1 + (0 : Int32)).toNatClampNeg) * ((g.2 0) (x1 + (1 : Int32)).toNatClampNeg)) = r0 := (Option.some.inj hf)
  subst e0
  exact hret H locs ls _ dX6_lines_17 rfl hS
set_option maxRecDepth 100000 in
theorem c_X6_lines (l : Launch) (D : va_G) (cI cN : ClassId) (z : Nat → Nat) (sz : Nat) (g : OS) (x1 : Int32) (r0 : Int32) (hf : fX6_lines g x1 = some r0) : CtP l D cI cN yX6_lines wsX6_lines rm_X6_lines [.ref (z 0), .int x1] (mdW cI z g) sz r0 := by
  refine mP (cc := cX6_lines) (maxL := 2) (ty := .int) (by decide) rfl rfl (Nat.le_of_ble_eq_true rfl) ?_
  intro p e s m args below meth c Q S hK hP hS hret ls hl
  exact w_X6_lines_0 S hK hret hf _ _ _ hP hS (lv_sub (show lv_has ls 2 [(0, .ref (z 0)), (1, .int x1)] from hl) [0, 1] rfl)
abbrev rm_X6_isLine : Room := { frames := 1, cells := 0, slots := 0, locals := 22 }
set_option maxRecDepth 100000 in
set_option maxHeartbeats 4000000 in
theorem w_X6_isLine_0 {p : Program} {l : Launch} {e : Env} {s : State} {m : MethodId} {args : Array Value} {below : List Frame} {meth : Method} {c : Code} {Q : State → Prop} {D : va_G} {cI cN : ClassId} {z : Nat → Nat} (S : CallFix p m c cX6_isLine 3 s args wsX6_isLine RX6) (hK : KN D cI cN s) {g : OS} {x1 : Int32} {x2 : Int32} {r0 : Int32} (hret : ∀ (H : Heap) (locs : List Loc) (ls : Array Slot) (pc : Nat), decode cX6_isLine pc = .ok (.ireturn, 1) → narrow .boolean (.int r0) = .int r0 → va_S (nwA s.heap.size) s.heap H locs → W p l e (headSpec wsX6_isLine rm_X6_isLine).room s m args below meth c H locs 0 0 Q (F0 m pc ls [.int r0])) (hf : fX6_isLine g x1 x2 = some r0) (H : Heap) (locs : List Loc) (ls : Array Slot) (hP : va_P D vwCl (mdW cI z g) H) (hS : va_S (nwA s.heap.size) s.heap H locs) (hl : lv_has ls 3 [(0, .ref (z 0)), (1, .int x1), (2, .int x2)]) : W p l e (headSpec wsX6_isLine rm_X6_isLine).room s m args below meth c H locs 0 0 Q (F0 m 0 ls []) := by
  obtain ⟨hx, hb, hml, hown, hts⟩ := id S
  have hA : ∀ q : Nat, s.heap.size ≤ q → nwA s.heap.size q := fun _ h => h
  unfold fX6_isLine at hf
  refine lv_iload_n hx hb dX6_isLine_0 rfl (lv_at hl 2 rfl) ?_
  refine lv_iconst (v := (0 : Int32)) hx hb dX6_isLine_1 kc_iconst_0 ?_
  refine lv_aload_n hx hb dX6_isLine_2 rfl (lv_at hl 0 rfl) ?_
  refine lv_iload_n hx hb dX6_isLine_3 rfl (lv_at hl 1 rfl) ?_
  obtain ⟨v1, hv1, hf⟩ := it_b hf
  refine cQi (As := [.int x1]) (rest := [.int (0 : Int32), .int x2]) (q0 := 0) (ci := 6) S (c_X6_lines l D cI cN z _ g x1 v1 hv1) (cwV 1 hts gX6_isLine_X6_lines rfl rfl rfl (by decide +kernel) ⟨Nat.le_of_ble_eq_true rfl, Nat.le_of_ble_eq_true rfl⟩) hK hP hS hA hP rfl rfl rfl hl.1 rfl (Nat.le_of_ble_eq_true rfl) dX6_isLine_4 ⟨Nat.zero_le _, Nat.zero_le _⟩ (fun H locs hP hS => ?_)
  refine lv_iconst (v := (1 : Int32)) hx hb dX6_isLine_7 kc_iconst_1 ?_
  refine lv_isub hx hb dX6_isLine_8 ?_
  refine cSi (As := [.int x2, .int (0 : Int32), .int (v1 - (1 : Int32))]) (rest := []) S (c_X6_in l D cI cN _ x2 (0 : Int32) (v1 - (1 : Int32)) (fX6_in x2 (0 : Int32) (v1 - (1 : Int32))) rfl) (va_cwS 3 hts gX6_isLine_X6_in rfl rfl rfl (by decide +kernel) ⟨Nat.le_of_ble_eq_true rfl, Nat.le_of_ble_eq_true rfl⟩) hK hP hS hA [] rfl rfl hl.1 rfl (Nat.le_of_ble_eq_true rfl) dX6_isLine_9 ⟨Nat.zero_le _, Nat.zero_le _⟩ (fun H locs hP hS => ?_)
  have e0 : (fX6_in x2 (0 : Int32) (v1 - (1 : Int32))) = r0 := (Option.some.inj hf)
  subst e0
  exact hret H locs ls _ dX6_isLine_12 (by first | rfl | exact bo_in | (exact bo_isHere (by assumption))) hS
set_option maxRecDepth 100000 in
theorem c_X6_isLine (l : Launch) (D : va_G) (cI cN : ClassId) (z : Nat → Nat) (sz : Nat) (g : OS) (x1 : Int32) (x2 : Int32) (r0 : Int32) (hf : fX6_isLine g x1 x2 = some r0) : CtP l D cI cN yX6_isLine wsX6_isLine rm_X6_isLine [.ref (z 0), .int x1, .int x2] (mdW cI z g) sz r0 := by
  refine mP (cc := cX6_isLine) (maxL := 3) (ty := .boolean) (by decide) rfl rfl (Nat.le_of_ble_eq_true rfl) ?_
  intro p e s m args below meth c Q S hK hP hS hret ls hl
  exact w_X6_isLine_0 S hK hret hf _ _ _ hP hS (lv_sub (show lv_has ls 3 [(0, .ref (z 0)), (1, .int x1), (2, .int x2)] from hl) [0, 1, 2] rfl)
abbrev rm_X6_isBoard : Room := { frames := 1, cells := 0, slots := 0, locals := 22 }
theorem in_X6_isBoard_X6 : ∀ w ∈ u_ws RX6 TX6 12, w ∈ wsX6_isBoard := fun w h => List.mem_cons_of_mem _ (List.mem_append_right _ h)
set_option maxRecDepth 100000 in
set_option maxHeartbeats 4000000 in
theorem w_X6_isBoard_0 {p : Program} {l : Launch} {e : Env} {s : State} {m : MethodId} {args : Array Value} {below : List Frame} {meth : Method} {c : Code} {Q : State → Prop} {D : va_G} {cI cN : ClassId} {z : Nat → Nat} (S : CallFix p m c cX6_isBoard 2 s args wsX6_isBoard RX6) (hK : KN D cI cN s) {g : OS} {x1 : Int32} {r0 : Int32} (hret : ∀ (H : Heap) (locs : List Loc) (ls : Array Slot) (pc : Nat), decode cX6_isBoard pc = .ok (.ireturn, 1) → narrow .boolean (.int r0) = .int r0 → va_S (nwA s.heap.size) s.heap H locs → W p l e (headSpec wsX6_isBoard rm_X6_isBoard).room s m args below meth c H locs 0 0 Q (F0 m pc ls [.int r0])) (hf : fX6_isBoard g x1 = some r0) (H : Heap) (locs : List Loc) (ls : Array Slot) (hP : va_P D vwCl (mdW cI z g) H) (hS : va_S (nwA s.heap.size) s.heap H locs) (hl : lv_has ls 2 [(0, .ref (z 0)), (1, .int x1)]) : W p l e (headSpec wsX6_isBoard rm_X6_isBoard).room s m args below meth c H locs 0 0 Q (F0 m 0 ls []) := by
  obtain ⟨hx, hb, hml, hown, hts⟩ := id S
  have inX6 := in_X6_isBoard_X6
  have hA : ∀ q : Nat, s.heap.size ≤ q → nwA s.heap.size q := fun _ h => h
  unfold fX6_isBoard at hf
  refine lv_iload_n hx hb dX6_isBoard_0 rfl (lv_at hl 1 rfl) ?_
  refine lv_iconst (v := (0 : Int32)) hx hb dX6_isBoard_1 kc_iconst_0 ?_
  refine lv_aload_n hx hb dX6_isBoard_2 rfl (lv_at hl 0 rfl) ?_
  refine va_get (D := D) (ci := 6) (v := .ref (z 1)) (C := RX6) (T := TX6) (N := 12) hx hb hts inX6 hown hK.1 hP 0 rfl rfl 0 (by decide) (hts (.fieldLink RX6 7 "ClosExchangeModel" "s" "[I") (List.mem_of_getElem? (i := 1) rfl)) (fun _ h9 => h9) rfl dX6_isBoard_3 ?_
  refine lv_iconst (v := (0 : Int32)) hx hb dX6_isBoard_6 kc_iconst_0 ?_
  obtain ⟨c1, hf⟩ := it_g hf
  refine va_iald hx hb hK.1 hP 1 0 rfl rfl (inb_in c1) dX6_isBoard_7 ?_
  refine lv_iconst (v := (1 : Int32)) hx hb dX6_isBoard_8 kc_iconst_1 ?_
  refine lv_isub hx hb dX6_isBoard_9 ?_
  refine cSi (As := [.int x1, .int (0 : Int32), .int (((g.2 0) (0 : Int32).toNatClampNeg) - (1 : Int32))]) (rest := []) S (c_X6_in l D cI cN _ x1 (0 : Int32) (((g.2 0) (0 : Int32).toNatClampNeg) - (1 : Int32)) (fX6_in x1 (0 : Int32) (((g.2 0) (0 : Int32).toNatClampNeg) - (1 : Int32))) rfl) (va_cwS 3 hts gX6_isBoard_X6_in rfl rfl rfl (by decide +kernel) ⟨Nat.le_of_ble_eq_true rfl, Nat.le_of_ble_eq_true rfl⟩) hK hP hS hA [] rfl rfl hl.1 rfl (Nat.le_of_ble_eq_true rfl) dX6_isBoard_10 ⟨Nat.zero_le _, Nat.zero_le _⟩ (fun H locs hP hS => ?_)
  have e0 : (fX6_in x1 (0 : Int32) (((g.2 0) (0 : Int32).toNatClampNeg) - (1 : Int32))) = r0 := (Option.some.inj hf)
  subst e0
  exact hret H locs ls _ dX6_isBoard_13 (by first | rfl | exact bo_in | (exact bo_isHere (by assumption))) hS
set_option maxRecDepth 100000 in
theorem c_X6_isBoard (l : Launch) (D : va_G) (cI cN : ClassId) (z : Nat → Nat) (sz : Nat) (g : OS) (x1 : Int32) (r0 : Int32) (hf : fX6_isBoard g x1 = some r0) : CtP l D cI cN yX6_isBoard wsX6_isBoard rm_X6_isBoard [.ref (z 0), .int x1] (mdW cI z g) sz r0 := by
  refine mP (cc := cX6_isBoard) (maxL := 2) (ty := .boolean) (by decide) rfl rfl (Nat.le_of_ble_eq_true rfl) ?_
  intro p e s m args below meth c Q S hK hP hS hret ls hl
  exact w_X6_isBoard_0 S hK hret hf _ _ _ hP hS (lv_sub (show lv_has ls 2 [(0, .ref (z 0)), (1, .int x1)] from hl) [0, 1] rfl)
abbrev rm_X6_isMiddle : Room := { frames := 1, cells := 0, slots := 0, locals := 22 }
theorem in_X6_isMiddle_X6 : ∀ w ∈ u_ws RX6 TX6 12, w ∈ wsX6_isMiddle := fun w h => List.mem_cons_of_mem _ (List.mem_append_right _ h)
set_option maxRecDepth 100000 in
set_option maxHeartbeats 4000000 in
theorem w_X6_isMiddle_0 {p : Program} {l : Launch} {e : Env} {s : State} {m : MethodId} {args : Array Value} {below : List Frame} {meth : Method} {c : Code} {Q : State → Prop} {D : va_G} {cI cN : ClassId} {z : Nat → Nat} (S : CallFix p m c cX6_isMiddle 3 s args wsX6_isMiddle RX6) (hK : KN D cI cN s) {g : OS} {x1 : Int32} {x2 : Int32} {r0 : Int32} (hret : ∀ (H : Heap) (locs : List Loc) (ls : Array Slot) (pc : Nat), decode cX6_isMiddle pc = .ok (.ireturn, 1) → narrow .boolean (.int r0) = .int r0 → va_S (nwA s.heap.size) s.heap H locs → W p l e (headSpec wsX6_isMiddle rm_X6_isMiddle).room s m args below meth c H locs 0 0 Q (F0 m pc ls [.int r0])) (hf : fX6_isMiddle g x1 x2 = some r0) (H : Heap) (locs : List Loc) (ls : Array Slot) (hP : va_P D vwCl (mdW cI z g) H) (hS : va_S (nwA s.heap.size) s.heap H locs) (hl : lv_has ls 3 [(0, .ref (z 0)), (1, .int x1), (2, .int x2)]) : W p l e (headSpec wsX6_isMiddle rm_X6_isMiddle).room s m args below meth c H locs 0 0 Q (F0 m 0 ls []) := by
  obtain ⟨hx, hb, hml, hown, hts⟩ := id S
  have inX6 := in_X6_isMiddle_X6
  have hA : ∀ q : Nat, s.heap.size ≤ q → nwA s.heap.size q := fun _ h => h
  unfold fX6_isMiddle at hf
  refine lv_iload_n hx hb dX6_isMiddle_0 rfl (lv_at hl 2 rfl) ?_
  refine lv_iconst (v := (0 : Int32)) hx hb dX6_isMiddle_1 kc_iconst_0 ?_
  refine lv_aload_n hx hb dX6_isMiddle_2 rfl (lv_at hl 0 rfl) ?_
  refine va_get (D := D) (ci := 6) (v := .ref (z 1)) (C := RX6) (T := TX6) (N := 12) hx hb hts inX6 hown hK.1 hP 0 rfl rfl 0 (by decide) (hts (.fieldLink RX6 7 "ClosExchangeModel" "s" "[I") (List.mem_of_getElem? (i := 1) rfl)) (fun _ h9 => h9) rfl dX6_isMiddle_3 ?_
  refine lv_iload_n hx hb dX6_isMiddle_6 rfl (lv_at hl 1 rfl) ?_
  refine lv_iconst (v := (2 : Int32)) hx hb dX6_isMiddle_7 kc_iconst_2 ?_
  refine lv_iadd hx hb dX6_isMiddle_8 ?_
  obtain ⟨c1, hf⟩ := it_g hf
  refine va_iald hx hb hK.1 hP 1 0 rfl rfl (inb_in c1) dX6_isMiddle_9 ?_
  refine lv_iconst (v := (1 : Int32)) hx hb dX6_isMiddle_10 kc_iconst_1 ?_
  refine lv_isub hx hb dX6_isMiddle_11 ?_
  refine cSi (As := [.int x2, .int (0 : Int32), .int (((g.2 0) (x1 + (2 : Int32)).toNatClampNeg) - (1 : Int32))]) (rest := []) S (c_X6_in l D cI cN _ x2 (0 : Int32) (((g.2 0) (x1 + (2 : Int32)).toNatClampNeg) - (1 : Int32)) (fX6_in x2 (0 : Int32) (((g.2 0) (x1 + (2 : Int32)).toNatClampNeg) - (1 : Int32))) rfl) (va_cwS 3 hts gX6_isMiddle_X6_in rfl rfl rfl (by decide +kernel) ⟨Nat.le_of_ble_eq_true rfl, Nat.le_of_ble_eq_true rfl⟩) hK hP hS hA [] rfl rfl hl.1 rfl (Nat.le_of_ble_eq_true rfl) dX6_isMiddle_12 ⟨Nat.zero_le _, Nat.zero_le _⟩ (fun H locs hP hS => ?_)
  have e0 : (fX6_in x2 (0 : Int32) (((g.2 0) (x1 + (2 : Int32)).toNatClampNeg) - (1 : Int32))) = r0 := (Option.some.inj hf)
  subst e0
  exact hret H locs ls _ dX6_isMiddle_15 (by first | rfl | exact bo_in | (exact bo_isHere (by assumption))) hS
set_option maxRecDepth 100000 in
theorem c_X6_isMiddle (l : Launch) (D : va_G) (cI cN : ClassId) (z : Nat → Nat) (sz : Nat) (g : OS) (x1 : Int32) (x2 : Int32) (r0 : Int32) (hf : fX6_isMiddle g x1 x2 = some r0) : CtP l D cI cN yX6_isMiddle wsX6_isMiddle rm_X6_isMiddle [.ref (z 0), .int x1, .int x2] (mdW cI z g) sz r0 := by
  refine mP (cc := cX6_isMiddle) (maxL := 3) (ty := .boolean) (by decide) rfl rfl (Nat.le_of_ble_eq_true rfl) ?_
  intro p e s m args below meth c Q S hK hP hS hret ls hl
  exact w_X6_isMiddle_0 S hK hret hf _ _ _ hP hS (lv_sub (show lv_has ls 3 [(0, .ref (z 0)), (1, .int x1), (2, .int x2)] from hl) [0, 1, 2] rfl)
abbrev rm_X6_builds : Room := { frames := 1, cells := 0, slots := 0, locals := 24 }
theorem in_X6_builds_X6 : ∀ w ∈ u_ws RX6 TX6 12, w ∈ wsX6_builds := fun w h => List.mem_cons_of_mem _ (List.mem_append_right _ h)
set_option maxRecDepth 100000 in
set_option maxHeartbeats 4000000 in
theorem w_X6_builds_46 {p : Program} {l : Launch} {e : Env} {s : State} {m : MethodId} {args : Array Value} {below : List Frame} {meth : Method} {c : Code} {Q : State → Prop} {D : va_G} {cI cN : ClassId} {A : Nat → Prop} {z : Nat → Nat} (S : CallFix p m c cX6_builds 6 s args wsX6_builds RX6) (hK : KN D cI cN s) (hA : ∀ q : Nat, s.heap.size ≤ q → A q) {x1 : Int32} {g' : OS} (hret : ∀ (H : Heap) (locs : List Loc) (ls : Array Slot) (pc : Nat), decode cX6_builds pc = .ok (.return_, 1) → va_P D vwCl (mdW cI z g') H → va_D A (mdW cI z g') → va_S A s.heap H locs → W p l e (headSpec wsX6_builds rm_X6_builds).room s m args below meth c H locs 0 0 Q (F0 m pc ls [])) : ∀ (k : Nat) (x5 : Int32) (g : OS), fX6_builds_46 x1 k x5 g = some g' → ∀ (H : Heap) (locs : List Loc) (ls : Array Slot), va_P D vwCl (mdW cI z g) H → va_D A (mdW cI z g) → va_S A s.heap H locs → lv_has ls 6 [(0, .ref (z 0)), (1, .int x1), (5, .int x5)] → W p l e (headSpec wsX6_builds rm_X6_builds).room s m args below meth c H locs 0 0 Q (F0 m 46 ls []) := by
  obtain ⟨hx, hb, hml, hown, hts⟩ := id S
  have inX6 := in_X6_builds_X6
  intro k
  induction k with
  | zero => intro x5 g hf; rw [fX6_builds_46_z] at hf; cases hf
  | succ k ih =>
    intro x5 g hf H locs ls hP hD hS hl
    rw [fX6_builds_46_s] at hf
    refine lv_iload hx hb dX6_builds_46 (lv_at hl 2 rfl) ?_
    refine lv_bipush (v := (48 : Int32)) hx hb dX6_builds_48 kc_bipush_48 ?_
    refine lv_icmp_ge (tgt := 86) hx hb dX6_builds_50 (by decide) (fun c9 => ?_) (fun c9 => ?_)
    · have hf := it_t hf c9
      have e0 : g = g' := (Option.some.inj hf)
      subst e0
      exact hret H locs ls _ dX6_builds_86 hP hD hS
    · have hf := it_f hf c9
      refine lv_aload_n hx hb dX6_builds_53 rfl (lv_at hl 0 rfl) ?_
      refine lv_iload_n hx hb dX6_builds_54 rfl (lv_at hl 1 rfl) ?_
      refine lv_iload hx hb dX6_builds_55 (lv_at hl 2 rfl) ?_
      refine lv_iconst (v := (0 : Int32)) hx hb dX6_builds_57 kc_iconst_0 ?_
      refine lv_iconst (v := (-1 : Int32)) hx hb dX6_builds_58 kc_iconst_m1 ?_
      obtain ⟨v10, hv10, hf⟩ := it_b hf
      refine cBv (As := [.int x1, .int x5, .int (0 : Int32), .int (-1 : Int32)]) (rest := []) (q0 := 0) (ci := 6) [(true, (mdW cI z g), (mdW cI z v10))] ⟨ad_mod, (fun h => Bool.noConfusion h), trivial⟩ S (c_X6_lay l D cI cN z _ g x1 x5 (0 : Int32) (-1 : Int32) v10 hv10) (cwV 4 hts gX6_builds_X6_lay rfl rfl rfl (by decide +kernel) ⟨Nat.le_of_ble_eq_true rfl, Nat.le_of_ble_eq_true rfl⟩) hK hP hD hS hA rfl rfl rfl hl.1 rfl (Nat.le_of_ble_eq_true rfl) dX6_builds_59 ⟨Nat.zero_le _, Nat.zero_le _⟩ (fun H locs hP hD hS => ?_)
      refine lv_aload_n hx hb dX6_builds_62 rfl (lv_at hl 0 rfl) ?_
      refine lv_iload_n hx hb dX6_builds_63 rfl (lv_at hl 1 rfl) ?_
      refine lv_iload hx hb dX6_builds_64 (lv_at hl 2 rfl) ?_
      refine lv_iconst (v := (1 : Int32)) hx hb dX6_builds_66 kc_iconst_1 ?_
      refine lv_iconst (v := (-1 : Int32)) hx hb dX6_builds_67 kc_iconst_m1 ?_
      obtain ⟨v11, hv11, hf⟩ := it_b hf
      refine cBv (As := [.int x1, .int x5, .int (1 : Int32), .int (-1 : Int32)]) (rest := []) (q0 := 0) (ci := 6) [(true, (mdW cI z v10), (mdW cI z v11))] ⟨ad_mod, (fun h => Bool.noConfusion h), trivial⟩ S (c_X6_lay l D cI cN z _ v10 x1 x5 (1 : Int32) (-1 : Int32) v11 hv11) (cwV 4 hts gX6_builds_X6_lay rfl rfl rfl (by decide +kernel) ⟨Nat.le_of_ble_eq_true rfl, Nat.le_of_ble_eq_true rfl⟩) hK hP hD hS hA rfl rfl rfl hl.1 rfl (Nat.le_of_ble_eq_true rfl) dX6_builds_68 ⟨Nat.zero_le _, Nat.zero_le _⟩ (fun H locs hP hD hS => ?_)
      refine lv_aload_n hx hb dX6_builds_71 rfl (lv_at hl 0 rfl) ?_
      refine lv_iload_n hx hb dX6_builds_72 rfl (lv_at hl 1 rfl) ?_
      refine lv_iload hx hb dX6_builds_73 (lv_at hl 2 rfl) ?_
      refine lv_iconst (v := (2 : Int32)) hx hb dX6_builds_75 kc_iconst_2 ?_
      refine lv_iconst (v := (-1 : Int32)) hx hb dX6_builds_76 kc_iconst_m1 ?_
      obtain ⟨v12, hv12, hf⟩ := it_b hf
      refine cBv (As := [.int x1, .int x5, .int (2 : Int32), .int (-1 : Int32)]) (rest := []) (q0 := 0) (ci := 6) [(true, (mdW cI z v11), (mdW cI z v12))] ⟨ad_mod, (fun h => Bool.noConfusion h), trivial⟩ S (c_X6_lay l D cI cN z _ v11 x1 x5 (2 : Int32) (-1 : Int32) v12 hv12) (cwV 4 hts gX6_builds_X6_lay rfl rfl rfl (by decide +kernel) ⟨Nat.le_of_ble_eq_true rfl, Nat.le_of_ble_eq_true rfl⟩) hK hP hD hS hA rfl rfl rfl hl.1 rfl (Nat.le_of_ble_eq_true rfl) dX6_builds_77 ⟨Nat.zero_le _, Nat.zero_le _⟩ (fun H locs hP hD hS => ?_)
      refine lv_iinc (v := (x5 + (1 : Int32))) (lv' := [(5, .int (x5 + (1 : Int32))), (0, .ref (z 0)), (1, .int x1)]) hx hb dX6_builds_80 hl (k := 2) rfl rfl (by decide) rfl (fun ls hl => ?_)
      refine lv_goto (tgt := 46) hx hb dX6_builds_83 (by decide) ?_
      exact ih _ _ hf H locs ls hP hD hS (lv_sub hl [1, 2, 0] rfl)
set_option maxRecDepth 100000 in
set_option maxHeartbeats 4000000 in
theorem w_X6_builds_0 {p : Program} {l : Launch} {e : Env} {s : State} {m : MethodId} {args : Array Value} {below : List Frame} {meth : Method} {c : Code} {Q : State → Prop} {D : va_G} {cI cN : ClassId} {A : Nat → Prop} {z : Nat → Nat} (S : CallFix p m c cX6_builds 6 s args wsX6_builds RX6) (hK : KN D cI cN s) (hA : ∀ q : Nat, s.heap.size ≤ q → A q) {g : OS} {x1 : Int32} {x2 : Int32} {x3 : Int32} {x4 : Int32} {g' : OS} (hret : ∀ (H : Heap) (locs : List Loc) (ls : Array Slot) (pc : Nat), decode cX6_builds pc = .ok (.return_, 1) → va_P D vwCl (mdW cI z g') H → va_D A (mdW cI z g') → va_S A s.heap H locs → W p l e (headSpec wsX6_builds rm_X6_builds).room s m args below meth c H locs 0 0 Q (F0 m pc ls [])) (hf : fX6_builds g x1 x2 x3 x4 = some g') (H : Heap) (locs : List Loc) (ls : Array Slot) (hP : va_P D vwCl (mdW cI z g) H) (hD : va_D A (mdW cI z g)) (hS : va_S A s.heap H locs) (hl : lv_has ls 6 [(0, .ref (z 0)), (1, .int x1), (2, .int x2), (3, .int x3), (4, .int x4)]) : W p l e (headSpec wsX6_builds rm_X6_builds).room s m args below meth c H locs 0 0 Q (F0 m 0 ls []) := by
  obtain ⟨hx, hb, hml, hown, hts⟩ := id S
  have inX6 := in_X6_builds_X6
  unfold fX6_builds at hf
  refine lv_aload_n hx hb dX6_builds_0 rfl (lv_at hl 0 rfl) ?_
  refine va_get (D := D) (ci := 6) (v := .ref (z 1)) (C := RX6) (T := TX6) (N := 12) hx hb hts inX6 hown hK.1 hP 0 rfl rfl 0 (by decide) (hts (.fieldLink RX6 7 "ClosExchangeModel" "s" "[I") (List.mem_of_getElem? (i := 1) rfl)) (fun _ h9 => h9) rfl dX6_builds_1 ?_
  refine lv_iload_n hx hb dX6_builds_4 rfl (lv_at hl 1 rfl) ?_
  refine lv_iconst (v := (0 : Int32)) hx hb dX6_builds_5 kc_iconst_0 ?_
  refine lv_iadd hx hb dX6_builds_6 ?_
  refine lv_iload_n hx hb dX6_builds_7 rfl (lv_at hl 2 rfl) ?_
  obtain ⟨c1, hf⟩ := it_g hf
  obtain ⟨w2, hw2, hf⟩ := it_j hf
  refine giastw (wf := (mdW cI z (setR g 0 w2))) hw2 hx hb hK.1 hP hD hS 1 0 rfl rfl (inb_in c1) dX6_builds_8 rfl (fun H locs hP hD hS => ?_)
  refine lv_aload_n hx hb dX6_builds_9 rfl (lv_at hl 0 rfl) ?_
  refine va_get (D := D) (ci := 6) (v := .ref (z 1)) (C := RX6) (T := TX6) (N := 12) hx hb hts inX6 hown hK.1 hP 0 rfl rfl 0 (by decide) (hts (.fieldLink RX6 7 "ClosExchangeModel" "s" "[I") (List.mem_of_getElem? (i := 1) rfl)) (fun _ h9 => h9) rfl dX6_builds_10 ?_
  refine lv_iload_n hx hb dX6_builds_13 rfl (lv_at hl 1 rfl) ?_
  refine lv_iconst (v := (1 : Int32)) hx hb dX6_builds_14 kc_iconst_1 ?_
  refine lv_iadd hx hb dX6_builds_15 ?_
  refine lv_iload_n hx hb dX6_builds_16 rfl (lv_at hl 3 rfl) ?_
  obtain ⟨c3, hf⟩ := it_g hf
  obtain ⟨w4, hw4, hf⟩ := it_j hf
  refine giastw (wf := (mdW cI z (setR g 0 w4))) hw4 hx hb hK.1 hP hD hS 1 0 rfl rfl (inb_in c3) dX6_builds_17 rfl (fun H locs hP hD hS => ?_)
  refine lv_aload_n hx hb dX6_builds_18 rfl (lv_at hl 0 rfl) ?_
  refine va_get (D := D) (ci := 6) (v := .ref (z 1)) (C := RX6) (T := TX6) (N := 12) hx hb hts inX6 hown hK.1 hP 0 rfl rfl 0 (by decide) (hts (.fieldLink RX6 7 "ClosExchangeModel" "s" "[I") (List.mem_of_getElem? (i := 1) rfl)) (fun _ h9 => h9) rfl dX6_builds_19 ?_
  refine lv_iload_n hx hb dX6_builds_22 rfl (lv_at hl 1 rfl) ?_
  refine lv_iconst (v := (2 : Int32)) hx hb dX6_builds_23 kc_iconst_2 ?_
  refine lv_iadd hx hb dX6_builds_24 ?_
  refine lv_iload hx hb dX6_builds_25 (lv_at hl 4 rfl) ?_
  obtain ⟨c5, hf⟩ := it_g hf
  obtain ⟨w6, hw6, hf⟩ := it_j hf
  refine giastw (wf := (mdW cI z (setR g 0 w6))) hw6 hx hb hK.1 hP hD hS 1 0 rfl rfl (inb_in c5) dX6_builds_27 rfl (fun H locs hP hD hS => ?_)
  refine lv_aload_n hx hb dX6_builds_28 rfl (lv_at hl 0 rfl) ?_
  refine va_get (D := D) (ci := 6) (v := .ref (z 1)) (C := RX6) (T := TX6) (N := 12) hx hb hts inX6 hown hK.1 hP 0 rfl rfl 0 (by decide) (hts (.fieldLink RX6 7 "ClosExchangeModel" "s" "[I") (List.mem_of_getElem? (i := 1) rfl)) (fun _ h9 => h9) rfl dX6_builds_29 ?_
  refine lv_iload_n hx hb dX6_builds_32 rfl (lv_at hl 1 rfl) ?_
  refine lv_bipush (v := (9 : Int32)) hx hb dX6_builds_33 kc_bipush_9 ?_
  refine lv_iadd hx hb dX6_builds_35 ?_
  refine lv_iconst (v := (1 : Int32)) hx hb dX6_builds_36 kc_iconst_1 ?_
  refine lv_iload hx hb dX6_builds_37 (lv_at hl 4 rfl) ?_
  refine lv_ishl hx hb dX6_builds_39 ?_
  refine lv_iconst (v := (1 : Int32)) hx hb dX6_builds_40 kc_iconst_1 ?_
  refine lv_isub hx hb dX6_builds_41 ?_
  obtain ⟨c7, hf⟩ := it_g hf
  obtain ⟨w8, hw8, hf⟩ := it_j hf
  refine giastw (wf := (mdW cI z (setR g 0 w8))) hw8 hx hb hK.1 hP hD hS 1 0 rfl rfl (inb_in c7) dX6_builds_42 rfl (fun H locs hP hD hS => ?_)
  refine lv_iconst (v := (0 : Int32)) hx hb dX6_builds_43 kc_iconst_0 ?_
  refine lv_istore (lv' := [(5, .int (0 : Int32)), (0, .ref (z 0)), (1, .int x1), (2, .int x2), (3, .int x3), (4, .int x4)]) hx hb dX6_builds_44 hl (by decide) rfl (fun ls hl => ?_)
  exact w_X6_builds_46 S hK hA hret _ _ _ hf H locs ls hP hD hS (lv_sub hl [1, 2, 0] rfl)
set_option maxRecDepth 100000 in
theorem c_X6_builds (l : Launch) (D : va_G) (cI cN : ClassId) (z : Nat → Nat) (sz : Nat) (g : OS) (x1 : Int32) (x2 : Int32) (x3 : Int32) (x4 : Int32) (g' : OS) (hf : fX6_builds g x1 x2 x3 x4 = some g') : CtV l D cI cN yX6_builds wsX6_builds rm_X6_builds 0 0 [.ref (z 0), .int x1, .int x2, .int x3, .int x4] (mdW cI z g) sz (mdW cI z g') := by
  refine mV (cc := cX6_builds) (maxL := 6) (by decide) rfl (Nat.le_of_ble_eq_true rfl) ?_
  intro p e s m args below meth c Q A S _ hK hP hD hS hA hret ls hl
  exact w_X6_builds_0 S hK hA hret hf _ _ _ hP hD hS (lv_sub (show lv_has ls 6 [(0, .ref (z 0)), (1, .int x1), (2, .int x2), (3, .int x3), (4, .int x4)] from hl) [0, 1, 2, 3, 4] rfl)
abbrev rm_X6_calls : Room := { frames := 1, cells := 0, slots := 0, locals := 23 }
set_option maxRecDepth 100000 in
set_option maxHeartbeats 4000000 in
theorem w_X6_calls_4 {p : Program} {l : Launch} {e : Env} {s : State} {m : MethodId} {args : Array Value} {below : List Frame} {meth : Method} {c : Code} {Q : State → Prop} {D : va_G} {cI cN : ClassId} {z : Nat → Nat} (S : CallFix p m c cX6_calls 4 s args wsX6_calls RX6) (hK : KN D cI cN s) {g : OS} {x1 : Int32} {r0 : Int32} (hret : ∀ (H : Heap) (locs : List Loc) (ls : Array Slot) (pc : Nat), decode cX6_calls pc = .ok (.ireturn, 1) → narrow .int (.int r0) = .int r0 → va_S (nwA s.heap.size) s.heap H locs → W p l e (headSpec wsX6_calls rm_X6_calls).room s m args below meth c H locs 0 0 Q (F0 m pc ls [.int r0])) : ∀ (k : Nat) (x2 : Int32) (x3 : Int32), fX6_calls_4 g x1 k x2 x3 = some r0 → ∀ (H : Heap) (locs : List Loc) (ls : Array Slot), va_P D vwCl (mdW cI z g) H → va_S (nwA s.heap.size) s.heap H locs → lv_has ls 4 [(0, .ref (z 0)), (1, .int x1), (2, .int x2), (3, .int x3)] → W p l e (headSpec wsX6_calls rm_X6_calls).room s m args below meth c H locs 0 0 Q (F0 m 4 ls []) := by
  obtain ⟨hx, hb, hml, hown, hts⟩ := id S
  have hA : ∀ q : Nat, s.heap.size ≤ q → nwA s.heap.size q := fun _ h => h
  intro k
  induction k with
  | zero => intro x2 x3 hf; rw [fX6_calls_4_z] at hf; cases hf
  | succ k ih =>
    intro x2 x3 hf H locs ls hP hS hl
    rw [fX6_calls_4_s] at hf
    refine lv_iload_n hx hb dX6_calls_4 rfl (lv_at hl 3 rfl) ?_
    refine lv_aload_n hx hb dX6_calls_5 rfl (lv_at hl 0 rfl) ?_
    refine lv_iload_n hx hb dX6_calls_6 rfl (lv_at hl 1 rfl) ?_
    obtain ⟨v1, hv1, hf⟩ := it_b hf
    refine cQi (As := [.int x1]) (rest := [.int x3]) (q0 := 0) (ci := 6) S (c_X6_lines l D cI cN z _ g x1 v1 hv1) (cwV 1 hts gX6_calls_X6_lines rfl rfl rfl (by decide +kernel) ⟨Nat.le_of_ble_eq_true rfl, Nat.le_of_ble_eq_true rfl⟩) hK hP hS hA hP rfl rfl rfl hl.1 rfl (Nat.le_of_ble_eq_true rfl) dX6_calls_7 ⟨Nat.zero_le _, Nat.zero_le _⟩ (fun H locs hP hS => ?_)
    refine lv_icmp_ge (tgt := 38) hx hb dX6_calls_10 (by decide) (fun c2 => ?_) (fun c2 => ?_)
    · have hf := it_t hf c2
      refine lv_iload_n hx hb dX6_calls_38 rfl (lv_at hl 2 rfl) ?_
      have e0 : x2 = r0 := (Option.some.inj hf)
      subst e0
      exact hret H locs ls _ dX6_calls_39 rfl hS
    · have hf := it_f hf c2
      refine lv_iload_n hx hb dX6_calls_13 rfl (lv_at hl 2 rfl) ?_
      refine lv_aload_n hx hb dX6_calls_14 rfl (lv_at hl 0 rfl) ?_
      refine lv_iload_n hx hb dX6_calls_15 rfl (lv_at hl 1 rfl) ?_
      refine lv_iload_n hx hb dX6_calls_16 rfl (lv_at hl 3 rfl) ?_
      refine lv_iconst (v := (0 : Int32)) hx hb dX6_calls_17 kc_iconst_0 ?_
      obtain ⟨v3, hv3, hf⟩ := it_b hf
      refine cQi (As := [.int x1, .int x3, .int (0 : Int32)]) (rest := [.int x2]) (q0 := 0) (ci := 6) S (c_X6_of l D cI cN z _ g x1 x3 (0 : Int32) v3 hv3) (cwV 3 hts gX6_calls_X6_of rfl rfl rfl (by decide +kernel) ⟨Nat.le_of_ble_eq_true rfl, Nat.le_of_ble_eq_true rfl⟩) hK hP hS hA hP rfl rfl rfl hl.1 rfl (Nat.le_of_ble_eq_true rfl) dX6_calls_18 ⟨Nat.zero_le _, Nat.zero_le _⟩ (fun H locs hP hS => ?_)
      refine lv_iconst (v := (-1 : Int32)) hx hb dX6_calls_21 kc_iconst_m1 ?_
      refine lv_icmp_ne (tgt := 29) hx hb dX6_calls_22 (by decide) (fun c4 => ?_) (fun c4 => ?_)
      · have hf := it_f hf c4
        refine lv_iconst (v := (1 : Int32)) hx hb dX6_calls_29 kc_iconst_1 ?_
        refine lv_iadd hx hb dX6_calls_30 ?_
        refine lv_istore_n (lv' := [(2, .int (x2 + (1 : Int32))), (0, .ref (z 0)), (1, .int x1), (3, .int x3)]) hx hb dX6_calls_31 rfl hl (by decide) rfl (fun ls hl => ?_)
        refine lv_iinc (v := (x3 + (1 : Int32))) (lv' := [(3, .int (x3 + (1 : Int32))), (2, .int (x2 + (1 : Int32))), (0, .ref (z 0)), (1, .int x1)]) hx hb dX6_calls_32 hl (k := 3) rfl rfl (by decide) rfl (fun ls hl => ?_)
        refine lv_goto (tgt := 4) hx hb dX6_calls_35 (by decide) ?_
        exact ih _ _ hf H locs ls hP hS (lv_sub hl [2, 3, 1, 0] rfl)
      · have hf := it_t hf c4
        refine lv_iconst (v := (0 : Int32)) hx hb dX6_calls_25 kc_iconst_0 ?_
        refine lv_goto (tgt := 30) hx hb dX6_calls_26 (by decide) ?_
        refine lv_iadd hx hb dX6_calls_30 ?_
        refine lv_istore_n (lv' := [(2, .int (x2 + (0 : Int32))), (0, .ref (z 0)), (1, .int x1), (3, .int x3)]) hx hb dX6_calls_31 rfl hl (by decide) rfl (fun ls hl => ?_)
        refine lv_iinc (v := (x3 + (1 : Int32))) (lv' := [(3, .int (x3 + (1 : Int32))), (2, .int (x2 + (0 : Int32))), (0, .ref (z 0)), (1, .int x1)]) hx hb dX6_calls_32 hl (k := 3) rfl rfl (by decide) rfl (fun ls hl => ?_)
        refine lv_goto (tgt := 4) hx hb dX6_calls_35 (by decide) ?_
        exact ih _ _ hf H locs ls hP hS (lv_sub hl [2, 3, 1, 0] rfl)
set_option maxRecDepth 100000 in
set_option maxHeartbeats 4000000 in
theorem w_X6_calls_0 {p : Program} {l : Launch} {e : Env} {s : State} {m : MethodId} {args : Array Value} {below : List Frame} {meth : Method} {c : Code} {Q : State → Prop} {D : va_G} {cI cN : ClassId} {z : Nat → Nat} (S : CallFix p m c cX6_calls 4 s args wsX6_calls RX6) (hK : KN D cI cN s) {g : OS} {x1 : Int32} {r0 : Int32} (hret : ∀ (H : Heap) (locs : List Loc) (ls : Array Slot) (pc : Nat), decode cX6_calls pc = .ok (.ireturn, 1) → narrow .int (.int r0) = .int r0 → va_S (nwA s.heap.size) s.heap H locs → W p l e (headSpec wsX6_calls rm_X6_calls).room s m args below meth c H locs 0 0 Q (F0 m pc ls [.int r0])) (hf : fX6_calls g x1 = some r0) (H : Heap) (locs : List Loc) (ls : Array Slot) (hP : va_P D vwCl (mdW cI z g) H) (hS : va_S (nwA s.heap.size) s.heap H locs) (hl : lv_has ls 4 [(0, .ref (z 0)), (1, .int x1)]) : W p l e (headSpec wsX6_calls rm_X6_calls).room s m args below meth c H locs 0 0 Q (F0 m 0 ls []) := by
  obtain ⟨hx, hb, hml, hown, hts⟩ := id S
  have hA : ∀ q : Nat, s.heap.size ≤ q → nwA s.heap.size q := fun _ h => h
  unfold fX6_calls at hf
  refine lv_iconst (v := (0 : Int32)) hx hb dX6_calls_0 kc_iconst_0 ?_
  refine lv_istore_n (lv' := [(2, .int (0 : Int32)), (0, .ref (z 0)), (1, .int x1)]) hx hb dX6_calls_1 rfl hl (by decide) rfl (fun ls hl => ?_)
  refine lv_iconst (v := (0 : Int32)) hx hb dX6_calls_2 kc_iconst_0 ?_
  refine lv_istore_n (lv' := [(3, .int (0 : Int32)), (2, .int (0 : Int32)), (0, .ref (z 0)), (1, .int x1)]) hx hb dX6_calls_3 rfl hl (by decide) rfl (fun ls hl => ?_)
  exact w_X6_calls_4 S hK hret _ _ _ hf H locs ls hP hS (lv_sub hl [2, 3, 1, 0] rfl)
set_option maxRecDepth 100000 in
theorem c_X6_calls (l : Launch) (D : va_G) (cI cN : ClassId) (z : Nat → Nat) (sz : Nat) (g : OS) (x1 : Int32) (r0 : Int32) (hf : fX6_calls g x1 = some r0) : CtP l D cI cN yX6_calls wsX6_calls rm_X6_calls [.ref (z 0), .int x1] (mdW cI z g) sz r0 := by
  refine mP (cc := cX6_calls) (maxL := 4) (ty := .int) (by decide) rfl rfl (Nat.le_of_ble_eq_true rfl) ?_
  intro p e s m args below meth c Q S hK hP hS hret ls hl
  exact w_X6_calls_0 S hK hret hf _ _ _ hP hS (lv_sub (show lv_has ls 4 [(0, .ref (z 0)), (1, .int x1)] from hl) [0, 1] rfl)
abbrev rm_X6_inletTo : Room := { frames := 1, cells := 0, slots := 0, locals := 23 }
set_option maxRecDepth 100000 in
set_option maxHeartbeats 4000000 in
theorem w_X6_inletTo_2 {p : Program} {l : Launch} {e : Env} {s : State} {m : MethodId} {args : Array Value} {below : List Frame} {meth : Method} {c : Code} {Q : State → Prop} {D : va_G} {cI cN : ClassId} {z : Nat → Nat} (S : CallFix p m c cX6_inletTo 4 s args wsX6_inletTo RX6) (hK : KN D cI cN s) {g : OS} {x1 : Int32} {x2 : Int32} {r0 : Int32} (hret : ∀ (H : Heap) (locs : List Loc) (ls : Array Slot) (pc : Nat), decode cX6_inletTo pc = .ok (.ireturn, 1) → narrow .int (.int r0) = .int r0 → va_S (nwA s.heap.size) s.heap H locs → W p l e (headSpec wsX6_inletTo rm_X6_inletTo).room s m args below meth c H locs 0 0 Q (F0 m pc ls [.int r0])) : ∀ (k : Nat) (x3 : Int32), fX6_inletTo_2 g x1 x2 k x3 = some r0 → ∀ (H : Heap) (locs : List Loc) (ls : Array Slot), va_P D vwCl (mdW cI z g) H → va_S (nwA s.heap.size) s.heap H locs → lv_has ls 4 [(0, .ref (z 0)), (1, .int x1), (2, .int x2), (3, .int x3)] → W p l e (headSpec wsX6_inletTo rm_X6_inletTo).room s m args below meth c H locs 0 0 Q (F0 m 2 ls []) := by
  obtain ⟨hx, hb, hml, hown, hts⟩ := id S
  have hA : ∀ q : Nat, s.heap.size ≤ q → nwA s.heap.size q := fun _ h => h
  intro k
  induction k with
  | zero => intro x3 hf; rw [fX6_inletTo_2_z] at hf; cases hf
  | succ k ih =>
    intro x3 hf H locs ls hP hS hl
    rw [fX6_inletTo_2_s] at hf
    refine lv_iload_n hx hb dX6_inletTo_2 rfl (lv_at hl 3 rfl) ?_
    refine lv_aload_n hx hb dX6_inletTo_3 rfl (lv_at hl 0 rfl) ?_
    refine lv_iload_n hx hb dX6_inletTo_4 rfl (lv_at hl 1 rfl) ?_
    obtain ⟨v1, hv1, hf⟩ := it_b hf
    refine cQi (As := [.int x1]) (rest := [.int x3]) (q0 := 0) (ci := 6) S (c_X6_lines l D cI cN z _ g x1 v1 hv1) (cwV 1 hts gX6_inletTo_X6_lines rfl rfl rfl (by decide +kernel) ⟨Nat.le_of_ble_eq_true rfl, Nat.le_of_ble_eq_true rfl⟩) hK hP hS hA hP rfl rfl rfl hl.1 rfl (Nat.le_of_ble_eq_true rfl) dX6_inletTo_5 ⟨Nat.zero_le _, Nat.zero_le _⟩ (fun H locs hP hS => ?_)
    refine lv_icmp_ge (tgt := 41) hx hb dX6_inletTo_8 (by decide) (fun c2 => ?_) (fun c2 => ?_)
    · have hf := it_t hf c2
      refine lv_iconst (v := (-1 : Int32)) hx hb dX6_inletTo_41 kc_iconst_m1 ?_
      have e0 : (-1 : Int32) = r0 := (Option.some.inj hf)
      subst e0
      exact hret H locs ls _ dX6_inletTo_42 rfl hS
    · have hf := it_f hf c2
      refine lv_aload_n hx hb dX6_inletTo_11 rfl (lv_at hl 0 rfl) ?_
      refine lv_iload_n hx hb dX6_inletTo_12 rfl (lv_at hl 1 rfl) ?_
      refine lv_iload_n hx hb dX6_inletTo_13 rfl (lv_at hl 3 rfl) ?_
      refine lv_iconst (v := (0 : Int32)) hx hb dX6_inletTo_14 kc_iconst_0 ?_
      obtain ⟨v3, hv3, hf⟩ := it_b hf
      refine cQi (As := [.int x1, .int x3, .int (0 : Int32)]) (rest := []) (q0 := 0) (ci := 6) S (c_X6_of l D cI cN z _ g x1 x3 (0 : Int32) v3 hv3) (cwV 3 hts gX6_inletTo_X6_of rfl rfl rfl (by decide +kernel) ⟨Nat.le_of_ble_eq_true rfl, Nat.le_of_ble_eq_true rfl⟩) hK hP hS hA hP rfl rfl rfl hl.1 rfl (Nat.le_of_ble_eq_true rfl) dX6_inletTo_15 ⟨Nat.zero_le _, Nat.zero_le _⟩ (fun H locs hP hS => ?_)
      refine lv_iconst (v := (-1 : Int32)) hx hb dX6_inletTo_18 kc_iconst_m1 ?_
      refine lv_icmp_eq (tgt := 35) hx hb dX6_inletTo_19 (by decide) (fun c4 => ?_) (fun c4 => ?_)
      · have hf := it_t hf c4
        refine lv_iinc (v := (x3 + (1 : Int32))) (lv' := [(3, .int (x3 + (1 : Int32))), (0, .ref (z 0)), (1, .int x1), (2, .int x2)]) hx hb dX6_inletTo_35 hl (k := 3) rfl rfl (by decide) rfl (fun ls hl => ?_)
        refine lv_goto (tgt := 2) hx hb dX6_inletTo_38 (by decide) ?_
        exact ih _ hf H locs ls hP hS (lv_sub hl [1, 2, 3, 0] rfl)
      · have hf := it_f hf c4
        refine lv_aload_n hx hb dX6_inletTo_22 rfl (lv_at hl 0 rfl) ?_
        refine lv_iload_n hx hb dX6_inletTo_23 rfl (lv_at hl 1 rfl) ?_
        refine lv_iload_n hx hb dX6_inletTo_24 rfl (lv_at hl 3 rfl) ?_
        refine lv_iconst (v := (1 : Int32)) hx hb dX6_inletTo_25 kc_iconst_1 ?_
        obtain ⟨v5, hv5, hf⟩ := it_b hf
        refine cQi (As := [.int x1, .int x3, .int (1 : Int32)]) (rest := []) (q0 := 0) (ci := 6) S (c_X6_of l D cI cN z _ g x1 x3 (1 : Int32) v5 hv5) (cwV 3 hts gX6_inletTo_X6_of rfl rfl rfl (by decide +kernel) ⟨Nat.le_of_ble_eq_true rfl, Nat.le_of_ble_eq_true rfl⟩) hK hP hS hA hP rfl rfl rfl hl.1 rfl (Nat.le_of_ble_eq_true rfl) dX6_inletTo_26 ⟨Nat.zero_le _, Nat.zero_le _⟩ (fun H locs hP hS => ?_)
        refine lv_iload_n hx hb dX6_inletTo_29 rfl (lv_at hl 2 rfl) ?_
        refine lv_icmp_ne (tgt := 35) hx hb dX6_inletTo_30 (by decide) (fun c6 => ?_) (fun c6 => ?_)
        · have hf := it_f hf c6
          refine lv_iinc (v := (x3 + (1 : Int32))) (lv' := [(3, .int (x3 + (1 : Int32))), (0, .ref (z 0)), (1, .int x1), (2, .int x2)]) hx hb dX6_inletTo_35 hl (k := 3) rfl rfl (by decide) rfl (fun ls hl => ?_)
          refine lv_goto (tgt := 2) hx hb dX6_inletTo_38 (by decide) ?_
          exact ih _ hf H locs ls hP hS (lv_sub hl [1, 2, 3, 0] rfl)
        · have hf := it_t hf c6
          refine lv_iload_n hx hb dX6_inletTo_33 rfl (lv_at hl 3 rfl) ?_
          have e0 : x3 = r0 := (Option.some.inj hf)
          subst e0
          exact hret H locs ls _ dX6_inletTo_34 rfl hS
set_option maxRecDepth 100000 in
set_option maxHeartbeats 4000000 in
theorem w_X6_inletTo_0 {p : Program} {l : Launch} {e : Env} {s : State} {m : MethodId} {args : Array Value} {below : List Frame} {meth : Method} {c : Code} {Q : State → Prop} {D : va_G} {cI cN : ClassId} {z : Nat → Nat} (S : CallFix p m c cX6_inletTo 4 s args wsX6_inletTo RX6) (hK : KN D cI cN s) {g : OS} {x1 : Int32} {x2 : Int32} {r0 : Int32} (hret : ∀ (H : Heap) (locs : List Loc) (ls : Array Slot) (pc : Nat), decode cX6_inletTo pc = .ok (.ireturn, 1) → narrow .int (.int r0) = .int r0 → va_S (nwA s.heap.size) s.heap H locs → W p l e (headSpec wsX6_inletTo rm_X6_inletTo).room s m args below meth c H locs 0 0 Q (F0 m pc ls [.int r0])) (hf : fX6_inletTo g x1 x2 = some r0) (H : Heap) (locs : List Loc) (ls : Array Slot) (hP : va_P D vwCl (mdW cI z g) H) (hS : va_S (nwA s.heap.size) s.heap H locs) (hl : lv_has ls 4 [(0, .ref (z 0)), (1, .int x1), (2, .int x2)]) : W p l e (headSpec wsX6_inletTo rm_X6_inletTo).room s m args below meth c H locs 0 0 Q (F0 m 0 ls []) := by
  obtain ⟨hx, hb, hml, hown, hts⟩ := id S
  have hA : ∀ q : Nat, s.heap.size ≤ q → nwA s.heap.size q := fun _ h => h
  unfold fX6_inletTo at hf
  refine lv_iconst (v := (0 : Int32)) hx hb dX6_inletTo_0 kc_iconst_0 ?_
  refine lv_istore_n (lv' := [(3, .int (0 : Int32)), (0, .ref (z 0)), (1, .int x1), (2, .int x2)]) hx hb dX6_inletTo_1 rfl hl (by decide) rfl (fun ls hl => ?_)
  exact w_X6_inletTo_2 S hK hret _ _ hf H locs ls hP hS (lv_sub hl [1, 2, 3, 0] rfl)
set_option maxRecDepth 100000 in
theorem c_X6_inletTo (l : Launch) (D : va_G) (cI cN : ClassId) (z : Nat → Nat) (sz : Nat) (g : OS) (x1 : Int32) (x2 : Int32) (r0 : Int32) (hf : fX6_inletTo g x1 x2 = some r0) : CtP l D cI cN yX6_inletTo wsX6_inletTo rm_X6_inletTo [.ref (z 0), .int x1, .int x2] (mdW cI z g) sz r0 := by
  refine mP (cc := cX6_inletTo) (maxL := 4) (ty := .int) (by decide) rfl rfl (Nat.le_of_ble_eq_true rfl) ?_
  intro p e s m args below meth c Q S hK hP hS hret ls hl
  exact w_X6_inletTo_0 S hK hret hf _ _ _ hP hS (lv_sub (show lv_has ls 4 [(0, .ref (z 0)), (1, .int x1), (2, .int x2)] from hl) [0, 1, 2] rfl)
abbrev rm_X6_onFirst : Room := { frames := 1, cells := 0, slots := 0, locals := 23 }
theorem in_X6_onFirst_X6 : ∀ w ∈ u_ws RX6 TX6 12, w ∈ wsX6_onFirst := fun w h => List.mem_cons_of_mem _ (List.mem_append_right _ h)
set_option maxRecDepth 100000 in
set_option maxHeartbeats 4000000 in
theorem w_X6_onFirst_3 {p : Program} {l : Launch} {e : Env} {s : State} {m : MethodId} {args : Array Value} {below : List Frame} {meth : Method} {c : Code} {Q : State → Prop} {D : va_G} {cI cN : ClassId} {z : Nat → Nat} (S : CallFix p m c cX6_onFirst 5 s args wsX6_onFirst RX6) (hK : KN D cI cN s) {g : OS} {x1 : Int32} {x2 : Int32} {x3 : Int32} {r0 : Int32} (hret : ∀ (H : Heap) (locs : List Loc) (ls : Array Slot) (pc : Nat), decode cX6_onFirst pc = .ok (.ireturn, 1) → narrow .int (.int r0) = .int r0 → va_S (nwA s.heap.size) s.heap H locs → W p l e (headSpec wsX6_onFirst rm_X6_onFirst).room s m args below meth c H locs 0 0 Q (F0 m pc ls [.int r0])) : ∀ (k : Nat) (x4 : Int32), fX6_onFirst_3 g x1 x2 x3 k x4 = some r0 → ∀ (H : Heap) (locs : List Loc) (ls : Array Slot), va_P D vwCl (mdW cI z g) H → va_S (nwA s.heap.size) s.heap H locs → lv_has ls 5 [(0, .ref (z 0)), (1, .int x1), (2, .int x2), (3, .int x3), (4, .int x4)] → W p l e (headSpec wsX6_onFirst rm_X6_onFirst).room s m args below meth c H locs 0 0 Q (F0 m 3 ls []) := by
  obtain ⟨hx, hb, hml, hown, hts⟩ := id S
  have inX6 := in_X6_onFirst_X6
  have hA : ∀ q : Nat, s.heap.size ≤ q → nwA s.heap.size q := fun _ h => h
  intro k
  induction k with
  | zero => intro x4 hf; rw [fX6_onFirst_3_z] at hf; cases hf
  | succ k ih =>
    intro x4 hf H locs ls hP hS hl
    rw [fX6_onFirst_3_s] at hf
    refine lv_iload hx hb dX6_onFirst_3 (lv_at hl 4 rfl) ?_
    refine lv_aload_n hx hb dX6_onFirst_5 rfl (lv_at hl 0 rfl) ?_
    refine lv_iload_n hx hb dX6_onFirst_6 rfl (lv_at hl 1 rfl) ?_
    obtain ⟨v1, hv1, hf⟩ := it_b hf
    refine cQi (As := [.int x1]) (rest := [.int x4]) (q0 := 0) (ci := 6) S (c_X6_lines l D cI cN z _ g x1 v1 hv1) (cwV 1 hts gX6_onFirst_X6_lines rfl rfl rfl (by decide +kernel) ⟨Nat.le_of_ble_eq_true rfl, Nat.le_of_ble_eq_true rfl⟩) hK hP hS hA hP rfl rfl rfl hl.1 rfl (Nat.le_of_ble_eq_true rfl) dX6_onFirst_7 ⟨Nat.zero_le _, Nat.zero_le _⟩ (fun H locs hP hS => ?_)
    refine lv_icmp_ge (tgt := 61) hx hb dX6_onFirst_10 (by decide) (fun c2 => ?_) (fun c2 => ?_)
    · have hf := it_t hf c2
      refine lv_iconst (v := (-1 : Int32)) hx hb dX6_onFirst_61 kc_iconst_m1 ?_
      have e0 : (-1 : Int32) = r0 := (Option.some.inj hf)
      subst e0
      exact hret H locs ls _ dX6_onFirst_62 rfl hS
    · have hf := it_f hf c2
      refine lv_aload_n hx hb dX6_onFirst_13 rfl (lv_at hl 0 rfl) ?_
      refine lv_iload_n hx hb dX6_onFirst_14 rfl (lv_at hl 1 rfl) ?_
      refine lv_iload hx hb dX6_onFirst_15 (lv_at hl 4 rfl) ?_
      refine lv_iconst (v := (0 : Int32)) hx hb dX6_onFirst_17 kc_iconst_0 ?_
      obtain ⟨v3, hv3, hf⟩ := it_b hf
      refine cQi (As := [.int x1, .int x4, .int (0 : Int32)]) (rest := []) (q0 := 0) (ci := 6) S (c_X6_of l D cI cN z _ g x1 x4 (0 : Int32) v3 hv3) (cwV 3 hts gX6_onFirst_X6_of rfl rfl rfl (by decide +kernel) ⟨Nat.le_of_ble_eq_true rfl, Nat.le_of_ble_eq_true rfl⟩) hK hP hS hA hP rfl rfl rfl hl.1 rfl (Nat.le_of_ble_eq_true rfl) dX6_onFirst_18 ⟨Nat.zero_le _, Nat.zero_le _⟩ (fun H locs hP hS => ?_)
      refine lv_iconst (v := (-1 : Int32)) hx hb dX6_onFirst_21 kc_iconst_m1 ?_
      refine lv_icmp_eq (tgt := 55) hx hb dX6_onFirst_22 (by decide) (fun c4 => ?_) (fun c4 => ?_)
      · have hf := it_t hf c4
        refine lv_iinc (v := (x4 + (1 : Int32))) (lv' := [(4, .int (x4 + (1 : Int32))), (0, .ref (z 0)), (1, .int x1), (2, .int x2), (3, .int x3)]) hx hb dX6_onFirst_55 hl (k := 4) rfl rfl (by decide) rfl (fun ls hl => ?_)
        refine lv_goto (tgt := 3) hx hb dX6_onFirst_58 (by decide) ?_
        exact ih _ hf H locs ls hP hS (lv_sub hl [1, 2, 3, 4, 0] rfl)
      · have hf := it_f hf c4
        refine lv_aload_n hx hb dX6_onFirst_25 rfl (lv_at hl 0 rfl) ?_
        refine lv_iload_n hx hb dX6_onFirst_26 rfl (lv_at hl 1 rfl) ?_
        refine lv_iload hx hb dX6_onFirst_27 (lv_at hl 4 rfl) ?_
        refine lv_iconst (v := (2 : Int32)) hx hb dX6_onFirst_29 kc_iconst_2 ?_
        obtain ⟨v5, hv5, hf⟩ := it_b hf
        refine cQi (As := [.int x1, .int x4, .int (2 : Int32)]) (rest := []) (q0 := 0) (ci := 6) S (c_X6_of l D cI cN z _ g x1 x4 (2 : Int32) v5 hv5) (cwV 3 hts gX6_onFirst_X6_of rfl rfl rfl (by decide +kernel) ⟨Nat.le_of_ble_eq_true rfl, Nat.le_of_ble_eq_true rfl⟩) hK hP hS hA hP rfl rfl rfl hl.1 rfl (Nat.le_of_ble_eq_true rfl) dX6_onFirst_30 ⟨Nat.zero_le _, Nat.zero_le _⟩ (fun H locs hP hS => ?_)
        refine lv_iload_n hx hb dX6_onFirst_33 rfl (lv_at hl 3 rfl) ?_
        refine lv_icmp_ne (tgt := 55) hx hb dX6_onFirst_34 (by decide) (fun c6 => ?_) (fun c6 => ?_)
        · have hf := it_f hf c6
          refine lv_iinc (v := (x4 + (1 : Int32))) (lv' := [(4, .int (x4 + (1 : Int32))), (0, .ref (z 0)), (1, .int x1), (2, .int x2), (3, .int x3)]) hx hb dX6_onFirst_55 hl (k := 4) rfl rfl (by decide) rfl (fun ls hl => ?_)
          refine lv_goto (tgt := 3) hx hb dX6_onFirst_58 (by decide) ?_
          exact ih _ hf H locs ls hP hS (lv_sub hl [1, 2, 3, 4, 0] rfl)
        · have hf := it_t hf c6
          refine lv_iload hx hb dX6_onFirst_37 (lv_at hl 4 rfl) ?_
          refine lv_aload_n hx hb dX6_onFirst_39 rfl (lv_at hl 0 rfl) ?_
          refine va_get (D := D) (ci := 6) (v := .ref (z 1)) (C := RX6) (T := TX6) (N := 12) hx hb hts inX6 hown hK.1 hP 0 rfl rfl 0 (by decide) (hts (.fieldLink RX6 7 "ClosExchangeModel" "s" "[I") (List.mem_of_getElem? (i := 1) rfl)) (fun _ h9 => h9) rfl dX6_onFirst_40 ?_
          refine lv_iload_n hx hb dX6_onFirst_43 rfl (lv_at hl 1 rfl) ?_
          refine lv_iconst (v := (1 : Int32)) hx hb dX6_onFirst_44 kc_iconst_1 ?_
          refine lv_iadd hx hb dX6_onFirst_45 ?_
          obtain ⟨c7, hf⟩ := it_g hf
          refine va_iald hx hb hK.1 hP 1 0 rfl rfl (inb_in c7) dX6_onFirst_46 ?_
          obtain ⟨c8, hf⟩ := it_g hf
          refine lv_idiv hx hb dX6_onFirst_47 c8 ?_
          refine lv_iload_n hx hb dX6_onFirst_48 rfl (lv_at hl 2 rfl) ?_
          refine lv_icmp_ne (tgt := 55) hx hb dX6_onFirst_49 (by decide) (fun c9 => ?_) (fun c9 => ?_)
          · have hf := it_f hf c9
            refine lv_iinc (v := (x4 + (1 : Int32))) (lv' := [(4, .int (x4 + (1 : Int32))), (0, .ref (z 0)), (1, .int x1), (2, .int x2), (3, .int x3)]) hx hb dX6_onFirst_55 hl (k := 4) rfl rfl (by decide) rfl (fun ls hl => ?_)
            refine lv_goto (tgt := 3) hx hb dX6_onFirst_58 (by decide) ?_
            exact ih _ hf H locs ls hP hS (lv_sub hl [1, 2, 3, 4, 0] rfl)
          · have hf := it_t hf c9
            refine lv_iload hx hb dX6_onFirst_52 (lv_at hl 4 rfl) ?_
            have e0 : x4 = r0 := (Option.some.inj hf)
            subst e0
            exact hret H locs ls _ dX6_onFirst_54 rfl hS
set_option maxRecDepth 100000 in
set_option maxHeartbeats 4000000 in
theorem w_X6_onFirst_0 {p : Program} {l : Launch} {e : Env} {s : State} {m : MethodId} {args : Array Value} {below : List Frame} {meth : Method} {c : Code} {Q : State → Prop} {D : va_G} {cI cN : ClassId} {z : Nat → Nat} (S : CallFix p m c cX6_onFirst 5 s args wsX6_onFirst RX6) (hK : KN D cI cN s) {g : OS} {x1 : Int32} {x2 : Int32} {x3 : Int32} {r0 : Int32} (hret : ∀ (H : Heap) (locs : List Loc) (ls : Array Slot) (pc : Nat), decode cX6_onFirst pc = .ok (.ireturn, 1) → narrow .int (.int r0) = .int r0 → va_S (nwA s.heap.size) s.heap H locs → W p l e (headSpec wsX6_onFirst rm_X6_onFirst).room s m args below meth c H locs 0 0 Q (F0 m pc ls [.int r0])) (hf : fX6_onFirst g x1 x2 x3 = some r0) (H : Heap) (locs : List Loc) (ls : Array Slot) (hP : va_P D vwCl (mdW cI z g) H) (hS : va_S (nwA s.heap.size) s.heap H locs) (hl : lv_has ls 5 [(0, .ref (z 0)), (1, .int x1), (2, .int x2), (3, .int x3)]) : W p l e (headSpec wsX6_onFirst rm_X6_onFirst).room s m args below meth c H locs 0 0 Q (F0 m 0 ls []) := by
  obtain ⟨hx, hb, hml, hown, hts⟩ := id S
  have inX6 := in_X6_onFirst_X6
  have hA : ∀ q : Nat, s.heap.size ≤ q → nwA s.heap.size q := fun _ h => h
  unfold fX6_onFirst at hf
  refine lv_iconst (v := (0 : Int32)) hx hb dX6_onFirst_0 kc_iconst_0 ?_
  refine lv_istore (lv' := [(4, .int (0 : Int32)), (0, .ref (z 0)), (1, .int x1), (2, .int x2), (3, .int x3)]) hx hb dX6_onFirst_1 hl (by decide) rfl (fun ls hl => ?_)
  exact w_X6_onFirst_3 S hK hret _ _ hf H locs ls hP hS (lv_sub hl [1, 2, 3, 4, 0] rfl)
set_option maxRecDepth 100000 in
theorem c_X6_onFirst (l : Launch) (D : va_G) (cI cN : ClassId) (z : Nat → Nat) (sz : Nat) (g : OS) (x1 : Int32) (x2 : Int32) (x3 : Int32) (r0 : Int32) (hf : fX6_onFirst g x1 x2 x3 = some r0) : CtP l D cI cN yX6_onFirst wsX6_onFirst rm_X6_onFirst [.ref (z 0), .int x1, .int x2, .int x3] (mdW cI z g) sz r0 := by
  refine mP (cc := cX6_onFirst) (maxL := 5) (ty := .int) (by decide) rfl rfl (Nat.le_of_ble_eq_true rfl) ?_
  intro p e s m args below meth c Q S hK hP hS hret ls hl
  exact w_X6_onFirst_0 S hK hret hf _ _ _ hP hS (lv_sub (show lv_has ls 5 [(0, .ref (z 0)), (1, .int x1), (2, .int x2), (3, .int x3)] from hl) [0, 1, 2, 3] rfl)
abbrev rm_X6_onLast : Room := { frames := 1, cells := 0, slots := 0, locals := 23 }
theorem in_X6_onLast_X6 : ∀ w ∈ u_ws RX6 TX6 12, w ∈ wsX6_onLast := fun w h => List.mem_cons_of_mem _ (List.mem_append_right _ h)
set_option maxRecDepth 100000 in
set_option maxHeartbeats 4000000 in
theorem w_X6_onLast_3 {p : Program} {l : Launch} {e : Env} {s : State} {m : MethodId} {args : Array Value} {below : List Frame} {meth : Method} {c : Code} {Q : State → Prop} {D : va_G} {cI cN : ClassId} {z : Nat → Nat} (S : CallFix p m c cX6_onLast 5 s args wsX6_onLast RX6) (hK : KN D cI cN s) {g : OS} {x1 : Int32} {x2 : Int32} {x3 : Int32} {r0 : Int32} (hret : ∀ (H : Heap) (locs : List Loc) (ls : Array Slot) (pc : Nat), decode cX6_onLast pc = .ok (.ireturn, 1) → narrow .int (.int r0) = .int r0 → va_S (nwA s.heap.size) s.heap H locs → W p l e (headSpec wsX6_onLast rm_X6_onLast).room s m args below meth c H locs 0 0 Q (F0 m pc ls [.int r0])) : ∀ (k : Nat) (x4 : Int32), fX6_onLast_3 g x1 x2 x3 k x4 = some r0 → ∀ (H : Heap) (locs : List Loc) (ls : Array Slot), va_P D vwCl (mdW cI z g) H → va_S (nwA s.heap.size) s.heap H locs → lv_has ls 5 [(0, .ref (z 0)), (1, .int x1), (2, .int x2), (3, .int x3), (4, .int x4)] → W p l e (headSpec wsX6_onLast rm_X6_onLast).room s m args below meth c H locs 0 0 Q (F0 m 3 ls []) := by
  obtain ⟨hx, hb, hml, hown, hts⟩ := id S
  have inX6 := in_X6_onLast_X6
  have hA : ∀ q : Nat, s.heap.size ≤ q → nwA s.heap.size q := fun _ h => h
  intro k
  induction k with
  | zero => intro x4 hf; rw [fX6_onLast_3_z] at hf; cases hf
  | succ k ih =>
    intro x4 hf H locs ls hP hS hl
    rw [fX6_onLast_3_s] at hf
    refine lv_iload hx hb dX6_onLast_3 (lv_at hl 4 rfl) ?_
    refine lv_aload_n hx hb dX6_onLast_5 rfl (lv_at hl 0 rfl) ?_
    refine lv_iload_n hx hb dX6_onLast_6 rfl (lv_at hl 1 rfl) ?_
    obtain ⟨v1, hv1, hf⟩ := it_b hf
    refine cQi (As := [.int x1]) (rest := [.int x4]) (q0 := 0) (ci := 6) S (c_X6_lines l D cI cN z _ g x1 v1 hv1) (cwV 1 hts gX6_onLast_X6_lines rfl rfl rfl (by decide +kernel) ⟨Nat.le_of_ble_eq_true rfl, Nat.le_of_ble_eq_true rfl⟩) hK hP hS hA hP rfl rfl rfl hl.1 rfl (Nat.le_of_ble_eq_true rfl) dX6_onLast_7 ⟨Nat.zero_le _, Nat.zero_le _⟩ (fun H locs hP hS => ?_)
    refine lv_icmp_ge (tgt := 67) hx hb dX6_onLast_10 (by decide) (fun c2 => ?_) (fun c2 => ?_)
    · have hf := it_t hf c2
      refine lv_iconst (v := (-1 : Int32)) hx hb dX6_onLast_67 kc_iconst_m1 ?_
      have e0 : (-1 : Int32) = r0 := (Option.some.inj hf)
      subst e0
      exact hret H locs ls _ dX6_onLast_68 rfl hS
    · have hf := it_f hf c2
      refine lv_aload_n hx hb dX6_onLast_13 rfl (lv_at hl 0 rfl) ?_
      refine lv_iload_n hx hb dX6_onLast_14 rfl (lv_at hl 1 rfl) ?_
      refine lv_iload hx hb dX6_onLast_15 (lv_at hl 4 rfl) ?_
      refine lv_iconst (v := (0 : Int32)) hx hb dX6_onLast_17 kc_iconst_0 ?_
      obtain ⟨v3, hv3, hf⟩ := it_b hf
      refine cQi (As := [.int x1, .int x4, .int (0 : Int32)]) (rest := []) (q0 := 0) (ci := 6) S (c_X6_of l D cI cN z _ g x1 x4 (0 : Int32) v3 hv3) (cwV 3 hts gX6_onLast_X6_of rfl rfl rfl (by decide +kernel) ⟨Nat.le_of_ble_eq_true rfl, Nat.le_of_ble_eq_true rfl⟩) hK hP hS hA hP rfl rfl rfl hl.1 rfl (Nat.le_of_ble_eq_true rfl) dX6_onLast_18 ⟨Nat.zero_le _, Nat.zero_le _⟩ (fun H locs hP hS => ?_)
      refine lv_iconst (v := (-1 : Int32)) hx hb dX6_onLast_21 kc_iconst_m1 ?_
      refine lv_icmp_eq (tgt := 61) hx hb dX6_onLast_22 (by decide) (fun c4 => ?_) (fun c4 => ?_)
      · have hf := it_t hf c4
        refine lv_iinc (v := (x4 + (1 : Int32))) (lv' := [(4, .int (x4 + (1 : Int32))), (0, .ref (z 0)), (1, .int x1), (2, .int x2), (3, .int x3)]) hx hb dX6_onLast_61 hl (k := 4) rfl rfl (by decide) rfl (fun ls hl => ?_)
        refine lv_goto (tgt := 3) hx hb dX6_onLast_64 (by decide) ?_
        exact ih _ hf H locs ls hP hS (lv_sub hl [1, 2, 3, 4, 0] rfl)
      · have hf := it_f hf c4
        refine lv_aload_n hx hb dX6_onLast_25 rfl (lv_at hl 0 rfl) ?_
        refine lv_iload_n hx hb dX6_onLast_26 rfl (lv_at hl 1 rfl) ?_
        refine lv_iload hx hb dX6_onLast_27 (lv_at hl 4 rfl) ?_
        refine lv_iconst (v := (2 : Int32)) hx hb dX6_onLast_29 kc_iconst_2 ?_
        obtain ⟨v5, hv5, hf⟩ := it_b hf
        refine cQi (As := [.int x1, .int x4, .int (2 : Int32)]) (rest := []) (q0 := 0) (ci := 6) S (c_X6_of l D cI cN z _ g x1 x4 (2 : Int32) v5 hv5) (cwV 3 hts gX6_onLast_X6_of rfl rfl rfl (by decide +kernel) ⟨Nat.le_of_ble_eq_true rfl, Nat.le_of_ble_eq_true rfl⟩) hK hP hS hA hP rfl rfl rfl hl.1 rfl (Nat.le_of_ble_eq_true rfl) dX6_onLast_30 ⟨Nat.zero_le _, Nat.zero_le _⟩ (fun H locs hP hS => ?_)
        refine lv_iload_n hx hb dX6_onLast_33 rfl (lv_at hl 2 rfl) ?_
        refine lv_icmp_ne (tgt := 61) hx hb dX6_onLast_34 (by decide) (fun c6 => ?_) (fun c6 => ?_)
        · have hf := it_f hf c6
          refine lv_iinc (v := (x4 + (1 : Int32))) (lv' := [(4, .int (x4 + (1 : Int32))), (0, .ref (z 0)), (1, .int x1), (2, .int x2), (3, .int x3)]) hx hb dX6_onLast_61 hl (k := 4) rfl rfl (by decide) rfl (fun ls hl => ?_)
          refine lv_goto (tgt := 3) hx hb dX6_onLast_64 (by decide) ?_
          exact ih _ hf H locs ls hP hS (lv_sub hl [1, 2, 3, 4, 0] rfl)
        · have hf := it_t hf c6
          refine lv_aload_n hx hb dX6_onLast_37 rfl (lv_at hl 0 rfl) ?_
          refine lv_iload_n hx hb dX6_onLast_38 rfl (lv_at hl 1 rfl) ?_
          refine lv_iload hx hb dX6_onLast_39 (lv_at hl 4 rfl) ?_
          refine lv_iconst (v := (1 : Int32)) hx hb dX6_onLast_41 kc_iconst_1 ?_
          obtain ⟨v7, hv7, hf⟩ := it_b hf
          refine cQi (As := [.int x1, .int x4, .int (1 : Int32)]) (rest := []) (q0 := 0) (ci := 6) S (c_X6_of l D cI cN z _ g x1 x4 (1 : Int32) v7 hv7) (cwV 3 hts gX6_onLast_X6_of rfl rfl rfl (by decide +kernel) ⟨Nat.le_of_ble_eq_true rfl, Nat.le_of_ble_eq_true rfl⟩) hK hP hS hA hP rfl rfl rfl hl.1 rfl (Nat.le_of_ble_eq_true rfl) dX6_onLast_42 ⟨Nat.zero_le _, Nat.zero_le _⟩ (fun H locs hP hS => ?_)
          refine lv_aload_n hx hb dX6_onLast_45 rfl (lv_at hl 0 rfl) ?_
          refine va_get (D := D) (ci := 6) (v := .ref (z 1)) (C := RX6) (T := TX6) (N := 12) hx hb hts inX6 hown hK.1 hP 0 rfl rfl 0 (by decide) (hts (.fieldLink RX6 7 "ClosExchangeModel" "s" "[I") (List.mem_of_getElem? (i := 1) rfl)) (fun _ h9 => h9) rfl dX6_onLast_46 ?_
          refine lv_iload_n hx hb dX6_onLast_49 rfl (lv_at hl 1 rfl) ?_
          refine lv_iconst (v := (1 : Int32)) hx hb dX6_onLast_50 kc_iconst_1 ?_
          refine lv_iadd hx hb dX6_onLast_51 ?_
          obtain ⟨c8, hf⟩ := it_g hf
          refine va_iald hx hb hK.1 hP 1 0 rfl rfl (inb_in c8) dX6_onLast_52 ?_
          obtain ⟨c9, hf⟩ := it_g hf
          refine lv_idiv hx hb dX6_onLast_53 c9 ?_
          refine lv_iload_n hx hb dX6_onLast_54 rfl (lv_at hl 3 rfl) ?_
          refine lv_icmp_ne (tgt := 61) hx hb dX6_onLast_55 (by decide) (fun c10 => ?_) (fun c10 => ?_)
          · have hf := it_f hf c10
            refine lv_iinc (v := (x4 + (1 : Int32))) (lv' := [(4, .int (x4 + (1 : Int32))), (0, .ref (z 0)), (1, .int x1), (2, .int x2), (3, .int x3)]) hx hb dX6_onLast_61 hl (k := 4) rfl rfl (by decide) rfl (fun ls hl => ?_)
            refine lv_goto (tgt := 3) hx hb dX6_onLast_64 (by decide) ?_
            exact ih _ hf H locs ls hP hS (lv_sub hl [1, 2, 3, 4, 0] rfl)
          · have hf := it_t hf c10
            refine lv_iload hx hb dX6_onLast_58 (lv_at hl 4 rfl) ?_
            have e0 : x4 = r0 := (Option.some.inj hf)
            subst e0
            exact hret H locs ls _ dX6_onLast_60 rfl hS
set_option maxRecDepth 100000 in
set_option maxHeartbeats 4000000 in
theorem w_X6_onLast_0 {p : Program} {l : Launch} {e : Env} {s : State} {m : MethodId} {args : Array Value} {below : List Frame} {meth : Method} {c : Code} {Q : State → Prop} {D : va_G} {cI cN : ClassId} {z : Nat → Nat} (S : CallFix p m c cX6_onLast 5 s args wsX6_onLast RX6) (hK : KN D cI cN s) {g : OS} {x1 : Int32} {x2 : Int32} {x3 : Int32} {r0 : Int32} (hret : ∀ (H : Heap) (locs : List Loc) (ls : Array Slot) (pc : Nat), decode cX6_onLast pc = .ok (.ireturn, 1) → narrow .int (.int r0) = .int r0 → va_S (nwA s.heap.size) s.heap H locs → W p l e (headSpec wsX6_onLast rm_X6_onLast).room s m args below meth c H locs 0 0 Q (F0 m pc ls [.int r0])) (hf : fX6_onLast g x1 x2 x3 = some r0) (H : Heap) (locs : List Loc) (ls : Array Slot) (hP : va_P D vwCl (mdW cI z g) H) (hS : va_S (nwA s.heap.size) s.heap H locs) (hl : lv_has ls 5 [(0, .ref (z 0)), (1, .int x1), (2, .int x2), (3, .int x3)]) : W p l e (headSpec wsX6_onLast rm_X6_onLast).room s m args below meth c H locs 0 0 Q (F0 m 0 ls []) := by
  obtain ⟨hx, hb, hml, hown, hts⟩ := id S
  have inX6 := in_X6_onLast_X6
  have hA : ∀ q : Nat, s.heap.size ≤ q → nwA s.heap.size q := fun _ h => h
  unfold fX6_onLast at hf
  refine lv_iconst (v := (0 : Int32)) hx hb dX6_onLast_0 kc_iconst_0 ?_
  refine lv_istore (lv' := [(4, .int (0 : Int32)), (0, .ref (z 0)), (1, .int x1), (2, .int x2), (3, .int x3)]) hx hb dX6_onLast_1 hl (by decide) rfl (fun ls hl => ?_)
  exact w_X6_onLast_3 S hK hret _ _ hf H locs ls hP hS (lv_sub hl [1, 2, 3, 4, 0] rfl)
set_option maxRecDepth 100000 in
theorem c_X6_onLast (l : Launch) (D : va_G) (cI cN : ClassId) (z : Nat → Nat) (sz : Nat) (g : OS) (x1 : Int32) (x2 : Int32) (x3 : Int32) (r0 : Int32) (hf : fX6_onLast g x1 x2 x3 = some r0) : CtP l D cI cN yX6_onLast wsX6_onLast rm_X6_onLast [.ref (z 0), .int x1, .int x2, .int x3] (mdW cI z g) sz r0 := by
  refine mP (cc := cX6_onLast) (maxL := 5) (ty := .int) (by decide) rfl rfl (Nat.le_of_ble_eq_true rfl) ?_
  intro p e s m args below meth c Q S hK hP hS hret ls hl
  exact w_X6_onLast_0 S hK hret hf _ _ _ hP hS (lv_sub (show lv_has ls 5 [(0, .ref (z 0)), (1, .int x1), (2, .int x2), (3, .int x3)] from hl) [0, 1, 2, 3] rfl)
abbrev rm_X6_loadOf : Room := { frames := 1, cells := 0, slots := 0, locals := 23 }
set_option maxRecDepth 100000 in
set_option maxHeartbeats 4000000 in
theorem w_X6_loadOf_5 {p : Program} {l : Launch} {e : Env} {s : State} {m : MethodId} {args : Array Value} {below : List Frame} {meth : Method} {c : Code} {Q : State → Prop} {D : va_G} {cI cN : ClassId} {z : Nat → Nat} (S : CallFix p m c cX6_loadOf 5 s args wsX6_loadOf RX6) (hK : KN D cI cN s) {g : OS} {x1 : Int32} {x2 : Int32} {r0 : Int32} (hret : ∀ (H : Heap) (locs : List Loc) (ls : Array Slot) (pc : Nat), decode cX6_loadOf pc = .ok (.ireturn, 1) → narrow .int (.int r0) = .int r0 → va_S (nwA s.heap.size) s.heap H locs → W p l e (headSpec wsX6_loadOf rm_X6_loadOf).room s m args below meth c H locs 0 0 Q (F0 m pc ls [.int r0])) : ∀ (k : Nat) (x3 : Int32) (x4 : Int32), fX6_loadOf_5 g x1 x2 k x3 x4 = some r0 → ∀ (H : Heap) (locs : List Loc) (ls : Array Slot), va_P D vwCl (mdW cI z g) H → va_S (nwA s.heap.size) s.heap H locs → lv_has ls 5 [(0, .ref (z 0)), (1, .int x1), (2, .int x2), (3, .int x3), (4, .int x4)] → W p l e (headSpec wsX6_loadOf rm_X6_loadOf).room s m args below meth c H locs 0 0 Q (F0 m 5 ls []) := by
  obtain ⟨hx, hb, hml, hown, hts⟩ := id S
  have hA : ∀ q : Nat, s.heap.size ≤ q → nwA s.heap.size q := fun _ h => h
  intro k
  induction k with
  | zero => intro x3 x4 hf; rw [fX6_loadOf_5_z] at hf; cases hf
  | succ k ih =>
    intro x3 x4 hf H locs ls hP hS hl
    rw [fX6_loadOf_5_s] at hf
    refine lv_iload hx hb dX6_loadOf_5 (lv_at hl 4 rfl) ?_
    refine lv_aload_n hx hb dX6_loadOf_7 rfl (lv_at hl 0 rfl) ?_
    refine lv_iload_n hx hb dX6_loadOf_8 rfl (lv_at hl 1 rfl) ?_
    obtain ⟨v1, hv1, hf⟩ := it_b hf
    refine cQi (As := [.int x1]) (rest := [.int x4]) (q0 := 0) (ci := 6) S (c_X6_lines l D cI cN z _ g x1 v1 hv1) (cwV 1 hts gX6_loadOf_X6_lines rfl rfl rfl (by decide +kernel) ⟨Nat.le_of_ble_eq_true rfl, Nat.le_of_ble_eq_true rfl⟩) hK hP hS hA hP rfl rfl rfl hl.1 rfl (Nat.le_of_ble_eq_true rfl) dX6_loadOf_9 ⟨Nat.zero_le _, Nat.zero_le _⟩ (fun H locs hP hS => ?_)
    refine lv_icmp_ge (tgt := 53) hx hb dX6_loadOf_12 (by decide) (fun c2 => ?_) (fun c2 => ?_)
    · have hf := it_t hf c2
      refine lv_iload_n hx hb dX6_loadOf_53 rfl (lv_at hl 3 rfl) ?_
      have e0 : x3 = r0 := (Option.some.inj hf)
      subst e0
      exact hret H locs ls _ dX6_loadOf_54 rfl hS
    · have hf := it_f hf c2
      refine lv_iload_n hx hb dX6_loadOf_15 rfl (lv_at hl 3 rfl) ?_
      refine lv_aload_n hx hb dX6_loadOf_16 rfl (lv_at hl 0 rfl) ?_
      refine lv_iload_n hx hb dX6_loadOf_17 rfl (lv_at hl 1 rfl) ?_
      refine lv_iload hx hb dX6_loadOf_18 (lv_at hl 4 rfl) ?_
      refine lv_iconst (v := (0 : Int32)) hx hb dX6_loadOf_20 kc_iconst_0 ?_
      obtain ⟨v3, hv3, hf⟩ := it_b hf
      refine cQi (As := [.int x1, .int x4, .int (0 : Int32)]) (rest := [.int x3]) (q0 := 0) (ci := 6) S (c_X6_of l D cI cN z _ g x1 x4 (0 : Int32) v3 hv3) (cwV 3 hts gX6_loadOf_X6_of rfl rfl rfl (by decide +kernel) ⟨Nat.le_of_ble_eq_true rfl, Nat.le_of_ble_eq_true rfl⟩) hK hP hS hA hP rfl rfl rfl hl.1 rfl (Nat.le_of_ble_eq_true rfl) dX6_loadOf_21 ⟨Nat.zero_le _, Nat.zero_le _⟩ (fun H locs hP hS => ?_)
      refine lv_iconst (v := (-1 : Int32)) hx hb dX6_loadOf_24 kc_iconst_m1 ?_
      refine lv_icmp_eq (tgt := 44) hx hb dX6_loadOf_25 (by decide) (fun c4 => ?_) (fun c4 => ?_)
      · have hf := it_t hf c4
        refine lv_iconst (v := (0 : Int32)) hx hb dX6_loadOf_44 kc_iconst_0 ?_
        refine lv_iadd hx hb dX6_loadOf_45 ?_
        refine lv_istore_n (lv' := [(3, .int (x3 + (0 : Int32))), (0, .ref (z 0)), (1, .int x1), (2, .int x2), (4, .int x4)]) hx hb dX6_loadOf_46 rfl hl (by decide) rfl (fun ls hl => ?_)
        refine lv_iinc (v := (x4 + (1 : Int32))) (lv' := [(4, .int (x4 + (1 : Int32))), (3, .int (x3 + (0 : Int32))), (0, .ref (z 0)), (1, .int x1), (2, .int x2)]) hx hb dX6_loadOf_47 hl (k := 4) rfl rfl (by decide) rfl (fun ls hl => ?_)
        refine lv_goto (tgt := 5) hx hb dX6_loadOf_50 (by decide) ?_
        exact ih _ _ hf H locs ls hP hS (lv_sub hl [2, 3, 4, 1, 0] rfl)
      · have hf := it_f hf c4
        refine lv_aload_n hx hb dX6_loadOf_28 rfl (lv_at hl 0 rfl) ?_
        refine lv_iload_n hx hb dX6_loadOf_29 rfl (lv_at hl 1 rfl) ?_
        refine lv_iload hx hb dX6_loadOf_30 (lv_at hl 4 rfl) ?_
        refine lv_iconst (v := (2 : Int32)) hx hb dX6_loadOf_32 kc_iconst_2 ?_
        obtain ⟨v5, hv5, hf⟩ := it_b hf
        refine cQi (As := [.int x1, .int x4, .int (2 : Int32)]) (rest := [.int x3]) (q0 := 0) (ci := 6) S (c_X6_of l D cI cN z _ g x1 x4 (2 : Int32) v5 hv5) (cwV 3 hts gX6_loadOf_X6_of rfl rfl rfl (by decide +kernel) ⟨Nat.le_of_ble_eq_true rfl, Nat.le_of_ble_eq_true rfl⟩) hK hP hS hA hP rfl rfl rfl hl.1 rfl (Nat.le_of_ble_eq_true rfl) dX6_loadOf_33 ⟨Nat.zero_le _, Nat.zero_le _⟩ (fun H locs hP hS => ?_)
        refine lv_iload_n hx hb dX6_loadOf_36 rfl (lv_at hl 2 rfl) ?_
        refine lv_icmp_ne (tgt := 44) hx hb dX6_loadOf_37 (by decide) (fun c6 => ?_) (fun c6 => ?_)
        · have hf := it_f hf c6
          refine lv_iconst (v := (0 : Int32)) hx hb dX6_loadOf_44 kc_iconst_0 ?_
          refine lv_iadd hx hb dX6_loadOf_45 ?_
          refine lv_istore_n (lv' := [(3, .int (x3 + (0 : Int32))), (0, .ref (z 0)), (1, .int x1), (2, .int x2), (4, .int x4)]) hx hb dX6_loadOf_46 rfl hl (by decide) rfl (fun ls hl => ?_)
          refine lv_iinc (v := (x4 + (1 : Int32))) (lv' := [(4, .int (x4 + (1 : Int32))), (3, .int (x3 + (0 : Int32))), (0, .ref (z 0)), (1, .int x1), (2, .int x2)]) hx hb dX6_loadOf_47 hl (k := 4) rfl rfl (by decide) rfl (fun ls hl => ?_)
          refine lv_goto (tgt := 5) hx hb dX6_loadOf_50 (by decide) ?_
          exact ih _ _ hf H locs ls hP hS (lv_sub hl [2, 3, 4, 1, 0] rfl)
        · have hf := it_t hf c6
          refine lv_iconst (v := (1 : Int32)) hx hb dX6_loadOf_40 kc_iconst_1 ?_
          refine lv_goto (tgt := 45) hx hb dX6_loadOf_41 (by decide) ?_
          refine lv_iadd hx hb dX6_loadOf_45 ?_
          refine lv_istore_n (lv' := [(3, .int (x3 + (1 : Int32))), (0, .ref (z 0)), (1, .int x1), (2, .int x2), (4, .int x4)]) hx hb dX6_loadOf_46 rfl hl (by decide) rfl (fun ls hl => ?_)
          refine lv_iinc (v := (x4 + (1 : Int32))) (lv' := [(4, .int (x4 + (1 : Int32))), (3, .int (x3 + (1 : Int32))), (0, .ref (z 0)), (1, .int x1), (2, .int x2)]) hx hb dX6_loadOf_47 hl (k := 4) rfl rfl (by decide) rfl (fun ls hl => ?_)
          refine lv_goto (tgt := 5) hx hb dX6_loadOf_50 (by decide) ?_
          exact ih _ _ hf H locs ls hP hS (lv_sub hl [2, 3, 4, 1, 0] rfl)
set_option maxRecDepth 100000 in
set_option maxHeartbeats 4000000 in
theorem w_X6_loadOf_0 {p : Program} {l : Launch} {e : Env} {s : State} {m : MethodId} {args : Array Value} {below : List Frame} {meth : Method} {c : Code} {Q : State → Prop} {D : va_G} {cI cN : ClassId} {z : Nat → Nat} (S : CallFix p m c cX6_loadOf 5 s args wsX6_loadOf RX6) (hK : KN D cI cN s) {g : OS} {x1 : Int32} {x2 : Int32} {r0 : Int32} (hret : ∀ (H : Heap) (locs : List Loc) (ls : Array Slot) (pc : Nat), decode cX6_loadOf pc = .ok (.ireturn, 1) → narrow .int (.int r0) = .int r0 → va_S (nwA s.heap.size) s.heap H locs → W p l e (headSpec wsX6_loadOf rm_X6_loadOf).room s m args below meth c H locs 0 0 Q (F0 m pc ls [.int r0])) (hf : fX6_loadOf g x1 x2 = some r0) (H : Heap) (locs : List Loc) (ls : Array Slot) (hP : va_P D vwCl (mdW cI z g) H) (hS : va_S (nwA s.heap.size) s.heap H locs) (hl : lv_has ls 5 [(0, .ref (z 0)), (1, .int x1), (2, .int x2)]) : W p l e (headSpec wsX6_loadOf rm_X6_loadOf).room s m args below meth c H locs 0 0 Q (F0 m 0 ls []) := by
  obtain ⟨hx, hb, hml, hown, hts⟩ := id S
  have hA : ∀ q : Nat, s.heap.size ≤ q → nwA s.heap.size q := fun _ h => h
  unfold fX6_loadOf at hf
  refine lv_iconst (v := (0 : Int32)) hx hb dX6_loadOf_0 kc_iconst_0 ?_
  refine lv_istore_n (lv' := [(3, .int (0 : Int32)), (0, .ref (z 0)), (1, .int x1), (2, .int x2)]) hx hb dX6_loadOf_1 rfl hl (by decide) rfl (fun ls hl => ?_)
  refine lv_iconst (v := (0 : Int32)) hx hb dX6_loadOf_2 kc_iconst_0 ?_
  refine lv_istore (lv' := [(4, .int (0 : Int32)), (3, .int (0 : Int32)), (0, .ref (z 0)), (1, .int x1), (2, .int x2)]) hx hb dX6_loadOf_3 hl (by decide) rfl (fun ls hl => ?_)
  exact w_X6_loadOf_5 S hK hret _ _ _ hf H locs ls hP hS (lv_sub hl [2, 3, 4, 1, 0] rfl)
set_option maxRecDepth 100000 in
theorem c_X6_loadOf (l : Launch) (D : va_G) (cI cN : ClassId) (z : Nat → Nat) (sz : Nat) (g : OS) (x1 : Int32) (x2 : Int32) (r0 : Int32) (hf : fX6_loadOf g x1 x2 = some r0) : CtP l D cI cN yX6_loadOf wsX6_loadOf rm_X6_loadOf [.ref (z 0), .int x1, .int x2] (mdW cI z g) sz r0 := by
  refine mP (cc := cX6_loadOf) (maxL := 5) (ty := .int) (by decide) rfl rfl (Nat.le_of_ble_eq_true rfl) ?_
  intro p e s m args below meth c Q S hK hP hS hret ls hl
  exact w_X6_loadOf_0 S hK hret hf _ _ _ hP hS (lv_sub (show lv_has ls 5 [(0, .ref (z 0)), (1, .int x1), (2, .int x2)] from hl) [0, 1, 2] rfl)
abbrev rm_X6_freeAhead : Room := { frames := 2, cells := 0, slots := 0, locals := 47 }
theorem in_X6_freeAhead_X6 : ∀ w ∈ u_ws RX6 TX6 12, w ∈ wsX6_freeAhead := fun w h => List.mem_cons_of_mem _ (List.mem_append_right _ h)
set_option maxRecDepth 100000 in
set_option maxHeartbeats 4000000 in
theorem w_X6_freeAhead_5 {p : Program} {l : Launch} {e : Env} {s : State} {m : MethodId} {args : Array Value} {below : List Frame} {meth : Method} {c : Code} {Q : State → Prop} {D : va_G} {cI cN : ClassId} {z : Nat → Nat} (S : CallFix p m c cX6_freeAhead 5 s args wsX6_freeAhead RX6) (hK : KN D cI cN s) {g : OS} {x1 : Int32} {x2 : Int32} {r0 : Int32} (hret : ∀ (H : Heap) (locs : List Loc) (ls : Array Slot) (pc : Nat), decode cX6_freeAhead pc = .ok (.ireturn, 1) → narrow .int (.int r0) = .int r0 → va_S (nwA s.heap.size) s.heap H locs → W p l e (headSpec wsX6_freeAhead rm_X6_freeAhead).room s m args below meth c H locs 0 0 Q (F0 m pc ls [.int r0])) : ∀ (k : Nat) (x3 : Int32) (x4 : Int32), fX6_freeAhead_5 g x1 x2 k x3 x4 = some r0 → ∀ (H : Heap) (locs : List Loc) (ls : Array Slot), va_P D vwCl (mdW cI z g) H → va_S (nwA s.heap.size) s.heap H locs → lv_has ls 5 [(0, .ref (z 0)), (1, .int x1), (2, .int x2), (3, .int x3), (4, .int x4)] → W p l e (headSpec wsX6_freeAhead rm_X6_freeAhead).room s m args below meth c H locs 0 0 Q (F0 m 5 ls []) := by
  obtain ⟨hx, hb, hml, hown, hts⟩ := id S
  have inX6 := in_X6_freeAhead_X6
  have hA : ∀ q : Nat, s.heap.size ≤ q → nwA s.heap.size q := fun _ h => h
  intro k
  induction k with
  | zero => intro x3 x4 hf; rw [fX6_freeAhead_5_z] at hf; cases hf
  | succ k ih =>
    intro x3 x4 hf H locs ls hP hS hl
    rw [fX6_freeAhead_5_s] at hf
    refine lv_iload hx hb dX6_freeAhead_5 (lv_at hl 4 rfl) ?_
    refine lv_aload_n hx hb dX6_freeAhead_7 rfl (lv_at hl 0 rfl) ?_
    refine va_get (D := D) (ci := 6) (v := .ref (z 1)) (C := RX6) (T := TX6) (N := 12) hx hb hts inX6 hown hK.1 hP 0 rfl rfl 0 (by decide) (hts (.fieldLink RX6 7 "ClosExchangeModel" "s" "[I") (List.mem_of_getElem? (i := 1) rfl)) (fun _ h9 => h9) rfl dX6_freeAhead_8 ?_
    refine lv_iload_n hx hb dX6_freeAhead_11 rfl (lv_at hl 1 rfl) ?_
    refine lv_iconst (v := (2 : Int32)) hx hb dX6_freeAhead_12 kc_iconst_2 ?_
    refine lv_iadd hx hb dX6_freeAhead_13 ?_
    obtain ⟨c1, hf⟩ := it_g hf
    refine va_iald hx hb hK.1 hP 1 0 rfl rfl (inb_in c1) dX6_freeAhead_14 ?_
    refine lv_icmp_ge (tgt := 64) hx hb dX6_freeAhead_15 (by decide) (fun c2 => ?_) (fun c2 => ?_)
    · have hf := it_t hf c2
      refine lv_iload_n hx hb dX6_freeAhead_64 rfl (lv_at hl 3 rfl) ?_
      have e0 : x3 = r0 := (Option.some.inj hf)
      subst e0
      exact hret H locs ls _ dX6_freeAhead_65 rfl hS
    · have hf := it_f hf c2
      refine lv_iload_n hx hb dX6_freeAhead_18 rfl (lv_at hl 3 rfl) ?_
      refine lv_aload_n hx hb dX6_freeAhead_19 rfl (lv_at hl 0 rfl) ?_
      refine va_get (D := D) (ci := 6) (v := .ref (z 1)) (C := RX6) (T := TX6) (N := 12) hx hb hts inX6 hown hK.1 hP 0 rfl rfl 0 (by decide) (hts (.fieldLink RX6 7 "ClosExchangeModel" "s" "[I") (List.mem_of_getElem? (i := 1) rfl)) (fun _ h9 => h9) rfl dX6_freeAhead_20 ?_
      refine lv_iload_n hx hb dX6_freeAhead_23 rfl (lv_at hl 1 rfl) ?_
      refine lv_bipush (v := (9 : Int32)) hx hb dX6_freeAhead_24 kc_bipush_9 ?_
      refine lv_iadd hx hb dX6_freeAhead_26 ?_
      obtain ⟨c3, hf⟩ := it_g hf
      refine va_iald hx hb hK.1 hP 1 0 rfl rfl (inb_in c3) dX6_freeAhead_27 ?_
      refine lv_iload hx hb dX6_freeAhead_28 (lv_at hl 4 rfl) ?_
      refine cSi (As := [.int ((g.2 0) (x1 + (9 : Int32)).toNatClampNeg), .int x4]) (rest := [.int x3]) S (c_X6_has l D cI cN _ ((g.2 0) (x1 + (9 : Int32)).toNatClampNeg) x4 (fX6_has ((g.2 0) (x1 + (9 : Int32)).toNatClampNeg) x4) rfl) (va_cwS 2 hts gX6_freeAhead_X6_has rfl rfl rfl (by decide +kernel) ⟨Nat.le_of_ble_eq_true rfl, Nat.le_of_ble_eq_true rfl⟩) hK hP hS hA [] rfl rfl hl.1 rfl (Nat.le_of_ble_eq_true rfl) dX6_freeAhead_30 ⟨Nat.zero_le _, Nat.zero_le _⟩ (fun H locs hP hS => ?_)
      refine lv_if_eq (tgt := 55) hx hb dX6_freeAhead_33 (by decide) (fun c4 => ?_) (fun c4 => ?_)
      · have hf := it_t hf c4
        refine lv_iconst (v := (0 : Int32)) hx hb dX6_freeAhead_55 kc_iconst_0 ?_
        refine lv_ior hx hb dX6_freeAhead_56 ?_
        refine lv_istore_n (lv' := [(3, .int (x3 ||| (0 : Int32))), (0, .ref (z 0)), (1, .int x1), (2, .int x2), (4, .int x4)]) hx hb dX6_freeAhead_57 rfl hl (by decide) rfl (fun ls hl => ?_)
        refine lv_iinc (v := (x4 + (1 : Int32))) (lv' := [(4, .int (x4 + (1 : Int32))), (3, .int (x3 ||| (0 : Int32))), (0, .ref (z 0)), (1, .int x1), (2, .int x2)]) hx hb dX6_freeAhead_58 hl (k := 4) rfl rfl (by decide) rfl (fun ls hl => ?_)
        refine lv_goto (tgt := 5) hx hb dX6_freeAhead_61 (by decide) ?_
        exact ih _ _ hf H locs ls hP hS (lv_sub hl [2, 3, 4, 1, 0] rfl)
      · have hf := it_f hf c4
        refine lv_aload_n hx hb dX6_freeAhead_36 rfl (lv_at hl 0 rfl) ?_
        refine lv_iload_n hx hb dX6_freeAhead_37 rfl (lv_at hl 1 rfl) ?_
        refine lv_iload_n hx hb dX6_freeAhead_38 rfl (lv_at hl 2 rfl) ?_
        refine lv_iload hx hb dX6_freeAhead_39 (lv_at hl 4 rfl) ?_
        obtain ⟨v5, hv5, hf⟩ := it_b hf
        refine cQi (As := [.int x1, .int x2, .int x4]) (rest := [.int x3]) (q0 := 0) (ci := 6) S (c_X6_onFirst l D cI cN z _ g x1 x2 x4 v5 hv5) (cwV 3 hts gX6_freeAhead_X6_onFirst rfl rfl rfl (by decide +kernel) ⟨Nat.le_of_ble_eq_true rfl, Nat.le_of_ble_eq_true rfl⟩) hK hP hS hA hP rfl rfl rfl hl.1 rfl (Nat.le_of_ble_eq_true rfl) dX6_freeAhead_41 ⟨Nat.zero_le _, Nat.zero_le _⟩ (fun H locs hP hS => ?_)
        refine lv_iconst (v := (-1 : Int32)) hx hb dX6_freeAhead_44 kc_iconst_m1 ?_
        refine lv_icmp_ne (tgt := 55) hx hb dX6_freeAhead_45 (by decide) (fun c6 => ?_) (fun c6 => ?_)
        · have hf := it_f hf c6
          refine lv_iconst (v := (0 : Int32)) hx hb dX6_freeAhead_55 kc_iconst_0 ?_
          refine lv_ior hx hb dX6_freeAhead_56 ?_
          refine lv_istore_n (lv' := [(3, .int (x3 ||| (0 : Int32))), (0, .ref (z 0)), (1, .int x1), (2, .int x2), (4, .int x4)]) hx hb dX6_freeAhead_57 rfl hl (by decide) rfl (fun ls hl => ?_)
          refine lv_iinc (v := (x4 + (1 : Int32))) (lv' := [(4, .int (x4 + (1 : Int32))), (3, .int (x3 ||| (0 : Int32))), (0, .ref (z 0)), (1, .int x1), (2, .int x2)]) hx hb dX6_freeAhead_58 hl (k := 4) rfl rfl (by decide) rfl (fun ls hl => ?_)
          refine lv_goto (tgt := 5) hx hb dX6_freeAhead_61 (by decide) ?_
          exact ih _ _ hf H locs ls hP hS (lv_sub hl [2, 3, 4, 1, 0] rfl)
        · have hf := it_t hf c6
          refine lv_iconst (v := (1 : Int32)) hx hb dX6_freeAhead_48 kc_iconst_1 ?_
          refine lv_iload hx hb dX6_freeAhead_49 (lv_at hl 4 rfl) ?_
          refine lv_ishl hx hb dX6_freeAhead_51 ?_
          refine lv_goto (tgt := 56) hx hb dX6_freeAhead_52 (by decide) ?_
          refine lv_ior hx hb dX6_freeAhead_56 ?_
          refine lv_istore_n (lv' := [(3, .int (x3 ||| ((1 : Int32) <<< (x4 &&& 31)))), (0, .ref (z 0)), (1, .int x1), (2, .int x2), (4, .int x4)]) hx hb dX6_freeAhead_57 rfl hl (by decide) rfl (fun ls hl => ?_)
          refine lv_iinc (v := (x4 + (1 : Int32))) (lv' := [(4, .int (x4 + (1 : Int32))), (3, .int (x3 ||| ((1 : Int32) <<< (x4 &&& 31)))), (0, .ref (z 0)), (1, .int x1), (2, .int x2)]) hx hb dX6_freeAhead_58 hl (k := 4) rfl rfl (by decide) rfl (fun ls hl => ?_)
          refine lv_goto (tgt := 5) hx hb dX6_freeAhead_61 (by decide) ?_
          exact ih _ _ hf H locs ls hP hS (lv_sub hl [2, 3, 4, 1, 0] rfl)
set_option maxRecDepth 100000 in
set_option maxHeartbeats 4000000 in
theorem w_X6_freeAhead_0 {p : Program} {l : Launch} {e : Env} {s : State} {m : MethodId} {args : Array Value} {below : List Frame} {meth : Method} {c : Code} {Q : State → Prop} {D : va_G} {cI cN : ClassId} {z : Nat → Nat} (S : CallFix p m c cX6_freeAhead 5 s args wsX6_freeAhead RX6) (hK : KN D cI cN s) {g : OS} {x1 : Int32} {x2 : Int32} {r0 : Int32} (hret : ∀ (H : Heap) (locs : List Loc) (ls : Array Slot) (pc : Nat), decode cX6_freeAhead pc = .ok (.ireturn, 1) → narrow .int (.int r0) = .int r0 → va_S (nwA s.heap.size) s.heap H locs → W p l e (headSpec wsX6_freeAhead rm_X6_freeAhead).room s m args below meth c H locs 0 0 Q (F0 m pc ls [.int r0])) (hf : fX6_freeAhead g x1 x2 = some r0) (H : Heap) (locs : List Loc) (ls : Array Slot) (hP : va_P D vwCl (mdW cI z g) H) (hS : va_S (nwA s.heap.size) s.heap H locs) (hl : lv_has ls 5 [(0, .ref (z 0)), (1, .int x1), (2, .int x2)]) : W p l e (headSpec wsX6_freeAhead rm_X6_freeAhead).room s m args below meth c H locs 0 0 Q (F0 m 0 ls []) := by
  obtain ⟨hx, hb, hml, hown, hts⟩ := id S
  have inX6 := in_X6_freeAhead_X6
  have hA : ∀ q : Nat, s.heap.size ≤ q → nwA s.heap.size q := fun _ h => h
  unfold fX6_freeAhead at hf
  refine lv_iconst (v := (0 : Int32)) hx hb dX6_freeAhead_0 kc_iconst_0 ?_
  refine lv_istore_n (lv' := [(3, .int (0 : Int32)), (0, .ref (z 0)), (1, .int x1), (2, .int x2)]) hx hb dX6_freeAhead_1 rfl hl (by decide) rfl (fun ls hl => ?_)
  refine lv_iconst (v := (0 : Int32)) hx hb dX6_freeAhead_2 kc_iconst_0 ?_
  refine lv_istore (lv' := [(4, .int (0 : Int32)), (3, .int (0 : Int32)), (0, .ref (z 0)), (1, .int x1), (2, .int x2)]) hx hb dX6_freeAhead_3 hl (by decide) rfl (fun ls hl => ?_)
  exact w_X6_freeAhead_5 S hK hret _ _ _ hf H locs ls hP hS (lv_sub hl [2, 3, 4, 1, 0] rfl)
set_option maxRecDepth 100000 in
theorem c_X6_freeAhead (l : Launch) (D : va_G) (cI cN : ClassId) (z : Nat → Nat) (sz : Nat) (g : OS) (x1 : Int32) (x2 : Int32) (r0 : Int32) (hf : fX6_freeAhead g x1 x2 = some r0) : CtP l D cI cN yX6_freeAhead wsX6_freeAhead rm_X6_freeAhead [.ref (z 0), .int x1, .int x2] (mdW cI z g) sz r0 := by
  refine mP (cc := cX6_freeAhead) (maxL := 5) (ty := .int) (by decide) rfl rfl (Nat.le_of_ble_eq_true rfl) ?_
  intro p e s m args below meth c Q S hK hP hS hret ls hl
  exact w_X6_freeAhead_0 S hK hret hf _ _ _ hP hS (lv_sub (show lv_has ls 5 [(0, .ref (z 0)), (1, .int x1), (2, .int x2)] from hl) [0, 1, 2] rfl)
abbrev rm_X6_freeBehind : Room := { frames := 2, cells := 0, slots := 0, locals := 47 }
theorem in_X6_freeBehind_X6 : ∀ w ∈ u_ws RX6 TX6 12, w ∈ wsX6_freeBehind := fun w h => List.mem_cons_of_mem _ (List.mem_append_right _ h)
set_option maxRecDepth 100000 in
set_option maxHeartbeats 4000000 in
theorem w_X6_freeBehind_5 {p : Program} {l : Launch} {e : Env} {s : State} {m : MethodId} {args : Array Value} {below : List Frame} {meth : Method} {c : Code} {Q : State → Prop} {D : va_G} {cI cN : ClassId} {z : Nat → Nat} (S : CallFix p m c cX6_freeBehind 5 s args wsX6_freeBehind RX6) (hK : KN D cI cN s) {g : OS} {x1 : Int32} {x2 : Int32} {r0 : Int32} (hret : ∀ (H : Heap) (locs : List Loc) (ls : Array Slot) (pc : Nat), decode cX6_freeBehind pc = .ok (.ireturn, 1) → narrow .int (.int r0) = .int r0 → va_S (nwA s.heap.size) s.heap H locs → W p l e (headSpec wsX6_freeBehind rm_X6_freeBehind).room s m args below meth c H locs 0 0 Q (F0 m pc ls [.int r0])) : ∀ (k : Nat) (x3 : Int32) (x4 : Int32), fX6_freeBehind_5 g x1 x2 k x3 x4 = some r0 → ∀ (H : Heap) (locs : List Loc) (ls : Array Slot), va_P D vwCl (mdW cI z g) H → va_S (nwA s.heap.size) s.heap H locs → lv_has ls 5 [(0, .ref (z 0)), (1, .int x1), (2, .int x2), (3, .int x3), (4, .int x4)] → W p l e (headSpec wsX6_freeBehind rm_X6_freeBehind).room s m args below meth c H locs 0 0 Q (F0 m 5 ls []) := by
  obtain ⟨hx, hb, hml, hown, hts⟩ := id S
  have inX6 := in_X6_freeBehind_X6
  have hA : ∀ q : Nat, s.heap.size ≤ q → nwA s.heap.size q := fun _ h => h
  intro k
  induction k with
  | zero => intro x3 x4 hf; rw [fX6_freeBehind_5_z] at hf; cases hf
  | succ k ih =>
    intro x3 x4 hf H locs ls hP hS hl
    rw [fX6_freeBehind_5_s] at hf
    refine lv_iload hx hb dX6_freeBehind_5 (lv_at hl 4 rfl) ?_
    refine lv_aload_n hx hb dX6_freeBehind_7 rfl (lv_at hl 0 rfl) ?_
    refine va_get (D := D) (ci := 6) (v := .ref (z 1)) (C := RX6) (T := TX6) (N := 12) hx hb hts inX6 hown hK.1 hP 0 rfl rfl 0 (by decide) (hts (.fieldLink RX6 7 "ClosExchangeModel" "s" "[I") (List.mem_of_getElem? (i := 1) rfl)) (fun _ h9 => h9) rfl dX6_freeBehind_8 ?_
    refine lv_iload_n hx hb dX6_freeBehind_11 rfl (lv_at hl 1 rfl) ?_
    refine lv_iconst (v := (2 : Int32)) hx hb dX6_freeBehind_12 kc_iconst_2 ?_
    refine lv_iadd hx hb dX6_freeBehind_13 ?_
    obtain ⟨c1, hf⟩ := it_g hf
    refine va_iald hx hb hK.1 hP 1 0 rfl rfl (inb_in c1) dX6_freeBehind_14 ?_
    refine lv_icmp_ge (tgt := 64) hx hb dX6_freeBehind_15 (by decide) (fun c2 => ?_) (fun c2 => ?_)
    · have hf := it_t hf c2
      refine lv_iload_n hx hb dX6_freeBehind_64 rfl (lv_at hl 3 rfl) ?_
      have e0 : x3 = r0 := (Option.some.inj hf)
      subst e0
      exact hret H locs ls _ dX6_freeBehind_65 rfl hS
    · have hf := it_f hf c2
      refine lv_iload_n hx hb dX6_freeBehind_18 rfl (lv_at hl 3 rfl) ?_
      refine lv_aload_n hx hb dX6_freeBehind_19 rfl (lv_at hl 0 rfl) ?_
      refine va_get (D := D) (ci := 6) (v := .ref (z 1)) (C := RX6) (T := TX6) (N := 12) hx hb hts inX6 hown hK.1 hP 0 rfl rfl 0 (by decide) (hts (.fieldLink RX6 7 "ClosExchangeModel" "s" "[I") (List.mem_of_getElem? (i := 1) rfl)) (fun _ h9 => h9) rfl dX6_freeBehind_20 ?_
      refine lv_iload_n hx hb dX6_freeBehind_23 rfl (lv_at hl 1 rfl) ?_
      refine lv_bipush (v := (9 : Int32)) hx hb dX6_freeBehind_24 kc_bipush_9 ?_
      refine lv_iadd hx hb dX6_freeBehind_26 ?_
      obtain ⟨c3, hf⟩ := it_g hf
      refine va_iald hx hb hK.1 hP 1 0 rfl rfl (inb_in c3) dX6_freeBehind_27 ?_
      refine lv_iload hx hb dX6_freeBehind_28 (lv_at hl 4 rfl) ?_
      refine cSi (As := [.int ((g.2 0) (x1 + (9 : Int32)).toNatClampNeg), .int x4]) (rest := [.int x3]) S (c_X6_has l D cI cN _ ((g.2 0) (x1 + (9 : Int32)).toNatClampNeg) x4 (fX6_has ((g.2 0) (x1 + (9 : Int32)).toNatClampNeg) x4) rfl) (va_cwS 2 hts gX6_freeBehind_X6_has rfl rfl rfl (by decide +kernel) ⟨Nat.le_of_ble_eq_true rfl, Nat.le_of_ble_eq_true rfl⟩) hK hP hS hA [] rfl rfl hl.1 rfl (Nat.le_of_ble_eq_true rfl) dX6_freeBehind_30 ⟨Nat.zero_le _, Nat.zero_le _⟩ (fun H locs hP hS => ?_)
      refine lv_if_eq (tgt := 55) hx hb dX6_freeBehind_33 (by decide) (fun c4 => ?_) (fun c4 => ?_)
      · have hf := it_t hf c4
        refine lv_iconst (v := (0 : Int32)) hx hb dX6_freeBehind_55 kc_iconst_0 ?_
        refine lv_ior hx hb dX6_freeBehind_56 ?_
        refine lv_istore_n (lv' := [(3, .int (x3 ||| (0 : Int32))), (0, .ref (z 0)), (1, .int x1), (2, .int x2), (4, .int x4)]) hx hb dX6_freeBehind_57 rfl hl (by decide) rfl (fun ls hl => ?_)
        refine lv_iinc (v := (x4 + (1 : Int32))) (lv' := [(4, .int (x4 + (1 : Int32))), (3, .int (x3 ||| (0 : Int32))), (0, .ref (z 0)), (1, .int x1), (2, .int x2)]) hx hb dX6_freeBehind_58 hl (k := 4) rfl rfl (by decide) rfl (fun ls hl => ?_)
        refine lv_goto (tgt := 5) hx hb dX6_freeBehind_61 (by decide) ?_
        exact ih _ _ hf H locs ls hP hS (lv_sub hl [2, 3, 4, 1, 0] rfl)
      · have hf := it_f hf c4
        refine lv_aload_n hx hb dX6_freeBehind_36 rfl (lv_at hl 0 rfl) ?_
        refine lv_iload_n hx hb dX6_freeBehind_37 rfl (lv_at hl 1 rfl) ?_
        refine lv_iload hx hb dX6_freeBehind_38 (lv_at hl 4 rfl) ?_
        refine lv_iload_n hx hb dX6_freeBehind_40 rfl (lv_at hl 2 rfl) ?_
        obtain ⟨v5, hv5, hf⟩ := it_b hf
        refine cQi (As := [.int x1, .int x4, .int x2]) (rest := [.int x3]) (q0 := 0) (ci := 6) S (c_X6_onLast l D cI cN z _ g x1 x4 x2 v5 hv5) (cwV 3 hts gX6_freeBehind_X6_onLast rfl rfl rfl (by decide +kernel) ⟨Nat.le_of_ble_eq_true rfl, Nat.le_of_ble_eq_true rfl⟩) hK hP hS hA hP rfl rfl rfl hl.1 rfl (Nat.le_of_ble_eq_true rfl) dX6_freeBehind_41 ⟨Nat.zero_le _, Nat.zero_le _⟩ (fun H locs hP hS => ?_)
        refine lv_iconst (v := (-1 : Int32)) hx hb dX6_freeBehind_44 kc_iconst_m1 ?_
        refine lv_icmp_ne (tgt := 55) hx hb dX6_freeBehind_45 (by decide) (fun c6 => ?_) (fun c6 => ?_)
        · have hf := it_f hf c6
          refine lv_iconst (v := (0 : Int32)) hx hb dX6_freeBehind_55 kc_iconst_0 ?_
          refine lv_ior hx hb dX6_freeBehind_56 ?_
          refine lv_istore_n (lv' := [(3, .int (x3 ||| (0 : Int32))), (0, .ref (z 0)), (1, .int x1), (2, .int x2), (4, .int x4)]) hx hb dX6_freeBehind_57 rfl hl (by decide) rfl (fun ls hl => ?_)
          refine lv_iinc (v := (x4 + (1 : Int32))) (lv' := [(4, .int (x4 + (1 : Int32))), (3, .int (x3 ||| (0 : Int32))), (0, .ref (z 0)), (1, .int x1), (2, .int x2)]) hx hb dX6_freeBehind_58 hl (k := 4) rfl rfl (by decide) rfl (fun ls hl => ?_)
          refine lv_goto (tgt := 5) hx hb dX6_freeBehind_61 (by decide) ?_
          exact ih _ _ hf H locs ls hP hS (lv_sub hl [2, 3, 4, 1, 0] rfl)
        · have hf := it_t hf c6
          refine lv_iconst (v := (1 : Int32)) hx hb dX6_freeBehind_48 kc_iconst_1 ?_
          refine lv_iload hx hb dX6_freeBehind_49 (lv_at hl 4 rfl) ?_
          refine lv_ishl hx hb dX6_freeBehind_51 ?_
          refine lv_goto (tgt := 56) hx hb dX6_freeBehind_52 (by decide) ?_
          refine lv_ior hx hb dX6_freeBehind_56 ?_
          refine lv_istore_n (lv' := [(3, .int (x3 ||| ((1 : Int32) <<< (x4 &&& 31)))), (0, .ref (z 0)), (1, .int x1), (2, .int x2), (4, .int x4)]) hx hb dX6_freeBehind_57 rfl hl (by decide) rfl (fun ls hl => ?_)
          refine lv_iinc (v := (x4 + (1 : Int32))) (lv' := [(4, .int (x4 + (1 : Int32))), (3, .int (x3 ||| ((1 : Int32) <<< (x4 &&& 31)))), (0, .ref (z 0)), (1, .int x1), (2, .int x2)]) hx hb dX6_freeBehind_58 hl (k := 4) rfl rfl (by decide) rfl (fun ls hl => ?_)
          refine lv_goto (tgt := 5) hx hb dX6_freeBehind_61 (by decide) ?_
          exact ih _ _ hf H locs ls hP hS (lv_sub hl [2, 3, 4, 1, 0] rfl)
set_option maxRecDepth 100000 in
set_option maxHeartbeats 4000000 in
theorem w_X6_freeBehind_0 {p : Program} {l : Launch} {e : Env} {s : State} {m : MethodId} {args : Array Value} {below : List Frame} {meth : Method} {c : Code} {Q : State → Prop} {D : va_G} {cI cN : ClassId} {z : Nat → Nat} (S : CallFix p m c cX6_freeBehind 5 s args wsX6_freeBehind RX6) (hK : KN D cI cN s) {g : OS} {x1 : Int32} {x2 : Int32} {r0 : Int32} (hret : ∀ (H : Heap) (locs : List Loc) (ls : Array Slot) (pc : Nat), decode cX6_freeBehind pc = .ok (.ireturn, 1) → narrow .int (.int r0) = .int r0 → va_S (nwA s.heap.size) s.heap H locs → W p l e (headSpec wsX6_freeBehind rm_X6_freeBehind).room s m args below meth c H locs 0 0 Q (F0 m pc ls [.int r0])) (hf : fX6_freeBehind g x1 x2 = some r0) (H : Heap) (locs : List Loc) (ls : Array Slot) (hP : va_P D vwCl (mdW cI z g) H) (hS : va_S (nwA s.heap.size) s.heap H locs) (hl : lv_has ls 5 [(0, .ref (z 0)), (1, .int x1), (2, .int x2)]) : W p l e (headSpec wsX6_freeBehind rm_X6_freeBehind).room s m args below meth c H locs 0 0 Q (F0 m 0 ls []) := by
  obtain ⟨hx, hb, hml, hown, hts⟩ := id S
  have inX6 := in_X6_freeBehind_X6
  have hA : ∀ q : Nat, s.heap.size ≤ q → nwA s.heap.size q := fun _ h => h
  unfold fX6_freeBehind at hf
  refine lv_iconst (v := (0 : Int32)) hx hb dX6_freeBehind_0 kc_iconst_0 ?_
  refine lv_istore_n (lv' := [(3, .int (0 : Int32)), (0, .ref (z 0)), (1, .int x1), (2, .int x2)]) hx hb dX6_freeBehind_1 rfl hl (by decide) rfl (fun ls hl => ?_)
  refine lv_iconst (v := (0 : Int32)) hx hb dX6_freeBehind_2 kc_iconst_0 ?_
  refine lv_istore (lv' := [(4, .int (0 : Int32)), (3, .int (0 : Int32)), (0, .ref (z 0)), (1, .int x1), (2, .int x2)]) hx hb dX6_freeBehind_3 hl (by decide) rfl (fun ls hl => ?_)
  exact w_X6_freeBehind_5 S hK hret _ _ _ hf H locs ls hP hS (lv_sub hl [2, 3, 4, 1, 0] rfl)
set_option maxRecDepth 100000 in
theorem c_X6_freeBehind (l : Launch) (D : va_G) (cI cN : ClassId) (z : Nat → Nat) (sz : Nat) (g : OS) (x1 : Int32) (x2 : Int32) (r0 : Int32) (hf : fX6_freeBehind g x1 x2 = some r0) : CtP l D cI cN yX6_freeBehind wsX6_freeBehind rm_X6_freeBehind [.ref (z 0), .int x1, .int x2] (mdW cI z g) sz r0 := by
  refine mP (cc := cX6_freeBehind) (maxL := 5) (ty := .int) (by decide) rfl rfl (Nat.le_of_ble_eq_true rfl) ?_
  intro p e s m args below meth c Q S hK hP hS hret ls hl
  exact w_X6_freeBehind_0 S hK hret hf _ _ _ hP hS (lv_sub (show lv_has ls 5 [(0, .ref (z 0)), (1, .int x1), (2, .int x2)] from hl) [0, 1, 2] rfl)
abbrev rm_X6_chosen : Room := { frames := 2, cells := 0, slots := 0, locals := 47 }
theorem in_X6_chosen_X6 : ∀ w ∈ u_ws RX6 TX6 12, w ∈ wsX6_chosen := fun w h => List.mem_cons_of_mem _ (List.mem_append_right _ h)
set_option maxRecDepth 100000 in
set_option maxHeartbeats 4000000 in
theorem w_X6_chosen_10 {p : Program} {l : Launch} {e : Env} {s : State} {m : MethodId} {args : Array Value} {below : List Frame} {meth : Method} {c : Code} {Q : State → Prop} {D : va_G} {cI cN : ClassId} {z : Nat → Nat} (S : CallFix p m c cX6_chosen 7 s args wsX6_chosen RX6) (hK : KN D cI cN s) {g : OS} {x1 : Int32} {x2 : Int32} {r0 : Int32} (hret : ∀ (H : Heap) (locs : List Loc) (ls : Array Slot) (pc : Nat), decode cX6_chosen pc = .ok (.ireturn, 1) → narrow .int (.int r0) = .int r0 → va_S (nwA s.heap.size) s.heap H locs → W p l e (headSpec wsX6_chosen rm_X6_chosen).room s m args below meth c H locs 0 0 Q (F0 m pc ls [.int r0])) : ∀ (k : Nat) (x3 : Int32) (x4 : Int32), fX6_chosen_10 g x1 x2 k x3 x4 = some r0 → ∀ (H : Heap) (locs : List Loc) (ls : Array Slot), va_P D vwCl (mdW cI z g) H → va_S (nwA s.heap.size) s.heap H locs → lv_has ls 7 [(0, .ref (z 0)), (1, .int x1), (2, .int x2), (3, .int x3), (4, .int x4)] → W p l e (headSpec wsX6_chosen rm_X6_chosen).room s m args below meth c H locs 0 0 Q (F0 m 10 ls []) := by
  obtain ⟨hx, hb, hml, hown, hts⟩ := id S
  have inX6 := in_X6_chosen_X6
  have hA : ∀ q : Nat, s.heap.size ≤ q → nwA s.heap.size q := fun _ h => h
  intro k
  induction k with
  | zero => intro x3 x4 hf; rw [fX6_chosen_10_z] at hf; cases hf
  | succ k ih =>
    intro x3 x4 hf H locs ls hP hS hl
    rw [fX6_chosen_10_s] at hf
    refine lv_iload hx hb dX6_chosen_10 (lv_at hl 4 rfl) ?_
    refine lv_aload_n hx hb dX6_chosen_12 rfl (lv_at hl 0 rfl) ?_
    refine va_get (D := D) (ci := 6) (v := .ref (z 1)) (C := RX6) (T := TX6) (N := 12) hx hb hts inX6 hown hK.1 hP 0 rfl rfl 0 (by decide) (hts (.fieldLink RX6 7 "ClosExchangeModel" "s" "[I") (List.mem_of_getElem? (i := 1) rfl)) (fun _ h9 => h9) rfl dX6_chosen_13 ?_
    refine lv_iload_n hx hb dX6_chosen_16 rfl (lv_at hl 1 rfl) ?_
    refine lv_iconst (v := (2 : Int32)) hx hb dX6_chosen_17 kc_iconst_2 ?_
    refine lv_iadd hx hb dX6_chosen_18 ?_
    obtain ⟨c2, hf⟩ := it_g hf
    refine va_iald hx hb hK.1 hP 1 0 rfl rfl (inb_in c2) dX6_chosen_19 ?_
    refine lv_icmp_ge (tgt := 107) hx hb dX6_chosen_20 (by decide) (fun c3 => ?_) (fun c3 => ?_)
    · have hf := it_t hf c3
      refine lv_iload_n hx hb dX6_chosen_107 rfl (lv_at hl 3 rfl) ?_
      have e0 : x3 = r0 := (Option.some.inj hf)
      subst e0
      exact hret H locs ls _ dX6_chosen_108 rfl hS
    · have hf := it_f hf c3
      refine lv_aload_n hx hb dX6_chosen_23 rfl (lv_at hl 0 rfl) ?_
      refine lv_iload_n hx hb dX6_chosen_24 rfl (lv_at hl 1 rfl) ?_
      refine lv_iload hx hb dX6_chosen_25 (lv_at hl 4 rfl) ?_
      obtain ⟨v4, hv4, hf⟩ := it_b hf
      refine cQi (As := [.int x1, .int x4]) (rest := []) (q0 := 0) (ci := 6) S (c_X6_loadOf l D cI cN z _ g x1 x4 v4 hv4) (cwV 2 hts gX6_chosen_X6_loadOf rfl rfl rfl (by decide +kernel) ⟨Nat.le_of_ble_eq_true rfl, Nat.le_of_ble_eq_true rfl⟩) hK hP hS hA hP rfl rfl rfl hl.1 rfl (Nat.le_of_ble_eq_true rfl) dX6_chosen_27 ⟨Nat.zero_le _, Nat.zero_le _⟩ (fun H locs hP hS => ?_)
      refine lv_aload_n hx hb dX6_chosen_30 rfl (lv_at hl 0 rfl) ?_
      refine lv_iload_n hx hb dX6_chosen_31 rfl (lv_at hl 1 rfl) ?_
      refine lv_iload_n hx hb dX6_chosen_32 rfl (lv_at hl 3 rfl) ?_
      obtain ⟨v5, hv5, hf⟩ := it_b hf
      refine cQi (As := [.int x1, .int x3]) (rest := [.int v4]) (q0 := 0) (ci := 6) S (c_X6_loadOf l D cI cN z _ g x1 x3 v5 hv5) (cwV 2 hts gX6_chosen_X6_loadOf rfl rfl rfl (by decide +kernel) ⟨Nat.le_of_ble_eq_true rfl, Nat.le_of_ble_eq_true rfl⟩) hK hP hS hA hP rfl rfl rfl hl.1 rfl (Nat.le_of_ble_eq_true rfl) dX6_chosen_33 ⟨Nat.zero_le _, Nat.zero_le _⟩ (fun H locs hP hS => ?_)
      refine lv_isub hx hb dX6_chosen_36 ?_
      refine lv_istore (lv' := [(5, .int (v4 - v5)), (0, .ref (z 0)), (1, .int x1), (2, .int x2), (3, .int x3), (4, .int x4)]) hx hb dX6_chosen_37 hl (by decide) rfl (fun ls hl => ?_)
      refine lv_aload_n hx hb dX6_chosen_39 rfl (lv_at hl 1 rfl) ?_
      refine va_get (D := D) (ci := 6) (v := .ref (z 1)) (C := RX6) (T := TX6) (N := 12) hx hb hts inX6 hown hK.1 hP 0 rfl rfl 0 (by decide) (hts (.fieldLink RX6 7 "ClosExchangeModel" "s" "[I") (List.mem_of_getElem? (i := 1) rfl)) (fun _ h9 => h9) rfl dX6_chosen_40 ?_
      refine lv_iload_n hx hb dX6_chosen_43 rfl (lv_at hl 2 rfl) ?_
      refine lv_iconst (v := (3 : Int32)) hx hb dX6_chosen_44 kc_iconst_3 ?_
      refine lv_iadd hx hb dX6_chosen_45 ?_
      obtain ⟨c6, hf⟩ := it_g hf
      refine va_iald hx hb hK.1 hP 1 0 rfl rfl (inb_in c6) dX6_chosen_46 ?_
      refine lv_iconst (v := (1 : Int32)) hx hb dX6_chosen_47 kc_iconst_1 ?_
      obtain ⟨v15, hg, hf⟩ := it_b hf
      have hj : ∀ (H : Heap) (locs : List Loc) (ls : Array Slot), va_P D vwCl (mdW cI z g) H → va_S (nwA s.heap.size) s.heap H locs → lv_has ls 7 [(0, .ref (z 0)), (1, .int x1), (2, .int x2), (3, .int x3), (4, .int x4)] → W p l e (headSpec wsX6_chosen rm_X6_chosen).room s m args below meth c H locs 0 0 Q (F0 m 78 ls [.int v15]) := by
        intro H locs ls hP hS hl
        refine lv_istore (lv' := [(6, .int v15), (0, .ref (z 0)), (1, .int x1), (2, .int x2), (3, .int x3), (4, .int x4)]) hx hb dX6_chosen_78 hl (by decide) rfl (fun ls hl => ?_)
        refine lv_iload_n hx hb dX6_chosen_80 rfl (lv_at hl 3 rfl) ?_
        refine lv_iload hx hb dX6_chosen_81 (lv_at hl 5 rfl) ?_
        refine cSi (As := [.int x2, .int x4]) (rest := []) S (c_X6_has l D cI cN _ x2 x4 (fX6_has x2 x4) rfl) (va_cwS 2 hts gX6_chosen_X6_has rfl rfl rfl (by decide +kernel) ⟨Nat.le_of_ble_eq_true rfl, Nat.le_of_ble_eq_true rfl⟩) hK hP hS hA [] rfl rfl hl.1 rfl (Nat.le_of_ble_eq_true rfl) dX6_chosen_83 ⟨Nat.zero_le _, Nat.zero_le _⟩ (fun H locs hP hS => ?_)
        refine lv_if_eq (tgt := 99) hx hb dX6_chosen_86 (by decide) (fun c16 => ?_) (fun c16 => ?_)
        · have hf := it_t hf c16
          refine lv_iload_n hx hb dX6_chosen_99 rfl (lv_at hl 4 rfl) ?_
          refine lv_istore_n (lv' := [(3, .int x3), (6, .int v15), (0, .ref (z 0)), (1, .int x1), (2, .int x2), (4, .int x4)]) hx hb dX6_chosen_100 rfl hl (by decide) rfl (fun ls hl => ?_)
          refine lv_iinc (v := (x4 + (1 : Int32))) (lv' := [(4, .int (x4 + (1 : Int32))), (3, .int x3), (6, .int v15), (0, .ref (z 0)), (1, .int x1), (2, .int x2)]) hx hb dX6_chosen_101 hl (k := 5) rfl rfl (by decide) rfl (fun ls hl => ?_)
          refine lv_goto (tgt := 10) hx hb dX6_chosen_104 (by decide) ?_
          exact ih _ _ hf H locs ls hP hS (lv_sub hl [3, 4, 5, 1, 0] rfl)
        · have hf := it_f hf c16
          refine lv_iload hx hb dX6_chosen_89 (lv_at hl 0 rfl) ?_
          refine lv_if_eq (tgt := 99) hx hb dX6_chosen_91 (by decide) (fun c17 => ?_) (fun c17 => ?_)
          · have hf := it_t hf c17
            refine lv_iload_n hx hb dX6_chosen_99 rfl (lv_at hl 4 rfl) ?_
            refine lv_istore_n (lv' := [(3, .int x3), (6, .int v15), (0, .ref (z 0)), (1, .int x1), (2, .int x2), (4, .int x4)]) hx hb dX6_chosen_100 rfl hl (by decide) rfl (fun ls hl => ?_)
            refine lv_iinc (v := (x4 + (1 : Int32))) (lv' := [(4, .int (x4 + (1 : Int32))), (3, .int x3), (6, .int v15), (0, .ref (z 0)), (1, .int x1), (2, .int x2)]) hx hb dX6_chosen_101 hl (k := 5) rfl rfl (by decide) rfl (fun ls hl => ?_)
            refine lv_goto (tgt := 10) hx hb dX6_chosen_104 (by decide) ?_
            exact ih _ _ hf H locs ls hP hS (lv_sub hl [3, 4, 5, 1, 0] rfl)
          · have hf := it_f hf c17
            refine lv_iload hx hb dX6_chosen_94 (lv_at hl 5 rfl) ?_
            refine lv_goto (tgt := 100) hx hb dX6_chosen_96 (by decide) ?_
            refine lv_istore_n (lv' := [(3, .int x4), (6, .int v15), (0, .ref (z 0)), (1, .int x1), (2, .int x2), (4, .int x4)]) hx hb dX6_chosen_100 rfl hl (by decide) rfl (fun ls hl => ?_)
            refine lv_iinc (v := (x4 + (1 : Int32))) (lv' := [(4, .int (x4 + (1 : Int32))), (3, .int x4), (6, .int v15), (0, .ref (z 0)), (1, .int x1), (2, .int x2)]) hx hb dX6_chosen_101 hl (k := 5) rfl rfl (by decide) rfl (fun ls hl => ?_)
            refine lv_goto (tgt := 10) hx hb dX6_chosen_104 (by decide) ?_
            exact ih _ _ hf H locs ls hP hS (lv_sub hl [3, 4, 5, 1, 0] rfl)
      have hf := hg
      refine lv_icmp_ne (tgt := 56) hx hb dX6_chosen_48 (by decide) (fun c7 => ?_) (fun c7 => ?_)
      · have hf := it_f hf c7
        refine lv_aload_n hx hb dX6_chosen_56 rfl (lv_at hl 1 rfl) ?_
        refine va_get (D := D) (ci := 6) (v := .ref (z 1)) (C := RX6) (T := TX6) (N := 12) hx hb hts inX6 hown hK.1 hP 0 rfl rfl 0 (by decide) (hts (.fieldLink RX6 7 "ClosExchangeModel" "s" "[I") (List.mem_of_getElem? (i := 1) rfl)) (fun _ h9 => h9) rfl dX6_chosen_57 ?_
        refine lv_iload_n hx hb dX6_chosen_60 rfl (lv_at hl 2 rfl) ?_
        refine lv_iconst (v := (3 : Int32)) hx hb dX6_chosen_61 kc_iconst_3 ?_
        refine lv_iadd hx hb dX6_chosen_62 ?_
        obtain ⟨c8, hf⟩ := it_g hf
        refine va_iald hx hb hK.1 hP 1 0 rfl rfl (inb_in c8) dX6_chosen_63 ?_
        refine lv_iconst (v := (2 : Int32)) hx hb dX6_chosen_64 kc_iconst_2 ?_
        refine lv_icmp_ne (tgt := 77) hx hb dX6_chosen_65 (by decide) (fun c9 => ?_) (fun c9 => ?_)
        · have hf := it_f hf c9
          refine lv_iconst (v := (0 : Int32)) hx hb dX6_chosen_77 kc_iconst_0 ?_
          have e0 := Option.some.inj hf
          subst e0
          exact hj H locs ls hP hS (lv_sub hl [1, 2, 3, 4, 5] rfl)
        · have hf := it_t hf c9
          refine lv_iload hx hb dX6_chosen_68 (lv_at hl 0 rfl) ?_
          refine lv_if_ge (tgt := 77) hx hb dX6_chosen_70 (by decide) (fun c10 => ?_) (fun c10 => ?_)
          · have hf := it_t hf c10
            refine lv_iconst (v := (0 : Int32)) hx hb dX6_chosen_77 kc_iconst_0 ?_
            have e0 := Option.some.inj hf
            subst e0
            exact hj H locs ls hP hS (lv_sub hl [1, 2, 3, 4, 5] rfl)
          · have hf := it_f hf c10
            refine lv_iconst (v := (1 : Int32)) hx hb dX6_chosen_73 kc_iconst_1 ?_
            refine lv_goto (tgt := 78) hx hb dX6_chosen_74 (by decide) ?_
            have e0 := Option.some.inj hf
            subst e0
            exact hj H locs ls hP hS (lv_sub hl [1, 2, 3, 4, 5] rfl)
      · have hf := it_t hf c7
        refine lv_iload hx hb dX6_chosen_51 (lv_at hl 0 rfl) ?_
        refine lv_if_gt (tgt := 73) hx hb dX6_chosen_53 (by decide) (fun c11 => ?_) (fun c11 => ?_)
        · have hf := it_t hf c11
          refine lv_iconst (v := (1 : Int32)) hx hb dX6_chosen_73 kc_iconst_1 ?_
          refine lv_goto (tgt := 78) hx hb dX6_chosen_74 (by decide) ?_
          have e0 := Option.some.inj hf
          subst e0
          exact hj H locs ls hP hS (lv_sub hl [1, 2, 3, 4, 5] rfl)
        · have hf := it_f hf c11
          refine lv_aload_n hx hb dX6_chosen_56 rfl (lv_at hl 1 rfl) ?_
          refine va_get (D := D) (ci := 6) (v := .ref (z 1)) (C := RX6) (T := TX6) (N := 12) hx hb hts inX6 hown hK.1 hP 0 rfl rfl 0 (by decide) (hts (.fieldLink RX6 7 "ClosExchangeModel" "s" "[I") (List.mem_of_getElem? (i := 1) rfl)) (fun _ h9 => h9) rfl dX6_chosen_57 ?_
          refine lv_iload_n hx hb dX6_chosen_60 rfl (lv_at hl 2 rfl) ?_
          refine lv_iconst (v := (3 : Int32)) hx hb dX6_chosen_61 kc_iconst_3 ?_
          refine lv_iadd hx hb dX6_chosen_62 ?_
          obtain ⟨c12, hf⟩ := it_g hf
          refine va_iald hx hb hK.1 hP 1 0 rfl rfl (inb_in c12) dX6_chosen_63 ?_
          refine lv_iconst (v := (2 : Int32)) hx hb dX6_chosen_64 kc_iconst_2 ?_
          refine lv_icmp_ne (tgt := 77) hx hb dX6_chosen_65 (by decide) (fun c13 => ?_) (fun c13 => ?_)
          · have hf := it_f hf c13
            refine lv_iconst (v := (0 : Int32)) hx hb dX6_chosen_77 kc_iconst_0 ?_
            have e0 := Option.some.inj hf
            subst e0
            exact hj H locs ls hP hS (lv_sub hl [1, 2, 3, 4, 5] rfl)
          · have hf := it_t hf c13
            refine lv_iload hx hb dX6_chosen_68 (lv_at hl 0 rfl) ?_
            refine lv_if_ge (tgt := 77) hx hb dX6_chosen_70 (by decide) (fun c14 => ?_) (fun c14 => ?_)
            · have hf := it_t hf c14
              refine lv_iconst (v := (0 : Int32)) hx hb dX6_chosen_77 kc_iconst_0 ?_
              have e0 := Option.some.inj hf
              subst e0
              exact hj H locs ls hP hS (lv_sub hl [1, 2, 3, 4, 5] rfl)
            · have hf := it_f hf c14
              refine lv_iconst (v := (1 : Int32)) hx hb dX6_chosen_73 kc_iconst_1 ?_
              refine lv_goto (tgt := 78) hx hb dX6_chosen_74 (by decide) ?_
              have e0 := Option.some.inj hf
              subst e0
              exact hj H locs ls hP hS (lv_sub hl [1, 2, 3, 4, 5] rfl)
set_option maxRecDepth 100000 in
set_option maxHeartbeats 4000000 in
theorem w_X6_chosen_0 {p : Program} {l : Launch} {e : Env} {s : State} {m : MethodId} {args : Array Value} {below : List Frame} {meth : Method} {c : Code} {Q : State → Prop} {D : va_G} {cI cN : ClassId} {z : Nat → Nat} (S : CallFix p m c cX6_chosen 7 s args wsX6_chosen RX6) (hK : KN D cI cN s) {g : OS} {x1 : Int32} {x2 : Int32} {r0 : Int32} (hret : ∀ (H : Heap) (locs : List Loc) (ls : Array Slot) (pc : Nat), decode cX6_chosen pc = .ok (.ireturn, 1) → narrow .int (.int r0) = .int r0 → va_S (nwA s.heap.size) s.heap H locs → W p l e (headSpec wsX6_chosen rm_X6_chosen).room s m args below meth c H locs 0 0 Q (F0 m pc ls [.int r0])) (hf : fX6_chosen g x1 x2 = some r0) (H : Heap) (locs : List Loc) (ls : Array Slot) (hP : va_P D vwCl (mdW cI z g) H) (hS : va_S (nwA s.heap.size) s.heap H locs) (hl : lv_has ls 7 [(0, .ref (z 0)), (1, .int x1), (2, .int x2)]) : W p l e (headSpec wsX6_chosen rm_X6_chosen).room s m args below meth c H locs 0 0 Q (F0 m 0 ls []) := by
  obtain ⟨hx, hb, hml, hown, hts⟩ := id S
  have inX6 := in_X6_chosen_X6
  have hA : ∀ q : Nat, s.heap.size ≤ q → nwA s.heap.size q := fun _ h => h
  unfold fX6_chosen at hf
  refine lv_iload_n hx hb dX6_chosen_0 rfl (lv_at hl 2 rfl) ?_
  obtain ⟨v1, hv1, hf⟩ := it_b hf
  refine cSi (As := [.int x2]) (rest := []) S (c_X6_lowest l D cI cN _ x2 v1 hv1) (va_cwS 1 hts gX6_chosen_X6_lowest rfl rfl rfl (by decide +kernel) ⟨Nat.le_of_ble_eq_true rfl, Nat.le_of_ble_eq_true rfl⟩) hK hP hS hA [] rfl rfl hl.1 rfl (Nat.le_of_ble_eq_true rfl) dX6_chosen_1 ⟨Nat.zero_le _, Nat.zero_le _⟩ (fun H locs hP hS => ?_)
  refine lv_istore_n (lv' := [(3, .int v1), (0, .ref (z 0)), (1, .int x1), (2, .int x2)]) hx hb dX6_chosen_4 rfl hl (by decide) rfl (fun ls hl => ?_)
  refine lv_iload_n hx hb dX6_chosen_5 rfl (lv_at hl 0 rfl) ?_
  refine lv_iconst (v := (1 : Int32)) hx hb dX6_chosen_6 kc_iconst_1 ?_
  refine lv_iadd hx hb dX6_chosen_7 ?_
  refine lv_istore (lv' := [(4, .int (v1 + (1 : Int32))), (3, .int v1), (0, .ref (z 0)), (1, .int x1), (2, .int x2)]) hx hb dX6_chosen_8 hl (by decide) rfl (fun ls hl => ?_)
  exact w_X6_chosen_10 S hK hret _ _ _ hf H locs ls hP hS (lv_sub hl [2, 3, 4, 1, 0] rfl)
set_option maxRecDepth 100000 in
theorem c_X6_chosen (l : Launch) (D : va_G) (cI cN : ClassId) (z : Nat → Nat) (sz : Nat) (g : OS) (x1 : Int32) (x2 : Int32) (r0 : Int32) (hf : fX6_chosen g x1 x2 = some r0) : CtP l D cI cN yX6_chosen wsX6_chosen rm_X6_chosen [.ref (z 0), .int x1, .int x2] (mdW cI z g) sz r0 := by
  refine mP (cc := cX6_chosen) (maxL := 7) (ty := .int) (by decide) rfl rfl (Nat.le_of_ble_eq_true rfl) ?_
  intro p e s m args below meth c Q S hK hP hS hret ls hl
  exact w_X6_chosen_0 S hK hret hf _ _ _ hP hS (lv_sub (show lv_has ls 7 [(0, .ref (z 0)), (1, .int x1), (2, .int x2)] from hl) [0, 1, 2] rfl)
abbrev rm_X6_lays : Room := { frames := 2, cells := 0, slots := 0, locals := 47 }
theorem in_X6_lays_X6 : ∀ w ∈ u_ws RX6 TX6 12, w ∈ wsX6_lays := fun w h => List.mem_cons_of_mem _ (List.mem_append_right _ h)
set_option maxRecDepth 100000 in
set_option maxHeartbeats 4000000 in
theorem w_X6_lays_16 {p : Program} {l : Launch} {e : Env} {s : State} {m : MethodId} {args : Array Value} {below : List Frame} {meth : Method} {c : Code} {Q : State → Prop} {D : va_G} {cI cN : ClassId} {A : Nat → Prop} {z : Nat → Nat} (S : CallFix p m c cX6_lays 8 s args wsX6_lays RX6) (hK : KN D cI cN s) (hA : ∀ q : Nat, s.heap.size ≤ q → A q) {x1 : Int32} {x2 : Int32} {x3 : Int32} {r0 : Int32} {g' : OS} (hret : ∀ (H : Heap) (locs : List Loc) (ls : Array Slot) (pc : Nat), decode cX6_lays pc = .ok (.ireturn, 1) → narrow .int (.int r0) = .int r0 → va_P D vwCl (mdW cI z g') H → va_D A (mdW cI z g') → va_S A s.heap H locs → W p l e (headSpec wsX6_lays rm_X6_lays).room s m args below meth c H locs 0 0 Q (F0 m pc ls [.int r0])) : ∀ (k : Nat) (x5 : Int32) (x6 : Int32) (x7 : Int32) (g : OS), fX6_lays_16 x1 x2 x3 k x5 x6 x7 g = some (r0, g') → ∀ (H : Heap) (locs : List Loc) (ls : Array Slot), va_P D vwCl (mdW cI z g) H → va_D A (mdW cI z g) → va_S A s.heap H locs → lv_has ls 8 [(0, .ref (z 0)), (1, .int x1), (2, .int x2), (3, .int x3), (5, .int x5), (6, .int x6), (7, .int x7)] → W p l e (headSpec wsX6_lays rm_X6_lays).room s m args below meth c H locs 0 0 Q (F0 m 16 ls []) := by
  obtain ⟨hx, hb, hml, hown, hts⟩ := id S
  have inX6 := in_X6_lays_X6
  intro k
  induction k with
  | zero => intro x5 x6 x7 g hf; rw [fX6_lays_16_z] at hf; cases hf
  | succ k ih =>
    intro x5 x6 x7 g hf H locs ls hP hD hS hl
    rw [fX6_lays_16_s] at hf
    refine lv_iload hx hb dX6_lays_16 (lv_at hl 5 rfl) ?_
    refine lv_iconst (v := (-1 : Int32)) hx hb dX6_lays_18 kc_iconst_m1 ?_
    refine lv_icmp_eq (tgt := 99) hx hb dX6_lays_19 (by decide) (fun c2 => ?_) (fun c2 => ?_)
    · have hf := it_t hf c2
      refine lv_iload hx hb dX6_lays_99 (lv_at hl 4 rfl) ?_
      have e0 : x5 = r0 := congrArg (fun z => z.1) (Option.some.inj hf)
      have e1 : g = g' := congrArg (fun z => z.2) (Option.some.inj hf)
      subst e0
      subst e1
      exact hret H locs ls _ dX6_lays_101 rfl hP hD hS
    · have hf := it_f hf c2
      refine lv_aload_n hx hb dX6_lays_22 rfl (lv_at hl 0 rfl) ?_
      refine va_get (D := D) (ci := 6) (v := .ref (z 3)) (C := RX6) (T := TX6) (N := 12) hx hb hts inX6 hown hK.1 hP 0 rfl rfl 9 (by decide) (hts (.fieldLink RX6 16 "ClosExchangeModel" "chain" "[I") (List.mem_of_getElem? (i := 1) rfl)) (fun _ h9 => h9) rfl dX6_lays_23 ?_
      refine lv_iload hx hb dX6_lays_26 (lv_at hl 4 rfl) ?_
      refine lv_iload hx hb dX6_lays_28 (lv_at hl 5 rfl) ?_
      obtain ⟨c3, hf⟩ := it_g hf
      obtain ⟨w4, hw4, hf⟩ := it_j hf
      refine giastw (wf := (mdW cI z (setR g 2 w4))) hw4 hx hb hK.1 hP hD hS 3 0 rfl rfl (inb_in c3) dX6_lays_30 rfl (fun H locs hP hD hS => ?_)
      refine lv_iinc (v := (x5 + (1 : Int32))) (lv' := [(5, .int (x5 + (1 : Int32))), (0, .ref (z 0)), (1, .int x1), (2, .int x2), (3, .int x3), (6, .int x6), (7, .int x7)]) hx hb dX6_lays_31 hl (k := 4) rfl rfl (by decide) rfl (fun ls hl => ?_)
      refine lv_iload hx hb dX6_lays_34 (lv_at hl 6 rfl) ?_
      obtain ⟨v13, hg, hf⟩ := it_b hf
      have hj : ∀ (H : Heap) (locs : List Loc) (ls : Array Slot), va_P D vwCl (mdW cI z (setR g 2 w4)) H → va_D A (mdW cI z (setR g 2 w4)) → va_S A s.heap H locs → lv_has ls 8 [(0, .ref (z 0)), (1, .int x1), (2, .int x2), (3, .int x3), (5, .int (x5 + (1 : Int32))), (7, .int x7)] → W p l e (headSpec wsX6_lays rm_X6_lays).room s m args below meth c H locs 0 0 Q (F0 m 82 ls [.int v13]) := by
        intro H locs ls hP hD hS hl
        refine lv_istore (lv' := [(6, .int v13), (0, .ref (z 0)), (1, .int x1), (2, .int x2), (3, .int x3), (5, .int (x5 + (1 : Int32))), (7, .int x7)]) hx hb dX6_lays_82 hl (by decide) rfl (fun ls hl => ?_)
        refine lv_iload hx hb dX6_lays_84 (lv_at hl 6 rfl) ?_
        refine lv_if_ne (tgt := 93) hx hb dX6_lays_86 (by decide) (fun c14 => ?_) (fun c14 => ?_)
        · have hf := it_f hf c14
          refine lv_iconst (v := (0 : Int32)) hx hb dX6_lays_93 kc_iconst_0 ?_
          refine lv_istore (lv' := [(7, .int (0 : Int32)), (6, .int v13), (0, .ref (z 0)), (1, .int x1), (2, .int x2), (3, .int x3), (5, .int (x5 + (1 : Int32)))]) hx hb dX6_lays_94 hl (by decide) rfl (fun ls hl => ?_)
          refine lv_goto (tgt := 16) hx hb dX6_lays_96 (by decide) ?_
          exact ih _ _ _ _ hf H locs ls hP hD hS (lv_sub hl [2, 3, 4, 5, 6, 1, 0] rfl)
        · have hf := it_t hf c14
          refine lv_iconst (v := (1 : Int32)) hx hb dX6_lays_89 kc_iconst_1 ?_
          refine lv_goto (tgt := 94) hx hb dX6_lays_90 (by decide) ?_
          refine lv_istore (lv' := [(7, .int (1 : Int32)), (6, .int v13), (0, .ref (z 0)), (1, .int x1), (2, .int x2), (3, .int x3), (5, .int (x5 + (1 : Int32)))]) hx hb dX6_lays_94 hl (by decide) rfl (fun ls hl => ?_)
          refine lv_goto (tgt := 16) hx hb dX6_lays_96 (by decide) ?_
          exact ih _ _ _ _ hf H locs ls hP hD hS (lv_sub hl [2, 3, 4, 5, 6, 1, 0] rfl)
      have hf := hg
      refine lv_if_eq (tgt := 59) hx hb dX6_lays_36 (by decide) (fun c5 => ?_) (fun c5 => ?_)
      · have hf := it_t hf c5
        refine lv_aload_n hx hb dX6_lays_59 rfl (lv_at hl 1 rfl) ?_
        refine lv_iload_n hx hb dX6_lays_60 rfl (lv_at hl 2 rfl) ?_
        refine lv_iload_n hx hb dX6_lays_61 rfl (lv_at hl 3 rfl) ?_
        refine lv_aload_n hx hb dX6_lays_62 rfl (lv_at hl 1 rfl) ?_
        refine lv_iload_n hx hb dX6_lays_63 rfl (lv_at hl 2 rfl) ?_
        refine lv_iload hx hb dX6_lays_64 (lv_at hl 5 rfl) ?_
        refine lv_iconst (v := (1 : Int32)) hx hb dX6_lays_66 kc_iconst_1 ?_
        obtain ⟨v6, hv6, hf⟩ := it_b hf
        refine cQi (As := [.int x1, .int x6, .int (1 : Int32)]) (rest := [.int x2, .int x1, .ref (z 0)]) (q0 := 0) (ci := 6) S (c_X6_of l D cI cN z _ (setR g 2 w4) x1 x6 (1 : Int32) v6 hv6) (cwV 3 hts gX6_lays_X6_of rfl rfl rfl (by decide +kernel) ⟨Nat.le_of_ble_eq_true rfl, Nat.le_of_ble_eq_true rfl⟩) hK hP hS hA hP rfl rfl rfl hl.1 rfl (Nat.le_of_ble_eq_true rfl) dX6_lays_67 ⟨Nat.zero_le _, Nat.zero_le _⟩ (fun H locs hP hS => ?_)
        refine lv_aload_n hx hb dX6_lays_70 rfl (lv_at hl 1 rfl) ?_
        refine va_get (D := D) (ci := 6) (v := .ref (z 1)) (C := RX6) (T := TX6) (N := 12) hx hb hts inX6 hown hK.1 hP 0 rfl rfl 0 (by decide) (hts (.fieldLink RX6 7 "ClosExchangeModel" "s" "[I") (List.mem_of_getElem? (i := 2) rfl)) (fun _ h9 => h9) rfl dX6_lays_71 ?_
        refine lv_iload_n hx hb dX6_lays_74 rfl (lv_at hl 2 rfl) ?_
        refine lv_iconst (v := (1 : Int32)) hx hb dX6_lays_75 kc_iconst_1 ?_
        refine lv_iadd hx hb dX6_lays_76 ?_
        obtain ⟨c7, hf⟩ := it_g hf
        refine va_iald hx hb hK.1 hP 1 0 rfl rfl (inb_in c7) dX6_lays_77 ?_
        obtain ⟨c8, hf⟩ := it_g hf
        refine lv_idiv hx hb dX6_lays_78 c8 ?_
        obtain ⟨v9, hv9, hf⟩ := it_b hf
        refine cQi (As := [.int x1, .int x2, .int (v6 / ((g.2 0) (x1 + (1 : Int32)).toNatClampNeg))]) (rest := []) (q0 := 0) (ci := 6) S (c_X6_onLast l D cI cN z _ (setR g 2 w4) x1 x2 (v6 / ((g.2 0) (x1 + (1 : Int32)).toNatClampNeg)) v9 hv9) (cwV 3 hts gX6_lays_X6_onLast rfl rfl rfl (by decide +kernel) ⟨Nat.le_of_ble_eq_true rfl, Nat.le_of_ble_eq_true rfl⟩) hK hP hS hA hP rfl rfl rfl hl.1 rfl (Nat.le_of_ble_eq_true rfl) dX6_lays_79 ⟨Nat.zero_le _, Nat.zero_le _⟩ (fun H locs hP hS => ?_)
        have e0 := Option.some.inj hf
        subst e0
        exact hj H locs ls hP hD hS (lv_sub hl [1, 2, 3, 4, 0, 6] rfl)
      · have hf := it_f hf c5
        refine lv_aload_n hx hb dX6_lays_39 rfl (lv_at hl 1 rfl) ?_
        refine lv_iload_n hx hb dX6_lays_40 rfl (lv_at hl 2 rfl) ?_
        refine lv_iload hx hb dX6_lays_41 (lv_at hl 5 rfl) ?_
        refine lv_aload_n hx hb dX6_lays_43 rfl (lv_at hl 1 rfl) ?_
        refine va_get (D := D) (ci := 6) (v := .ref (z 1)) (C := RX6) (T := TX6) (N := 12) hx hb hts inX6 hown hK.1 hP 0 rfl rfl 0 (by decide) (hts (.fieldLink RX6 7 "ClosExchangeModel" "s" "[I") (List.mem_of_getElem? (i := 2) rfl)) (fun _ h9 => h9) rfl dX6_lays_44 ?_
        refine lv_iload_n hx hb dX6_lays_47 rfl (lv_at hl 2 rfl) ?_
        refine lv_iconst (v := (1 : Int32)) hx hb dX6_lays_48 kc_iconst_1 ?_
        refine lv_iadd hx hb dX6_lays_49 ?_
        obtain ⟨c10, hf⟩ := it_g hf
        refine va_iald hx hb hK.1 hP 1 0 rfl rfl (inb_in c10) dX6_lays_50 ?_
        obtain ⟨c11, hf⟩ := it_g hf
        refine lv_idiv hx hb dX6_lays_51 c11 ?_
        refine lv_iload_n hx hb dX6_lays_52 rfl (lv_at hl 4 rfl) ?_
        obtain ⟨v12, hv12, hf⟩ := it_b hf
        refine cQi (As := [.int x1, .int (x6 / ((g.2 0) (x1 + (1 : Int32)).toNatClampNeg)), .int x3]) (rest := []) (q0 := 0) (ci := 6) S (c_X6_onFirst l D cI cN z _ (setR g 2 w4) x1 (x6 / ((g.2 0) (x1 + (1 : Int32)).toNatClampNeg)) x3 v12 hv12) (cwV 3 hts gX6_lays_X6_onFirst rfl rfl rfl (by decide +kernel) ⟨Nat.le_of_ble_eq_true rfl, Nat.le_of_ble_eq_true rfl⟩) hK hP hS hA hP rfl rfl rfl hl.1 rfl (Nat.le_of_ble_eq_true rfl) dX6_lays_53 ⟨Nat.zero_le _, Nat.zero_le _⟩ (fun H locs hP hS => ?_)
        refine lv_goto (tgt := 82) hx hb dX6_lays_56 (by decide) ?_
        have e0 := Option.some.inj hf
        subst e0
        exact hj H locs ls hP hD hS (lv_sub hl [1, 2, 3, 4, 0, 6] rfl)
set_option maxRecDepth 100000 in
set_option maxHeartbeats 4000000 in
theorem w_X6_lays_0 {p : Program} {l : Launch} {e : Env} {s : State} {m : MethodId} {args : Array Value} {below : List Frame} {meth : Method} {c : Code} {Q : State → Prop} {D : va_G} {cI cN : ClassId} {A : Nat → Prop} {z : Nat → Nat} (S : CallFix p m c cX6_lays 8 s args wsX6_lays RX6) (hK : KN D cI cN s) (hA : ∀ q : Nat, s.heap.size ≤ q → A q) {g : OS} {x1 : Int32} {x2 : Int32} {x3 : Int32} {x4 : Int32} {r0 : Int32} {g' : OS} (hret : ∀ (H : Heap) (locs : List Loc) (ls : Array Slot) (pc : Nat), decode cX6_lays pc = .ok (.ireturn, 1) → narrow .int (.int r0) = .int r0 → va_P D vwCl (mdW cI z g') H → va_D A (mdW cI z g') → va_S A s.heap H locs → W p l e (headSpec wsX6_lays rm_X6_lays).room s m args below meth c H locs 0 0 Q (F0 m pc ls [.int r0])) (hf : fX6_lays g x1 x2 x3 x4 = some (r0, g')) (H : Heap) (locs : List Loc) (ls : Array Slot) (hP : va_P D vwCl (mdW cI z g) H) (hD : va_D A (mdW cI z g)) (hS : va_S A s.heap H locs) (hl : lv_has ls 8 [(0, .ref (z 0)), (1, .int x1), (2, .int x2), (3, .int x3), (4, .int x4)]) : W p l e (headSpec wsX6_lays rm_X6_lays).room s m args below meth c H locs 0 0 Q (F0 m 0 ls []) := by
  obtain ⟨hx, hb, hml, hown, hts⟩ := id S
  have inX6 := in_X6_lays_X6
  unfold fX6_lays at hf
  refine lv_iconst (v := (0 : Int32)) hx hb dX6_lays_0 kc_iconst_0 ?_
  refine lv_istore (lv' := [(5, .int (0 : Int32)), (0, .ref (z 0)), (1, .int x1), (2, .int x2), (3, .int x3), (4, .int x4)]) hx hb dX6_lays_1 hl (by decide) rfl (fun ls hl => ?_)
  refine lv_aload_n hx hb dX6_lays_3 rfl (lv_at hl 1 rfl) ?_
  refine lv_iload_n hx hb dX6_lays_4 rfl (lv_at hl 2 rfl) ?_
  refine lv_iload_n hx hb dX6_lays_5 rfl (lv_at hl 3 rfl) ?_
  refine lv_iload hx hb dX6_lays_6 (lv_at hl 5 rfl) ?_
  obtain ⟨v1, hv1, hf⟩ := it_b hf
  refine cQi (As := [.int x1, .int x2, .int x4]) (rest := []) (q0 := 0) (ci := 6) S (c_X6_onLast l D cI cN z _ g x1 x2 x4 v1 hv1) (cwV 3 hts gX6_lays_X6_onLast rfl rfl rfl (by decide +kernel) ⟨Nat.le_of_ble_eq_true rfl, Nat.le_of_ble_eq_true rfl⟩) hK hP hS hA hP rfl rfl rfl hl.1 rfl (Nat.le_of_ble_eq_true rfl) dX6_lays_8 ⟨Nat.zero_le _, Nat.zero_le _⟩ (fun H locs hP hS => ?_)
  refine lv_istore (lv' := [(6, .int v1), (5, .int (0 : Int32)), (0, .ref (z 0)), (1, .int x1), (2, .int x2), (3, .int x3), (4, .int x4)]) hx hb dX6_lays_11 hl (by decide) rfl (fun ls hl => ?_)
  refine lv_iconst (v := (1 : Int32)) hx hb dX6_lays_13 kc_iconst_1 ?_
  refine lv_istore (lv' := [(7, .int (1 : Int32)), (6, .int v1), (5, .int (0 : Int32)), (0, .ref (z 0)), (1, .int x1), (2, .int x2), (3, .int x3), (4, .int x4)]) hx hb dX6_lays_14 hl (by decide) rfl (fun ls hl => ?_)
  exact w_X6_lays_16 S hK hA hret _ _ _ _ _ hf H locs ls hP hD hS (lv_sub hl [3, 4, 5, 6, 2, 1, 0] rfl)
set_option maxRecDepth 100000 in
theorem c_X6_lays (l : Launch) (D : va_G) (cI cN : ClassId) (z : Nat → Nat) (sz : Nat) (g : OS) (x1 : Int32) (x2 : Int32) (x3 : Int32) (x4 : Int32) (r0 : Int32) (g' : OS) (hf : fX6_lays g x1 x2 x3 x4 = some (r0, g')) : CtI l D cI cN yX6_lays wsX6_lays rm_X6_lays 0 0 [.ref (z 0), .int x1, .int x2, .int x3, .int x4] (mdW cI z g) sz r0 (mdW cI z g') := by
  refine mW (cc := cX6_lays) (maxL := 8) (ty := .int) (by decide) rfl rfl (Nat.le_of_ble_eq_true rfl) ?_
  intro p e s m args below meth c Q A S hK hP hD hS hA hret ls hl
  exact w_X6_lays_0 S hK hA hret hf _ _ _ hP hD hS (lv_sub (show lv_has ls 8 [(0, .ref (z 0)), (1, .int x1), (2, .int x2), (3, .int x3), (4, .int x4)] from hl) [0, 1, 2, 3, 4] rfl)
abbrev rm_X6_pairOf : Room := { frames := 3, cells := 0, slots := 0, locals := 74 }
theorem in_X6_pairOf_X6 : ∀ w ∈ u_ws RX6 TX6 12, w ∈ wsX6_pairOf := fun w h => List.mem_cons_of_mem _ (List.mem_append_right _ h)
set_option maxRecDepth 100000 in
set_option maxHeartbeats 4000000 in
theorem w_X6_pairOf_33 {p : Program} {l : Launch} {e : Env} {s : State} {m : MethodId} {args : Array Value} {below : List Frame} {meth : Method} {c : Code} {Q : State → Prop} {D : va_G} {cI cN : ClassId} {A : Nat → Prop} {z : Nat → Nat} (S : CallFix p m c cX6_pairOf 10 s args wsX6_pairOf RX6) (hK : KN D cI cN s) (hA : ∀ q : Nat, s.heap.size ≤ q → A q) {x1 : Int32} {x2 : Int32} {x3 : Int32} {x4 : Int32} {r0 : Int32} {g' : OS} (hret : ∀ (H : Heap) (locs : List Loc) (ls : Array Slot) (pc : Nat), decode cX6_pairOf pc = .ok (.ireturn, 1) → narrow .int (.int r0) = .int r0 → va_P D vwCl (mdW cI z g') H → va_D A (mdW cI z g') → va_S A s.heap H locs → W p l e (headSpec wsX6_pairOf rm_X6_pairOf).room s m args below meth c H locs 0 0 Q (F0 m pc ls [.int r0])) : ∀ (k : Nat) (x5 : Int32) (x6 : Int32) (x7 : Int32) (g : OS), fX6_pairOf_33 x1 x2 x3 x4 k x5 x6 x7 g = some (r0, g') → ∀ (H : Heap) (locs : List Loc) (ls : Array Slot), va_P D vwCl (mdW cI z g) H → va_D A (mdW cI z g) → va_S A s.heap H locs → lv_has ls 10 [(0, .ref (z 0)), (1, .int x1), (2, .int x2), (3, .int x3), (4, .int x4), (5, .int x5), (6, .int x6), (7, .int x7)] → W p l e (headSpec wsX6_pairOf rm_X6_pairOf).room s m args below meth c H locs 0 0 Q (F0 m 33 ls []) := by
  obtain ⟨hx, hb, hml, hown, hts⟩ := id S
  have inX6 := in_X6_pairOf_X6
  intro k
  induction k with
  | zero => intro x5 x6 x7 g hf; rw [fX6_pairOf_33_z] at hf; cases hf
  | succ k ih =>
    intro x5 x6 x7 g hf H locs ls hP hD hS hl
    rw [fX6_pairOf_33_s] at hf
    refine lv_iload hx hb dX6_pairOf_33 (lv_at hl 7 rfl) ?_
    refine lv_bipush (v := (64 : Int32)) hx hb dX6_pairOf_35 kc_bipush_64 ?_
    refine lv_icmp_ge (tgt := 137) hx hb dX6_pairOf_37 (by decide) (fun c3 => ?_) (fun c3 => ?_)
    · have hf := it_t hf c3
      refine lv_iload hx hb dX6_pairOf_137 (lv_at hl 5 rfl) ?_
      have e0 : x5 = r0 := congrArg (fun z => z.1) (Option.some.inj hf)
      have e1 : g = g' := congrArg (fun z => z.2) (Option.some.inj hf)
      subst e0
      subst e1
      exact hret H locs ls _ dX6_pairOf_139 rfl hP hD hS
    · have hf := it_f hf c3
      refine lv_iload_n hx hb dX6_pairOf_40 rfl (lv_at hl 2 rfl) ?_
      refine lv_iload hx hb dX6_pairOf_41 (lv_at hl 7 rfl) ?_
      refine lv_bipush (v := (8 : Int32)) hx hb dX6_pairOf_43 kc_bipush_8 ?_
      refine lv_idiv hx hb dX6_pairOf_45 (by decide) ?_
      refine cSi (As := [.int x2, .int (x7 / (8 : Int32))]) (rest := []) S (c_X6_has l D cI cN _ x2 (x7 / (8 : Int32)) (fX6_has x2 (x7 / (8 : Int32))) rfl) (va_cwS 2 hts gX6_pairOf_X6_has rfl rfl rfl (by decide +kernel) ⟨Nat.le_of_ble_eq_true rfl, Nat.le_of_ble_eq_true rfl⟩) hK hP hS hA [] rfl rfl hl.1 rfl (Nat.le_of_ble_eq_true rfl) dX6_pairOf_46 ⟨Nat.zero_le _, Nat.zero_le _⟩ (fun H locs hP hS => ?_)
      refine lv_if_eq (tgt := 131) hx hb dX6_pairOf_49 (by decide) (fun c4 => ?_) (fun c4 => ?_)
      · have hf := it_t hf c4
        refine lv_iinc (v := (x7 + (1 : Int32))) (lv' := [(7, .int (x7 + (1 : Int32))), (0, .ref (z 0)), (1, .int x1), (2, .int x2), (3, .int x3), (4, .int x4), (5, .int x5), (6, .int x6)]) hx hb dX6_pairOf_131 hl (k := 7) rfl rfl (by decide) rfl (fun ls hl => ?_)
        refine lv_goto (tgt := 33) hx hb dX6_pairOf_134 (by decide) ?_
        exact ih _ _ _ _ hf H locs ls hP hD hS (lv_sub hl [1, 2, 3, 4, 5, 6, 7, 0] rfl)
      · have hf := it_f hf c4
        refine lv_iload_n hx hb dX6_pairOf_52 rfl (lv_at hl 3 rfl) ?_
        refine lv_iload hx hb dX6_pairOf_53 (lv_at hl 7 rfl) ?_
        refine lv_bipush (v := (8 : Int32)) hx hb dX6_pairOf_55 kc_bipush_8 ?_
        refine lv_irem hx hb dX6_pairOf_57 (by decide) ?_
        refine cSi (As := [.int x3, .int (x7 - x7 / (8 : Int32) * (8 : Int32))]) (rest := []) S (c_X6_has l D cI cN _ x3 (x7 - x7 / (8 : Int32) * (8 : Int32)) (fX6_has x3 (x7 - x7 / (8 : Int32) * (8 : Int32))) rfl) (va_cwS 2 hts gX6_pairOf_X6_has rfl rfl rfl (by decide +kernel) ⟨Nat.le_of_ble_eq_true rfl, Nat.le_of_ble_eq_true rfl⟩) hK hP hS hA [] rfl rfl hl.1 rfl (Nat.le_of_ble_eq_true rfl) dX6_pairOf_58 ⟨Nat.zero_le _, Nat.zero_le _⟩ (fun H locs hP hS => ?_)
        refine lv_if_eq (tgt := 131) hx hb dX6_pairOf_61 (by decide) (fun c5 => ?_) (fun c5 => ?_)
        · have hf := it_t hf c5
          refine lv_iinc (v := (x7 + (1 : Int32))) (lv' := [(7, .int (x7 + (1 : Int32))), (0, .ref (z 0)), (1, .int x1), (2, .int x2), (3, .int x3), (4, .int x4), (5, .int x5), (6, .int x6)]) hx hb dX6_pairOf_131 hl (k := 7) rfl rfl (by decide) rfl (fun ls hl => ?_)
          refine lv_goto (tgt := 33) hx hb dX6_pairOf_134 (by decide) ?_
          exact ih _ _ _ _ hf H locs ls hP hD hS (lv_sub hl [1, 2, 3, 4, 5, 6, 7, 0] rfl)
        · have hf := it_f hf c5
          refine lv_aload_n hx hb dX6_pairOf_64 rfl (lv_at hl 0 rfl) ?_
          refine lv_iload_n hx hb dX6_pairOf_65 rfl (lv_at hl 1 rfl) ?_
          refine lv_iload hx hb dX6_pairOf_66 (lv_at hl 7 rfl) ?_
          refine lv_bipush (v := (8 : Int32)) hx hb dX6_pairOf_68 kc_bipush_8 ?_
          refine lv_idiv hx hb dX6_pairOf_70 (by decide) ?_
          refine lv_iload hx hb dX6_pairOf_71 (lv_at hl 7 rfl) ?_
          refine lv_bipush (v := (8 : Int32)) hx hb dX6_pairOf_73 kc_bipush_8 ?_
          refine lv_irem hx hb dX6_pairOf_75 (by decide) ?_
          refine lv_iload hx hb dX6_pairOf_76 (lv_at hl 4 rfl) ?_
          obtain ⟨v6, hv6, hf⟩ := it_b hf
          refine cBi (As := [.int x1, .int (x7 / (8 : Int32)), .int (x7 - x7 / (8 : Int32) * (8 : Int32)), .int x4]) (rest := []) (q0 := 0) (ci := 6) [(true, (mdW cI z g), (mdW cI z v6.2))] ⟨ad_mod, (fun h => Bool.noConfusion h), trivial⟩ S (c_X6_lays l D cI cN z _ g x1 (x7 / (8 : Int32)) (x7 - x7 / (8 : Int32) * (8 : Int32)) x4 v6.1 v6.2 hv6) (cwV 4 hts gX6_pairOf_X6_lays rfl rfl rfl (by decide +kernel) ⟨Nat.le_of_ble_eq_true rfl, Nat.le_of_ble_eq_true rfl⟩) hK hP hD hS hA rfl rfl rfl hl.1 rfl (Nat.le_of_ble_eq_true rfl) dX6_pairOf_78 ⟨Nat.zero_le _, Nat.zero_le _⟩ (fun H locs hP hD hS => ?_)
          refine lv_istore (lv' := [(8, .int v6.1), (0, .ref (z 0)), (1, .int x1), (2, .int x2), (3, .int x3), (4, .int x4), (5, .int x5), (6, .int x6), (7, .int x7)]) hx hb dX6_pairOf_81 hl (by decide) rfl (fun ls hl => ?_)
          refine lv_iload hx hb dX6_pairOf_83 (lv_at hl 6 rfl) ?_
          refine lv_iconst (v := (-1 : Int32)) hx hb dX6_pairOf_85 kc_iconst_m1 ?_
          obtain ⟨v9, hg, hf⟩ := it_j hf
          have hj : ∀ (H : Heap) (locs : List Loc) (ls : Array Slot), va_P D vwCl (mdW cI z v6.2) H → va_D A (mdW cI z v6.2) → va_S A s.heap H locs → lv_has ls 10 [(0, .ref (z 0)), (1, .int x1), (2, .int x2), (3, .int x3), (4, .int x4), (5, .int x5), (6, .int x6), (7, .int x7), (8, .int v6.1)] → W p l e (headSpec wsX6_pairOf rm_X6_pairOf).room s m args below meth c H locs 0 0 Q (F0 m 101 ls [.int v9]) := by
            intro H locs ls hP hD hS hl
            refine lv_istore (lv' := [(9, .int v9), (0, .ref (z 0)), (1, .int x1), (2, .int x2), (3, .int x3), (4, .int x4), (5, .int x5), (6, .int x6), (7, .int x7), (8, .int v6.1)]) hx hb dX6_pairOf_101 hl (by decide) rfl (fun ls hl => ?_)
            refine lv_iload hx hb dX6_pairOf_103 (lv_at hl 0 rfl) ?_
            obtain ⟨v11, hg, hf⟩ := it_j hf
            have hj : ∀ (H : Heap) (locs : List Loc) (ls : Array Slot), va_P D vwCl (mdW cI z v6.2) H → va_D A (mdW cI z v6.2) → va_S A s.heap H locs → lv_has ls 10 [(0, .ref (z 0)), (1, .int x1), (2, .int x2), (3, .int x3), (4, .int x4), (6, .int x6), (7, .int x7), (8, .int v6.1), (9, .int v9)] → W p l e (headSpec wsX6_pairOf rm_X6_pairOf).room s m args below meth c H locs 0 0 Q (F0 m 115 ls [.int v11]) := by
              intro H locs ls hP hD hS hl
              refine lv_istore (lv' := [(5, .int v11), (0, .ref (z 0)), (1, .int x1), (2, .int x2), (3, .int x3), (4, .int x4), (6, .int x6), (7, .int x7), (8, .int v6.1), (9, .int v9)]) hx hb dX6_pairOf_115 hl (by decide) rfl (fun ls hl => ?_)
              refine lv_iload hx hb dX6_pairOf_117 (lv_at hl 9 rfl) ?_
              refine lv_if_eq (tgt := 127) hx hb dX6_pairOf_119 (by decide) (fun c12 => ?_) (fun c12 => ?_)
              · have hf := it_t hf c12
                refine lv_iload hx hb dX6_pairOf_127 (lv_at hl 6 rfl) ?_
                refine lv_istore (lv' := [(6, .int x6), (5, .int v11), (0, .ref (z 0)), (1, .int x1), (2, .int x2), (3, .int x3), (4, .int x4), (7, .int x7), (8, .int v6.1), (9, .int v9)]) hx hb dX6_pairOf_129 hl (by decide) rfl (fun ls hl => ?_)
                refine lv_iinc (v := (x7 + (1 : Int32))) (lv' := [(7, .int (x7 + (1 : Int32))), (6, .int x6), (5, .int v11), (0, .ref (z 0)), (1, .int x1), (2, .int x2), (3, .int x3), (4, .int x4), (8, .int v6.1), (9, .int v9)]) hx hb dX6_pairOf_131 hl (k := 7) rfl rfl (by decide) rfl (fun ls hl => ?_)
                refine lv_goto (tgt := 33) hx hb dX6_pairOf_134 (by decide) ?_
                exact ih _ _ _ _ hf H locs ls hP hD hS (lv_sub hl [3, 4, 5, 6, 7, 2, 1, 0] rfl)
              · have hf := it_f hf c12
                refine lv_iload hx hb dX6_pairOf_122 (lv_at hl 8 rfl) ?_
                refine lv_goto (tgt := 129) hx hb dX6_pairOf_124 (by decide) ?_
                refine lv_istore (lv' := [(6, .int v6.1), (5, .int v11), (0, .ref (z 0)), (1, .int x1), (2, .int x2), (3, .int x3), (4, .int x4), (7, .int x7), (8, .int v6.1), (9, .int v9)]) hx hb dX6_pairOf_129 hl (by decide) rfl (fun ls hl => ?_)
                refine lv_iinc (v := (x7 + (1 : Int32))) (lv' := [(7, .int (x7 + (1 : Int32))), (6, .int v6.1), (5, .int v11), (0, .ref (z 0)), (1, .int x1), (2, .int x2), (3, .int x3), (4, .int x4), (8, .int v6.1), (9, .int v9)]) hx hb dX6_pairOf_131 hl (k := 7) rfl rfl (by decide) rfl (fun ls hl => ?_)
                refine lv_goto (tgt := 33) hx hb dX6_pairOf_134 (by decide) ?_
                exact ih _ _ _ _ hf H locs ls hP hD hS (lv_sub hl [3, 4, 5, 6, 7, 2, 1, 0] rfl)
            have hf := hg
            refine lv_if_eq (tgt := 113) hx hb dX6_pairOf_105 (by decide) (fun c10 => ?_) (fun c10 => ?_)
            · have hf := it_t hf c10
              refine lv_iload hx hb dX6_pairOf_113 (lv_at hl 6 rfl) ?_
              have e0 := hf
              subst e0
              exact hj H locs ls hP hD hS (lv_sub hl [1, 2, 3, 4, 5, 7, 8, 9, 0] rfl)
            · have hf := it_f hf c10
              refine lv_iload hx hb dX6_pairOf_108 (lv_at hl 8 rfl) ?_
              refine lv_goto (tgt := 115) hx hb dX6_pairOf_110 (by decide) ?_
              have e0 := hf
              subst e0
              exact hj H locs ls hP hD hS (lv_sub hl [1, 2, 3, 4, 5, 7, 8, 9, 0] rfl)
          have hf := hg
          refine lv_icmp_eq (tgt := 96) hx hb dX6_pairOf_86 (by decide) (fun c7 => ?_) (fun c7 => ?_)
          · have hf := it_t hf c7
            refine lv_iconst (v := (1 : Int32)) hx hb dX6_pairOf_96 kc_iconst_1 ?_
            refine lv_goto (tgt := 101) hx hb dX6_pairOf_97 (by decide) ?_
            have e0 := hf
            subst e0
            exact hj H locs ls hP hD hS (lv_sub hl [1, 2, 3, 4, 5, 6, 7, 8, 0] rfl)
          · have hf := it_f hf c7
            refine lv_iload hx hb dX6_pairOf_89 (lv_at hl 0 rfl) ?_
            refine lv_iload hx hb dX6_pairOf_91 (lv_at hl 7 rfl) ?_
            refine lv_icmp_ge (tgt := 100) hx hb dX6_pairOf_93 (by decide) (fun c8 => ?_) (fun c8 => ?_)
            · have hf := it_t hf c8
              refine lv_iconst (v := (0 : Int32)) hx hb dX6_pairOf_100 kc_iconst_0 ?_
              have e0 := hf
              subst e0
              exact hj H locs ls hP hD hS (lv_sub hl [1, 2, 3, 4, 5, 6, 7, 8, 0] rfl)
            · have hf := it_f hf c8
              refine lv_iconst (v := (1 : Int32)) hx hb dX6_pairOf_96 kc_iconst_1 ?_
              refine lv_goto (tgt := 101) hx hb dX6_pairOf_97 (by decide) ?_
              have e0 := hf
              subst e0
              exact hj H locs ls hP hD hS (lv_sub hl [1, 2, 3, 4, 5, 6, 7, 8, 0] rfl)
set_option maxRecDepth 100000 in
set_option maxHeartbeats 4000000 in
theorem w_X6_pairOf_0 {p : Program} {l : Launch} {e : Env} {s : State} {m : MethodId} {args : Array Value} {below : List Frame} {meth : Method} {c : Code} {Q : State → Prop} {D : va_G} {cI cN : ClassId} {A : Nat → Prop} {z : Nat → Nat} (S : CallFix p m c cX6_pairOf 10 s args wsX6_pairOf RX6) (hK : KN D cI cN s) (hA : ∀ q : Nat, s.heap.size ≤ q → A q) {g : OS} {x1 : Int32} {x2 : Int32} {x3 : Int32} {x4 : Int32} {r0 : Int32} {g' : OS} (hret : ∀ (H : Heap) (locs : List Loc) (ls : Array Slot) (pc : Nat), decode cX6_pairOf pc = .ok (.ireturn, 1) → narrow .int (.int r0) = .int r0 → va_P D vwCl (mdW cI z g') H → va_D A (mdW cI z g') → va_S A s.heap H locs → W p l e (headSpec wsX6_pairOf rm_X6_pairOf).room s m args below meth c H locs 0 0 Q (F0 m pc ls [.int r0])) (hf : fX6_pairOf g x1 x2 x3 x4 = some (r0, g')) (H : Heap) (locs : List Loc) (ls : Array Slot) (hP : va_P D vwCl (mdW cI z g) H) (hD : va_D A (mdW cI z g)) (hS : va_S A s.heap H locs) (hl : lv_has ls 10 [(0, .ref (z 0)), (1, .int x1), (2, .int x2), (3, .int x3), (4, .int x4)]) : W p l e (headSpec wsX6_pairOf rm_X6_pairOf).room s m args below meth c H locs 0 0 Q (F0 m 0 ls []) := by
  obtain ⟨hx, hb, hml, hown, hts⟩ := id S
  have inX6 := in_X6_pairOf_X6
  unfold fX6_pairOf at hf
  refine lv_aload_n hx hb dX6_pairOf_0 rfl (lv_at hl 0 rfl) ?_
  refine va_get (D := D) (ci := 6) (v := .ref (z 1)) (C := RX6) (T := TX6) (N := 12) hx hb hts inX6 hown hK.1 hP 0 rfl rfl 0 (by decide) (hts (.fieldLink RX6 7 "ClosExchangeModel" "s" "[I") (List.mem_of_getElem? (i := 1) rfl)) (fun _ h9 => h9) rfl dX6_pairOf_1 ?_
  refine lv_iload_n hx hb dX6_pairOf_4 rfl (lv_at hl 1 rfl) ?_
  refine lv_iconst (v := (4 : Int32)) hx hb dX6_pairOf_5 kc_iconst_4 ?_
  refine lv_iadd hx hb dX6_pairOf_6 ?_
  obtain ⟨c1, hf⟩ := it_g hf
  refine va_iald hx hb hK.1 hP 1 0 rfl rfl (inb_in c1) dX6_pairOf_7 ?_
  refine lv_if_ne (tgt := 24) hx hb dX6_pairOf_8 (by decide) (fun c2 => ?_) (fun c2 => ?_)
  · have hf := it_f hf c2
    refine lv_iconst (v := (-1 : Int32)) hx hb dX6_pairOf_24 kc_iconst_m1 ?_
    refine lv_istore (lv' := [(5, .int (-1 : Int32)), (0, .ref (z 0)), (1, .int x1), (2, .int x2), (3, .int x3), (4, .int x4)]) hx hb dX6_pairOf_25 hl (by decide) rfl (fun ls hl => ?_)
    refine lv_iconst (v := (0 : Int32)) hx hb dX6_pairOf_27 kc_iconst_0 ?_
    refine lv_istore (lv' := [(6, .int (0 : Int32)), (5, .int (-1 : Int32)), (0, .ref (z 0)), (1, .int x1), (2, .int x2), (3, .int x3), (4, .int x4)]) hx hb dX6_pairOf_28 hl (by decide) rfl (fun ls hl => ?_)
    refine lv_iconst (v := (0 : Int32)) hx hb dX6_pairOf_30 kc_iconst_0 ?_
    refine lv_istore (lv' := [(7, .int (0 : Int32)), (6, .int (0 : Int32)), (5, .int (-1 : Int32)), (0, .ref (z 0)), (1, .int x1), (2, .int x2), (3, .int x3), (4, .int x4)]) hx hb dX6_pairOf_31 hl (by decide) rfl (fun ls hl => ?_)
    exact w_X6_pairOf_33 S hK hA hret _ _ _ _ _ hf H locs ls hP hD hS (lv_sub hl [3, 4, 5, 6, 7, 2, 1, 0] rfl)
  · have hf := it_t hf c2
    refine lv_bipush (v := (8 : Int32)) hx hb dX6_pairOf_11 kc_bipush_8 ?_
    refine lv_iload_n hx hb dX6_pairOf_13 rfl (lv_at hl 2 rfl) ?_
    obtain ⟨v13, hv13, hf⟩ := it_b hf
    refine cSi (As := [.int x2]) (rest := [.int (8 : Int32)]) S (c_X6_lowest l D cI cN _ x2 v13 hv13) (va_cwS 1 hts gX6_pairOf_X6_lowest rfl rfl rfl (by decide +kernel) ⟨Nat.le_of_ble_eq_true rfl, Nat.le_of_ble_eq_true rfl⟩) hK hP hS hA [] rfl rfl hl.1 rfl (Nat.le_of_ble_eq_true rfl) dX6_pairOf_14 ⟨Nat.zero_le _, Nat.zero_le _⟩ (fun H locs hP hS => ?_)
    refine lv_imul hx hb dX6_pairOf_17 ?_
    refine lv_iload_n hx hb dX6_pairOf_18 rfl (lv_at hl 3 rfl) ?_
    obtain ⟨v14, hv14, hf⟩ := it_b hf
    refine cSi (As := [.int x3]) (rest := [.int ((8 : Int32) * v13)]) S (c_X6_lowest l D cI cN _ x3 v14 hv14) (va_cwS 1 hts gX6_pairOf_X6_lowest rfl rfl rfl (by decide +kernel) ⟨Nat.le_of_ble_eq_true rfl, Nat.le_of_ble_eq_true rfl⟩) hK hP hS hA [] rfl rfl hl.1 rfl (Nat.le_of_ble_eq_true rfl) dX6_pairOf_19 ⟨Nat.zero_le _, Nat.zero_le _⟩ (fun H locs hP hS => ?_)
    refine lv_iadd hx hb dX6_pairOf_22 ?_
    have e0 : (((8 : Int32) * v13) + v14) = r0 := congrArg (fun z => z.1) (Option.some.inj hf)
    have e1 : g = g' := congrArg (fun z => z.2) (Option.some.inj hf)
    subst e0
    subst e1
    exact hret H locs ls _ dX6_pairOf_23 rfl hP hD hS
set_option maxRecDepth 100000 in
theorem c_X6_pairOf (l : Launch) (D : va_G) (cI cN : ClassId) (z : Nat → Nat) (sz : Nat) (g : OS) (x1 : Int32) (x2 : Int32) (x3 : Int32) (x4 : Int32) (r0 : Int32) (g' : OS) (hf : fX6_pairOf g x1 x2 x3 x4 = some (r0, g')) : CtI l D cI cN yX6_pairOf wsX6_pairOf rm_X6_pairOf 0 0 [.ref (z 0), .int x1, .int x2, .int x3, .int x4] (mdW cI z g) sz r0 (mdW cI z g') := by
  refine mW (cc := cX6_pairOf) (maxL := 10) (ty := .int) (by decide) rfl rfl (Nat.le_of_ble_eq_true rfl) ?_
  intro p e s m args below meth c Q A S hK hP hD hS hA hret ls hl
  exact w_X6_pairOf_0 S hK hA hret hf _ _ _ hP hD hS (lv_sub (show lv_has ls 10 [(0, .ref (z 0)), (1, .int x1), (2, .int x2), (3, .int x3), (4, .int x4)] from hl) [0, 1, 2, 3, 4] rfl)
abbrev rm_X6_routes : Room := { frames := 4, cells := 0, slots := 0, locals := 103 }
theorem in_X6_routes_X6 : ∀ w ∈ u_ws RX6 TX6 12, w ∈ wsX6_routes := fun w h => List.mem_cons_of_mem _ (List.mem_append_right _ h)
set_option maxRecDepth 100000 in
set_option maxHeartbeats 4000000 in
theorem w_X6_routes_132 {p : Program} {l : Launch} {e : Env} {s : State} {m : MethodId} {args : Array Value} {below : List Frame} {meth : Method} {c : Code} {Q : State → Prop} {D : va_G} {cI cN : ClassId} {A : Nat → Prop} {z : Nat → Nat} (S : CallFix p m c cX6_routes 9 s args wsX6_routes RX6) (hK : KN D cI cN s) (hA : ∀ q : Nat, s.heap.size ≤ q → A q) {x1 : Int32} {x2 : Int32} {x6 : Int32} {x7 : Int32} {r0 : Int32} {g' : OS} (hret : ∀ (H : Heap) (locs : List Loc) (ls : Array Slot) (pc : Nat), decode cX6_routes pc = .ok (.ireturn, 1) → narrow .int (.int r0) = .int r0 → va_P D vwCl (mdW cI z g') H → va_D A (mdW cI z g') → va_S A s.heap H locs → W p l e (headSpec wsX6_routes rm_X6_routes).room s m args below meth c H locs 0 0 Q (F0 m pc ls [.int r0])) : ∀ (k : Nat) (x8 : Int32) (g : OS), fX6_routes_132 x1 x2 x6 x7 k x8 g = some (r0, g') → ∀ (H : Heap) (locs : List Loc) (ls : Array Slot), va_P D vwCl (mdW cI z g) H → va_D A (mdW cI z g) → va_S A s.heap H locs → lv_has ls 9 [(0, .ref (z 0)), (1, .int x1), (2, .int x2), (6, .int x6), (7, .int x7), (8, .int x8)] → W p l e (headSpec wsX6_routes rm_X6_routes).room s m args below meth c H locs 0 0 Q (F0 m 132 ls []) := by
  obtain ⟨hx, hb, hml, hown, hts⟩ := id S
  have inX6 := in_X6_routes_X6
  intro k
  induction k with
  | zero => intro x8 g hf; rw [fX6_routes_132_z] at hf; cases hf
  | succ k ih =>
    intro x8 g hf H locs ls hP hD hS hl
    rw [fX6_routes_132_s] at hf
    refine lv_iload hx hb dX6_routes_132 (lv_at hl 5 rfl) ?_
    refine lv_aload_n hx hb dX6_routes_134 rfl (lv_at hl 0 rfl) ?_
    refine va_get (D := D) (ci := 6) (v := .int (g.1 10)) (C := RX6) (T := TX6) (N := 12) hx hb hts inX6 hown hK.1 hP 0 rfl rfl 10 (by decide) (hts (.fieldLink RX6 68 "ClosExchangeModel" "chained" "I") (List.mem_of_getElem? (i := 2) rfl)) (fun _ h9 => h9) rfl dX6_routes_135 ?_
    refine lv_icmp_ge (tgt := 182) hx hb dX6_routes_138 (by decide) (fun c13 => ?_) (fun c13 => ?_)
    · have hf := it_t hf c13
      refine lv_aload_n hx hb dX6_routes_182 rfl (lv_at hl 0 rfl) ?_
      refine va_get (D := D) (ci := 6) (v := .ref (z 1)) (C := RX6) (T := TX6) (N := 12) hx hb hts inX6 hown hK.1 hP 0 rfl rfl 0 (by decide) (hts (.fieldLink RX6 7 "ClosExchangeModel" "s" "[I") (List.mem_of_getElem? (i := 1) rfl)) (fun _ h9 => h9) rfl dX6_routes_183 ?_
      refine lv_iload_n hx hb dX6_routes_186 rfl (lv_at hl 1 rfl) ?_
      refine lv_bipush (v := (8 : Int32)) hx hb dX6_routes_187 kc_bipush_8 ?_
      refine lv_iadd hx hb dX6_routes_189 ?_
      refine lv_dup2_11 hx hb dX6_routes_190 rfl rfl ?_
      obtain ⟨c14, hf⟩ := it_g hf
      refine va_iald hx hb hK.1 hP 1 0 rfl rfl (inb_in c14) dX6_routes_191 ?_
      refine lv_aload_n hx hb dX6_routes_192 rfl (lv_at hl 0 rfl) ?_
      refine va_get (D := D) (ci := 6) (v := .int (g.1 10)) (C := RX6) (T := TX6) (N := 12) hx hb hts inX6 hown hK.1 hP 0 rfl rfl 10 (by decide) (hts (.fieldLink RX6 68 "ClosExchangeModel" "chained" "I") (List.mem_of_getElem? (i := 2) rfl)) (fun _ h9 => h9) rfl dX6_routes_193 ?_
      refine lv_iadd hx hb dX6_routes_196 ?_
      obtain ⟨c15, hf⟩ := it_g hf
      obtain ⟨w16, hw16, hf⟩ := it_j hf
      refine giastw (wf := (mdW cI z (setR g 0 w16))) hw16 hx hb hK.1 hP hD hS 1 0 rfl rfl (inb_in c15) dX6_routes_197 rfl (fun H locs hP hD hS => ?_)
      refine lv_aload_n hx hb dX6_routes_198 rfl (lv_at hl 0 rfl) ?_
      refine lv_iload_n hx hb dX6_routes_199 rfl (lv_at hl 1 rfl) ?_
      refine lv_iload_n hx hb dX6_routes_200 rfl (lv_at hl 2 rfl) ?_
      refine lv_iconst (v := (2 : Int32)) hx hb dX6_routes_201 kc_iconst_2 ?_
      refine lv_iload hx hb dX6_routes_202 (lv_at hl 4 rfl) ?_
      obtain ⟨v17, hv17, hf⟩ := it_b hf
      refine cBv (As := [.int x1, .int x2, .int (2 : Int32), .int x7]) (rest := []) (q0 := 0) (ci := 6) [(true, (mdW cI z (setR g 0 w16)), (mdW cI z v17))] ⟨ad_mod, (fun h => Bool.noConfusion h), trivial⟩ S (c_X6_lay l D cI cN z _ (setR g 0 w16) x1 x2 (2 : Int32) x7 v17 hv17) (cwV 4 hts gX6_routes_X6_lay rfl rfl rfl (by decide +kernel) ⟨Nat.le_of_ble_eq_true rfl, Nat.le_of_ble_eq_true rfl⟩) hK hP hD hS hA rfl rfl rfl hl.1 rfl (Nat.le_of_ble_eq_true rfl) dX6_routes_204 ⟨Nat.zero_le _, Nat.zero_le _⟩ (fun H locs hP hD hS => ?_)
      refine lv_iload hx hb dX6_routes_207 (lv_at hl 4 rfl) ?_
      have e0 : x7 = r0 := congrArg (fun z => z.1) (Option.some.inj hf)
      have e1 : v17 = g' := congrArg (fun z => z.2) (Option.some.inj hf)
      subst e0
      subst e1
      exact hret H locs ls _ dX6_routes_209 rfl hP hD hS
    · have hf := it_f hf c13
      refine lv_aload_n hx hb dX6_routes_141 rfl (lv_at hl 0 rfl) ?_
      refine lv_iload_n hx hb dX6_routes_142 rfl (lv_at hl 1 rfl) ?_
      refine lv_aload_n hx hb dX6_routes_143 rfl (lv_at hl 0 rfl) ?_
      refine va_get (D := D) (ci := 6) (v := .ref (z 3)) (C := RX6) (T := TX6) (N := 12) hx hb hts inX6 hown hK.1 hP 0 rfl rfl 9 (by decide) (hts (.fieldLink RX6 16 "ClosExchangeModel" "chain" "[I") (List.mem_of_getElem? (i := 3) rfl)) (fun _ h9 => h9) rfl dX6_routes_144 ?_
      refine lv_iload hx hb dX6_routes_147 (lv_at hl 5 rfl) ?_
      obtain ⟨c18, hf⟩ := it_g hf
      refine va_iald hx hb hK.1 hP 3 0 rfl rfl (inb_in c18) dX6_routes_149 ?_
      refine lv_iconst (v := (2 : Int32)) hx hb dX6_routes_150 kc_iconst_2 ?_
      refine lv_iload hx hb dX6_routes_151 (lv_at hl 4 rfl) ?_
      refine lv_iload hx hb dX6_routes_153 (lv_at hl 3 rfl) ?_
      refine lv_bipush (v := (8 : Int32)) hx hb dX6_routes_155 kc_bipush_8 ?_
      refine lv_irem hx hb dX6_routes_157 (by decide) ?_
      refine lv_iadd hx hb dX6_routes_158 ?_
      refine lv_aload_n hx hb dX6_routes_159 rfl (lv_at hl 0 rfl) ?_
      refine lv_iload_n hx hb dX6_routes_160 rfl (lv_at hl 1 rfl) ?_
      refine lv_aload_n hx hb dX6_routes_161 rfl (lv_at hl 0 rfl) ?_
      refine va_get (D := D) (ci := 6) (v := .ref (z 3)) (C := RX6) (T := TX6) (N := 12) hx hb hts inX6 hown hK.1 hP 0 rfl rfl 9 (by decide) (hts (.fieldLink RX6 16 "ClosExchangeModel" "chain" "[I") (List.mem_of_getElem? (i := 3) rfl)) (fun _ h9 => h9) rfl dX6_routes_162 ?_
      refine lv_iload hx hb dX6_routes_165 (lv_at hl 5 rfl) ?_
      obtain ⟨c19, hf⟩ := it_g hf
      refine va_iald hx hb hK.1 hP 3 0 rfl rfl (inb_in c19) dX6_routes_167 ?_
      refine lv_iconst (v := (2 : Int32)) hx hb dX6_routes_168 kc_iconst_2 ?_
      obtain ⟨v20, hv20, hf⟩ := it_b hf
      refine cQi (As := [.int x1, .int ((g.2 2) x8.toNatClampNeg), .int (2 : Int32)]) (rest := [.int (x7 + (x6 - x6 / (8 : Int32) * (8 : Int32))), .int (2 : Int32), .int ((g.2 2) x8.toNatClampNeg), .int x1, .ref (z 0)]) (q0 := 0) (ci := 6) S (c_X6_of l D cI cN z _ g x1 ((g.2 2) x8.toNatClampNeg) (2 : Int32) v20 hv20) (cwV 3 hts gX6_routes_X6_of rfl rfl rfl (by decide +kernel) ⟨Nat.le_of_ble_eq_true rfl, Nat.le_of_ble_eq_true rfl⟩) hK hP hS hA hP rfl rfl rfl hl.1 rfl (Nat.le_of_ble_eq_true rfl) dX6_routes_169 ⟨Nat.zero_le _, Nat.zero_le _⟩ (fun H locs hP hS => ?_)
      refine lv_isub hx hb dX6_routes_172 ?_
      obtain ⟨v21, hv21, hf⟩ := it_b hf
      refine cBv (As := [.int x1, .int ((g.2 2) x8.toNatClampNeg), .int (2 : Int32), .int ((x7 + (x6 - x6 / (8 : Int32) * (8 : Int32))) - v20)]) (rest := []) (q0 := 0) (ci := 6) [(true, (mdW cI z g), (mdW cI z v21))] ⟨ad_mod, (fun h => Bool.noConfusion h), trivial⟩ S (c_X6_lay l D cI cN z _ g x1 ((g.2 2) x8.toNatClampNeg) (2 : Int32) ((x7 + (x6 - x6 / (8 : Int32) * (8 : Int32))) - v20) v21 hv21) (cwV 4 hts gX6_routes_X6_lay rfl rfl rfl (by decide +kernel) ⟨Nat.le_of_ble_eq_true rfl, Nat.le_of_ble_eq_true rfl⟩) hK hP hD hS hA rfl rfl rfl hl.1 rfl (Nat.le_of_ble_eq_true rfl) dX6_routes_173 ⟨Nat.zero_le _, Nat.zero_le _⟩ (fun H locs hP hD hS => ?_)
      refine lv_iinc (v := (x8 + (1 : Int32))) (lv' := [(8, .int (x8 + (1 : Int32))), (0, .ref (z 0)), (1, .int x1), (2, .int x2), (6, .int x6), (7, .int x7)]) hx hb dX6_routes_176 hl (k := 5) rfl rfl (by decide) rfl (fun ls hl => ?_)
      refine lv_goto (tgt := 132) hx hb dX6_routes_179 (by decide) ?_
      exact ih _ _ hf H locs ls hP hD hS (lv_sub hl [1, 2, 3, 4, 5, 0] rfl)
set_option maxRecDepth 100000 in
set_option maxHeartbeats 4000000 in
theorem w_X6_routes_0 {p : Program} {l : Launch} {e : Env} {s : State} {m : MethodId} {args : Array Value} {below : List Frame} {meth : Method} {c : Code} {Q : State → Prop} {D : va_G} {cI cN : ClassId} {A : Nat → Prop} {z : Nat → Nat} (S : CallFix p m c cX6_routes 9 s args wsX6_routes RX6) (hK : KN D cI cN s) (hA : ∀ q : Nat, s.heap.size ≤ q → A q) {g : OS} {x1 : Int32} {x2 : Int32} {r0 : Int32} {g' : OS} (hret : ∀ (H : Heap) (locs : List Loc) (ls : Array Slot) (pc : Nat), decode cX6_routes pc = .ok (.ireturn, 1) → narrow .int (.int r0) = .int r0 → va_P D vwCl (mdW cI z g') H → va_D A (mdW cI z g') → va_S A s.heap H locs → W p l e (headSpec wsX6_routes rm_X6_routes).room s m args below meth c H locs 0 0 Q (F0 m pc ls [.int r0])) (hf : fX6_routes g x1 x2 = some (r0, g')) (H : Heap) (locs : List Loc) (ls : Array Slot) (hP : va_P D vwCl (mdW cI z g) H) (hD : va_D A (mdW cI z g)) (hS : va_S A s.heap H locs) (hl : lv_has ls 9 [(0, .ref (z 0)), (1, .int x1), (2, .int x2)]) : W p l e (headSpec wsX6_routes rm_X6_routes).room s m args below meth c H locs 0 0 Q (F0 m 0 ls []) := by
  obtain ⟨hx, hb, hml, hown, hts⟩ := id S
  have inX6 := in_X6_routes_X6
  unfold fX6_routes at hf
  refine lv_aload_n hx hb dX6_routes_0 rfl (lv_at hl 0 rfl) ?_
  refine lv_iload_n hx hb dX6_routes_1 rfl (lv_at hl 1 rfl) ?_
  refine lv_iload_n hx hb dX6_routes_2 rfl (lv_at hl 2 rfl) ?_
  refine lv_iconst (v := (1 : Int32)) hx hb dX6_routes_3 kc_iconst_1 ?_
  obtain ⟨v1, hv1, hf⟩ := it_b hf
  refine cQi (As := [.int x1, .int x2, .int (1 : Int32)]) (rest := []) (q0 := 0) (ci := 6) S (c_X6_of l D cI cN z _ g x1 x2 (1 : Int32) v1 hv1) (cwV 3 hts gX6_routes_X6_of rfl rfl rfl (by decide +kernel) ⟨Nat.le_of_ble_eq_true rfl, Nat.le_of_ble_eq_true rfl⟩) hK hP hS hA hP rfl rfl rfl hl.1 rfl (Nat.le_of_ble_eq_true rfl) dX6_routes_4 ⟨Nat.zero_le _, Nat.zero_le _⟩ (fun H locs hP hS => ?_)
  refine lv_aload_n hx hb dX6_routes_7 rfl (lv_at hl 0 rfl) ?_
  refine va_get (D := D) (ci := 6) (v := .ref (z 1)) (C := RX6) (T := TX6) (N := 12) hx hb hts inX6 hown hK.1 hP 0 rfl rfl 0 (by decide) (hts (.fieldLink RX6 7 "ClosExchangeModel" "s" "[I") (List.mem_of_getElem? (i := 1) rfl)) (fun _ h9 => h9) rfl dX6_routes_8 ?_
  refine lv_iload_n hx hb dX6_routes_11 rfl (lv_at hl 1 rfl) ?_
  refine lv_iconst (v := (1 : Int32)) hx hb dX6_routes_12 kc_iconst_1 ?_
  refine lv_iadd hx hb dX6_routes_13 ?_
  obtain ⟨c2, hf⟩ := it_g hf
  refine va_iald hx hb hK.1 hP 1 0 rfl rfl (inb_in c2) dX6_routes_14 ?_
  obtain ⟨c3, hf⟩ := it_g hf
  refine lv_idiv hx hb dX6_routes_15 c3 ?_
  refine lv_istore_n (lv' := [(3, .int (v1 / ((g.2 0) (x1 + (1 : Int32)).toNatClampNeg))), (0, .ref (z 0)), (1, .int x1), (2, .int x2)]) hx hb dX6_routes_16 rfl hl (by decide) rfl (fun ls hl => ?_)
  refine lv_aload_n hx hb dX6_routes_17 rfl (lv_at hl 1 rfl) ?_
  refine lv_iload_n hx hb dX6_routes_18 rfl (lv_at hl 2 rfl) ?_
  refine lv_iload_n hx hb dX6_routes_19 rfl (lv_at hl 3 rfl) ?_
  refine lv_aload_n hx hb dX6_routes_20 rfl (lv_at hl 1 rfl) ?_
  refine va_get (D := D) (ci := 6) (v := .ref (z 1)) (C := RX6) (T := TX6) (N := 12) hx hb hts inX6 hown hK.1 hP 0 rfl rfl 0 (by decide) (hts (.fieldLink RX6 7 "ClosExchangeModel" "s" "[I") (List.mem_of_getElem? (i := 1) rfl)) (fun _ h9 => h9) rfl dX6_routes_21 ?_
  refine lv_iload_n hx hb dX6_routes_24 rfl (lv_at hl 2 rfl) ?_
  refine lv_iconst (v := (1 : Int32)) hx hb dX6_routes_25 kc_iconst_1 ?_
  refine lv_iadd hx hb dX6_routes_26 ?_
  obtain ⟨c4, hf⟩ := it_g hf
  refine va_iald hx hb hK.1 hP 1 0 rfl rfl (inb_in c4) dX6_routes_27 ?_
  obtain ⟨c5, hf⟩ := it_g hf
  refine lv_idiv hx hb dX6_routes_28 c5 ?_
  obtain ⟨v6, hv6, hf⟩ := it_b hf
  refine cQi (As := [.int x1, .int (x2 / ((g.2 0) (x1 + (1 : Int32)).toNatClampNeg))]) (rest := []) (q0 := 0) (ci := 6) S (c_X6_freeAhead l D cI cN z _ g x1 (x2 / ((g.2 0) (x1 + (1 : Int32)).toNatClampNeg)) v6 hv6) (cwV 2 hts gX6_routes_X6_freeAhead rfl rfl rfl (by decide +kernel) ⟨Nat.le_of_ble_eq_true rfl, Nat.le_of_ble_eq_true rfl⟩) hK hP hS hA hP rfl rfl rfl hl.1 rfl (Nat.le_of_ble_eq_true rfl) dX6_routes_29 ⟨Nat.zero_le _, Nat.zero_le _⟩ (fun H locs hP hS => ?_)
  refine lv_istore (lv' := [(4, .int v6), (3, .int (v1 / ((g.2 0) (x1 + (1 : Int32)).toNatClampNeg))), (0, .ref (z 0)), (1, .int x1), (2, .int x2)]) hx hb dX6_routes_32 hl (by decide) rfl (fun ls hl => ?_)
  refine lv_aload_n hx hb dX6_routes_34 rfl (lv_at hl 2 rfl) ?_
  refine lv_iload_n hx hb dX6_routes_35 rfl (lv_at hl 3 rfl) ?_
  refine lv_iload_n hx hb dX6_routes_36 rfl (lv_at hl 1 rfl) ?_
  obtain ⟨v7, hv7, hf⟩ := it_b hf
  refine cQi (As := [.int x1, .int (v1 / ((g.2 0) (x1 + (1 : Int32)).toNatClampNeg))]) (rest := []) (q0 := 0) (ci := 6) S (c_X6_freeBehind l D cI cN z _ g x1 (v1 / ((g.2 0) (x1 + (1 : Int32)).toNatClampNeg)) v7 hv7) (cwV 2 hts gX6_routes_X6_freeBehind rfl rfl rfl (by decide +kernel) ⟨Nat.le_of_ble_eq_true rfl, Nat.le_of_ble_eq_true rfl⟩) hK hP hS hA hP rfl rfl rfl hl.1 rfl (Nat.le_of_ble_eq_true rfl) dX6_routes_37 ⟨Nat.zero_le _, Nat.zero_le _⟩ (fun H locs hP hS => ?_)
  refine lv_istore (lv' := [(5, .int v7), (4, .int v6), (3, .int (v1 / ((g.2 0) (x1 + (1 : Int32)).toNatClampNeg))), (0, .ref (z 0)), (1, .int x1), (2, .int x2)]) hx hb dX6_routes_40 hl (by decide) rfl (fun ls hl => ?_)
  refine lv_aload_n hx hb dX6_routes_42 rfl (lv_at hl 3 rfl) ?_
  refine lv_iconst (v := (0 : Int32)) hx hb dX6_routes_43 kc_iconst_0 ?_
  refine gput (D := D) (ci := 6) (v := .int (0 : Int32)) (ty := .int) (C := RX6) (T := TX6) (N := 12) (wf := (mdW cI z (setF g 10 (0 : Int32)))) hx hb hts inX6 tyX6 tyX6_ok nmX6 hown hK.1 hP hD hS 0 rfl rfl 10 (by decide) (hts (.fieldLink RX6 68 "ClosExchangeModel" "chained" "I") (List.mem_of_getElem? (i := 2) rfl)) (fun _ h9 => h9) rfl (by decide +kernel) rfl rfl (Nat.le_of_ble_eq_true rfl) dX6_routes_44 rfl (fun H locs hP hD hS => ?_)
  refine lv_iload hx hb dX6_routes_47 (lv_at hl 1 rfl) ?_
  refine lv_if_eq (tgt := 57) hx hb dX6_routes_49 (by decide) (fun c8 => ?_) (fun c8 => ?_)
  · have hf := it_t hf c8
    refine lv_bipush (v := (-4 : Int32)) hx hb dX6_routes_57 kc_bipush_m4 ?_
    have e0 : (-4 : Int32) = r0 := congrArg (fun z => z.1) (Option.some.inj hf)
    have e1 : (setF g 10 (0 : Int32)) = g' := congrArg (fun z => z.2) (Option.some.inj hf)
    subst e0
    subst e1
    exact hret H locs ls _ dX6_routes_59 rfl hP hD hS
  · have hf := it_f hf c8
    refine lv_iload hx hb dX6_routes_52 (lv_at hl 0 rfl) ?_
    refine lv_if_ne (tgt := 60) hx hb dX6_routes_54 (by decide) (fun c9 => ?_) (fun c9 => ?_)
    · have hf := it_f hf c9
      refine lv_iload hx hb dX6_routes_60 (lv_at hl 1 rfl) ?_
      refine lv_iload hx hb dX6_routes_62 (lv_at hl 0 rfl) ?_
      refine lv_iand hx hb dX6_routes_64 ?_
      refine lv_if_eq (tgt := 93) hx hb dX6_routes_65 (by decide) (fun c10 => ?_) (fun c10 => ?_)
      · have hf := it_t hf c10
        refine lv_aload_n hx hb dX6_routes_93 rfl (lv_at hl 3 rfl) ?_
        refine lv_iload_n hx hb dX6_routes_94 rfl (lv_at hl 4 rfl) ?_
        refine lv_iload hx hb dX6_routes_95 (lv_at hl 1 rfl) ?_
        refine lv_iload hx hb dX6_routes_97 (lv_at hl 0 rfl) ?_
        refine lv_iload_n hx hb dX6_routes_99 rfl (lv_at hl 2 rfl) ?_
        obtain ⟨v11, hv11, hf⟩ := it_b hf
        refine cBi (As := [.int x1, .int v6, .int v7, .int (v1 / ((g.2 0) (x1 + (1 : Int32)).toNatClampNeg))]) (rest := []) (q0 := 0) (ci := 6) [(true, (mdW cI z (setF g 10 (0 : Int32))), (mdW cI z v11.2))] ⟨ad_mod, (fun h => Bool.noConfusion h), trivial⟩ S (c_X6_pairOf l D cI cN z _ (setF g 10 (0 : Int32)) x1 v6 v7 (v1 / ((g.2 0) (x1 + (1 : Int32)).toNatClampNeg)) v11.1 v11.2 hv11) (cwV 4 hts gX6_routes_X6_pairOf rfl rfl rfl (by decide +kernel) ⟨Nat.le_of_ble_eq_true rfl, Nat.le_of_ble_eq_true rfl⟩) hK hP hD hS hA rfl rfl rfl hl.1 rfl (Nat.le_of_ble_eq_true rfl) dX6_routes_100 ⟨Nat.zero_le _, Nat.zero_le _⟩ (fun H locs hP hD hS => ?_)
        refine lv_istore (lv' := [(6, .int v11.1), (5, .int v7), (4, .int v6), (3, .int (v1 / ((g.2 0) (x1 + (1 : Int32)).toNatClampNeg))), (0, .ref (z 0)), (1, .int x1), (2, .int x2)]) hx hb dX6_routes_103 hl (by decide) rfl (fun ls hl => ?_)
        refine lv_iload hx hb dX6_routes_105 (lv_at hl 0 rfl) ?_
        refine lv_bipush (v := (8 : Int32)) hx hb dX6_routes_107 kc_bipush_8 ?_
        refine lv_idiv hx hb dX6_routes_109 (by decide) ?_
        refine lv_istore (lv' := [(7, .int (v11.1 / (8 : Int32))), (6, .int v11.1), (5, .int v7), (4, .int v6), (3, .int (v1 / ((g.2 0) (x1 + (1 : Int32)).toNatClampNeg))), (0, .ref (z 0)), (1, .int x1), (2, .int x2)]) hx hb dX6_routes_110 hl (by decide) rfl (fun ls hl => ?_)
        refine lv_aload_n hx hb dX6_routes_112 rfl (lv_at hl 5 rfl) ?_
        refine lv_aload_n hx hb dX6_routes_113 rfl (lv_at hl 5 rfl) ?_
        refine lv_iload_n hx hb dX6_routes_114 rfl (lv_at hl 6 rfl) ?_
        refine lv_iload hx hb dX6_routes_115 (lv_at hl 0 rfl) ?_
        refine lv_iload hx hb dX6_routes_117 (lv_at hl 1 rfl) ?_
        refine lv_bipush (v := (8 : Int32)) hx hb dX6_routes_119 kc_bipush_8 ?_
        refine lv_irem hx hb dX6_routes_121 (by decide) ?_
        refine lv_iload_n hx hb dX6_routes_122 rfl (lv_at hl 4 rfl) ?_
        obtain ⟨v12, hv12, hf⟩ := it_b hf
        refine cBi (As := [.int x1, .int (v11.1 / (8 : Int32)), .int (v11.1 - v11.1 / (8 : Int32) * (8 : Int32)), .int (v1 / ((g.2 0) (x1 + (1 : Int32)).toNatClampNeg))]) (rest := [.ref (z 0)]) (q0 := 0) (ci := 6) [(true, (mdW cI z v11.2), (mdW cI z v12.2))] ⟨ad_mod, (fun h => Bool.noConfusion h), trivial⟩ S (c_X6_lays l D cI cN z _ v11.2 x1 (v11.1 / (8 : Int32)) (v11.1 - v11.1 / (8 : Int32) * (8 : Int32)) (v1 / ((g.2 0) (x1 + (1 : Int32)).toNatClampNeg)) v12.1 v12.2 hv12) (cwV 4 hts gX6_routes_X6_lays rfl rfl rfl (by decide +kernel) ⟨Nat.le_of_ble_eq_true rfl, Nat.le_of_ble_eq_true rfl⟩) hK hP hD hS hA rfl rfl rfl hl.1 rfl (Nat.le_of_ble_eq_true rfl) dX6_routes_123 ⟨Nat.zero_le _, Nat.zero_le _⟩ (fun H locs hP hD hS => ?_)
        refine gput (D := D) (ci := 6) (v := .int v12.1) (ty := .int) (C := RX6) (T := TX6) (N := 12) (wf := (mdW cI z (setF v12.2 10 v12.1))) hx hb hts inX6 tyX6 tyX6_ok nmX6 hown hK.1 hP hD hS 0 rfl rfl 10 (by decide) (hts (.fieldLink RX6 68 "ClosExchangeModel" "chained" "I") (List.mem_of_getElem? (i := 2) rfl)) (fun _ h9 => h9) rfl (by decide +kernel) rfl rfl (Nat.le_of_ble_eq_true rfl) dX6_routes_126 rfl (fun H locs hP hD hS => ?_)
        refine lv_iconst (v := (0 : Int32)) hx hb dX6_routes_129 kc_iconst_0 ?_
        refine lv_istore (lv' := [(8, .int (0 : Int32)), (7, .int (v11.1 / (8 : Int32))), (6, .int v11.1), (5, .int v7), (4, .int v6), (3, .int (v1 / ((g.2 0) (x1 + (1 : Int32)).toNatClampNeg))), (0, .ref (z 0)), (1, .int x1), (2, .int x2)]) hx hb dX6_routes_130 hl (by decide) rfl (fun ls hl => ?_)
        exact w_X6_routes_132 S hK hA hret _ _ _ hf H locs ls hP hD hS (lv_sub hl [6, 7, 8, 2, 1, 0] rfl)
      · have hf := it_f hf c10
        refine lv_aload_n hx hb dX6_routes_68 rfl (lv_at hl 3 rfl) ?_
        refine lv_iload_n hx hb dX6_routes_69 rfl (lv_at hl 4 rfl) ?_
        refine lv_iload_n hx hb dX6_routes_70 rfl (lv_at hl 5 rfl) ?_
        refine lv_iconst (v := (2 : Int32)) hx hb dX6_routes_71 kc_iconst_2 ?_
        refine lv_aload_n hx hb dX6_routes_72 rfl (lv_at hl 3 rfl) ?_
        refine lv_iload_n hx hb dX6_routes_73 rfl (lv_at hl 4 rfl) ?_
        refine lv_iload hx hb dX6_routes_74 (lv_at hl 1 rfl) ?_
        refine lv_iload hx hb dX6_routes_76 (lv_at hl 0 rfl) ?_
        refine lv_iand hx hb dX6_routes_78 ?_
        obtain ⟨v22, hv22, hf⟩ := it_b hf
        refine cQi (As := [.int x1, .int (v6 &&& v7)]) (rest := [.int (2 : Int32), .int x2, .int x1, .ref (z 0)]) (q0 := 0) (ci := 6) S (c_X6_chosen l D cI cN z _ (setF g 10 (0 : Int32)) x1 (v6 &&& v7) v22 hv22) (cwV 2 hts gX6_routes_X6_chosen rfl rfl rfl (by decide +kernel) ⟨Nat.le_of_ble_eq_true rfl, Nat.le_of_ble_eq_true rfl⟩) hK hP hS hA hP rfl rfl rfl hl.1 rfl (Nat.le_of_ble_eq_true rfl) dX6_routes_79 ⟨Nat.zero_le _, Nat.zero_le _⟩ (fun H locs hP hS => ?_)
        obtain ⟨v23, hv23, hf⟩ := it_b hf
        refine cBv (As := [.int x1, .int x2, .int (2 : Int32), .int v22]) (rest := []) (q0 := 0) (ci := 6) [(true, (mdW cI z (setF g 10 (0 : Int32))), (mdW cI z v23))] ⟨ad_mod, (fun h => Bool.noConfusion h), trivial⟩ S (c_X6_lay l D cI cN z _ (setF g 10 (0 : Int32)) x1 x2 (2 : Int32) v22 v23 hv23) (cwV 4 hts gX6_routes_X6_lay rfl rfl rfl (by decide +kernel) ⟨Nat.le_of_ble_eq_true rfl, Nat.le_of_ble_eq_true rfl⟩) hK hP hD hS hA rfl rfl rfl hl.1 rfl (Nat.le_of_ble_eq_true rfl) dX6_routes_82 ⟨Nat.zero_le _, Nat.zero_le _⟩ (fun H locs hP hD hS => ?_)
        refine lv_aload_n hx hb dX6_routes_85 rfl (lv_at hl 3 rfl) ?_
        refine lv_iload_n hx hb dX6_routes_86 rfl (lv_at hl 4 rfl) ?_
        refine lv_iload_n hx hb dX6_routes_87 rfl (lv_at hl 5 rfl) ?_
        refine lv_iconst (v := (2 : Int32)) hx hb dX6_routes_88 kc_iconst_2 ?_
        obtain ⟨v24, hv24, hf⟩ := it_b hf
        refine cQi (As := [.int x1, .int x2, .int (2 : Int32)]) (rest := []) (q0 := 0) (ci := 6) S (c_X6_of l D cI cN z _ v23 x1 x2 (2 : Int32) v24 hv24) (cwV 3 hts gX6_routes_X6_of rfl rfl rfl (by decide +kernel) ⟨Nat.le_of_ble_eq_true rfl, Nat.le_of_ble_eq_true rfl⟩) hK hP hS hA hP rfl rfl rfl hl.1 rfl (Nat.le_of_ble_eq_true rfl) dX6_routes_89 ⟨Nat.zero_le _, Nat.zero_le _⟩ (fun H locs hP hS => ?_)
        have e0 : v24 = r0 := congrArg (fun z => z.1) (Option.some.inj hf)
        have e1 : v23 = g' := congrArg (fun z => z.2) (Option.some.inj hf)
        subst e0
        subst e1
        exact hret H locs ls _ dX6_routes_92 rfl hP hD hS
    · have hf := it_t hf c9
      refine lv_bipush (v := (-4 : Int32)) hx hb dX6_routes_57 kc_bipush_m4 ?_
      have e0 : (-4 : Int32) = r0 := congrArg (fun z => z.1) (Option.some.inj hf)
      have e1 : (setF g 10 (0 : Int32)) = g' := congrArg (fun z => z.2) (Option.some.inj hf)
      subst e0
      subst e1
      exact hret H locs ls _ dX6_routes_59 rfl hP hD hS
set_option maxRecDepth 100000 in
theorem c_X6_routes (l : Launch) (D : va_G) (cI cN : ClassId) (z : Nat → Nat) (sz : Nat) (g : OS) (x1 : Int32) (x2 : Int32) (r0 : Int32) (g' : OS) (hf : fX6_routes g x1 x2 = some (r0, g')) : CtI l D cI cN yX6_routes wsX6_routes rm_X6_routes 0 0 [.ref (z 0), .int x1, .int x2] (mdW cI z g) sz r0 (mdW cI z g') := by
  refine mW (cc := cX6_routes) (maxL := 9) (ty := .int) (by decide) rfl rfl (Nat.le_of_ble_eq_true rfl) ?_
  intro p e s m args below meth c Q A S hK hP hD hS hA hret ls hl
  exact w_X6_routes_0 S hK hA hret hf _ _ _ hP hD hS (lv_sub (show lv_has ls 9 [(0, .ref (z 0)), (1, .int x1), (2, .int x2)] from hl) [0, 1, 2] rfl)
abbrev rm_X6_nextOff : Room := { frames := 1, cells := 0, slots := 0, locals := 23 }
set_option maxRecDepth 100000 in
set_option maxHeartbeats 4000000 in
theorem w_X6_nextOff_4 {p : Program} {l : Launch} {e : Env} {s : State} {m : MethodId} {args : Array Value} {below : List Frame} {meth : Method} {c : Code} {Q : State → Prop} {D : va_G} {cI cN : ClassId} {z : Nat → Nat} (S : CallFix p m c cX6_nextOff 5 s args wsX6_nextOff RX6) (hK : KN D cI cN s) {g : OS} {x1 : Int32} {r0 : Int32} (hret : ∀ (H : Heap) (locs : List Loc) (ls : Array Slot) (pc : Nat), decode cX6_nextOff pc = .ok (.ireturn, 1) → narrow .int (.int r0) = .int r0 → va_S (nwA s.heap.size) s.heap H locs → W p l e (headSpec wsX6_nextOff rm_X6_nextOff).room s m args below meth c H locs 0 0 Q (F0 m pc ls [.int r0])) : ∀ (k : Nat) (x2 : Int32) (x3 : Int32), fX6_nextOff_4 g x1 k x2 x3 = some r0 → ∀ (H : Heap) (locs : List Loc) (ls : Array Slot), va_P D vwCl (mdW cI z g) H → va_S (nwA s.heap.size) s.heap H locs → lv_has ls 5 [(0, .ref (z 0)), (1, .int x1), (2, .int x2), (3, .int x3)] → W p l e (headSpec wsX6_nextOff rm_X6_nextOff).room s m args below meth c H locs 0 0 Q (F0 m 4 ls []) := by
  obtain ⟨hx, hb, hml, hown, hts⟩ := id S
  have hA : ∀ q : Nat, s.heap.size ≤ q → nwA s.heap.size q := fun _ h => h
  intro k
  induction k with
  | zero => intro x2 x3 hf; rw [fX6_nextOff_4_z] at hf; cases hf
  | succ k ih =>
    intro x2 x3 hf H locs ls hP hS hl
    rw [fX6_nextOff_4_s] at hf
    refine lv_iload_n hx hb dX6_nextOff_4 rfl (lv_at hl 3 rfl) ?_
    refine lv_aload_n hx hb dX6_nextOff_5 rfl (lv_at hl 0 rfl) ?_
    refine lv_iload_n hx hb dX6_nextOff_6 rfl (lv_at hl 1 rfl) ?_
    obtain ⟨v1, hv1, hf⟩ := it_b hf
    refine cQi (As := [.int x1]) (rest := [.int x3]) (q0 := 0) (ci := 6) S (c_X6_lines l D cI cN z _ g x1 v1 hv1) (cwV 1 hts gX6_nextOff_X6_lines rfl rfl rfl (by decide +kernel) ⟨Nat.le_of_ble_eq_true rfl, Nat.le_of_ble_eq_true rfl⟩) hK hP hS hA hP rfl rfl rfl hl.1 rfl (Nat.le_of_ble_eq_true rfl) dX6_nextOff_7 ⟨Nat.zero_le _, Nat.zero_le _⟩ (fun H locs hP hS => ?_)
    refine lv_icmp_ge (tgt := 81) hx hb dX6_nextOff_10 (by decide) (fun c2 => ?_) (fun c2 => ?_)
    · have hf := it_t hf c2
      refine lv_iload_n hx hb dX6_nextOff_81 rfl (lv_at hl 2 rfl) ?_
      have e0 : x2 = r0 := (Option.some.inj hf)
      subst e0
      exact hret H locs ls _ dX6_nextOff_82 rfl hS
    · have hf := it_f hf c2
      refine lv_aload_n hx hb dX6_nextOff_13 rfl (lv_at hl 0 rfl) ?_
      refine lv_iload_n hx hb dX6_nextOff_14 rfl (lv_at hl 1 rfl) ?_
      refine lv_iload_n hx hb dX6_nextOff_15 rfl (lv_at hl 3 rfl) ?_
      refine lv_iconst (v := (0 : Int32)) hx hb dX6_nextOff_16 kc_iconst_0 ?_
      obtain ⟨v3, hv3, hf⟩ := it_b hf
      refine cQi (As := [.int x1, .int x3, .int (0 : Int32)]) (rest := []) (q0 := 0) (ci := 6) S (c_X6_of l D cI cN z _ g x1 x3 (0 : Int32) v3 hv3) (cwV 3 hts gX6_nextOff_X6_of rfl rfl rfl (by decide +kernel) ⟨Nat.le_of_ble_eq_true rfl, Nat.le_of_ble_eq_true rfl⟩) hK hP hS hA hP rfl rfl rfl hl.1 rfl (Nat.le_of_ble_eq_true rfl) dX6_nextOff_17 ⟨Nat.zero_le _, Nat.zero_le _⟩ (fun H locs hP hS => ?_)
      refine lv_iconst (v := (-1 : Int32)) hx hb dX6_nextOff_20 kc_iconst_m1 ?_
      obtain ⟨v7, hg, hf⟩ := it_b hf
      have hj : ∀ (H : Heap) (locs : List Loc) (ls : Array Slot), va_P D vwCl (mdW cI z g) H → va_S (nwA s.heap.size) s.heap H locs → lv_has ls 5 [(0, .ref (z 0)), (1, .int x1), (2, .int x2), (3, .int x3)] → W p l e (headSpec wsX6_nextOff rm_X6_nextOff).room s m args below meth c H locs 0 0 Q (F0 m 40 ls [.int v7]) := by
        intro H locs ls hP hS hl
        refine lv_istore (lv' := [(4, .int v7), (0, .ref (z 0)), (1, .int x1), (2, .int x2), (3, .int x3)]) hx hb dX6_nextOff_40 hl (by decide) rfl (fun ls hl => ?_)
        refine lv_iload hx hb dX6_nextOff_42 (lv_at hl 0 rfl) ?_
        refine lv_if_eq (tgt := 73) hx hb dX6_nextOff_44 (by decide) (fun c8 => ?_) (fun c8 => ?_)
        · have hf := it_t hf c8
          refine lv_iload_n hx hb dX6_nextOff_73 rfl (lv_at hl 3 rfl) ?_
          refine lv_istore_n (lv' := [(2, .int x2), (4, .int v7), (0, .ref (z 0)), (1, .int x1), (3, .int x3)]) hx hb dX6_nextOff_74 rfl hl (by decide) rfl (fun ls hl => ?_)
          refine lv_iinc (v := (x3 + (1 : Int32))) (lv' := [(3, .int (x3 + (1 : Int32))), (2, .int x2), (4, .int v7), (0, .ref (z 0)), (1, .int x1)]) hx hb dX6_nextOff_75 hl (k := 4) rfl rfl (by decide) rfl (fun ls hl => ?_)
          refine lv_goto (tgt := 4) hx hb dX6_nextOff_78 (by decide) ?_
          exact ih _ _ hf H locs ls hP hS (lv_sub hl [3, 4, 1, 0] rfl)
        · have hf := it_f hf c8
          refine lv_iload_n hx hb dX6_nextOff_47 rfl (lv_at hl 3 rfl) ?_
          refine lv_iconst (v := (-1 : Int32)) hx hb dX6_nextOff_48 kc_iconst_m1 ?_
          refine lv_icmp_eq (tgt := 69) hx hb dX6_nextOff_49 (by decide) (fun c9 => ?_) (fun c9 => ?_)
          · have hf := it_t hf c9
            refine lv_iload_n hx hb dX6_nextOff_69 rfl (lv_at hl 4 rfl) ?_
            refine lv_goto (tgt := 74) hx hb dX6_nextOff_70 (by decide) ?_
            refine lv_istore_n (lv' := [(2, .int x3), (4, .int v7), (0, .ref (z 0)), (1, .int x1), (3, .int x3)]) hx hb dX6_nextOff_74 rfl hl (by decide) rfl (fun ls hl => ?_)
            refine lv_iinc (v := (x3 + (1 : Int32))) (lv' := [(3, .int (x3 + (1 : Int32))), (2, .int x3), (4, .int v7), (0, .ref (z 0)), (1, .int x1)]) hx hb dX6_nextOff_75 hl (k := 4) rfl rfl (by decide) rfl (fun ls hl => ?_)
            refine lv_goto (tgt := 4) hx hb dX6_nextOff_78 (by decide) ?_
            exact ih _ _ hf H locs ls hP hS (lv_sub hl [3, 4, 1, 0] rfl)
          · have hf := it_f hf c9
            refine lv_aload_n hx hb dX6_nextOff_52 rfl (lv_at hl 1 rfl) ?_
            refine lv_iload_n hx hb dX6_nextOff_53 rfl (lv_at hl 2 rfl) ?_
            refine lv_iload_n hx hb dX6_nextOff_54 rfl (lv_at hl 4 rfl) ?_
            refine lv_iconst (v := (0 : Int32)) hx hb dX6_nextOff_55 kc_iconst_0 ?_
            obtain ⟨v10, hv10, hf⟩ := it_b hf
            refine cQi (As := [.int x1, .int x3, .int (0 : Int32)]) (rest := []) (q0 := 0) (ci := 6) S (c_X6_of l D cI cN z _ g x1 x3 (0 : Int32) v10 hv10) (cwV 3 hts gX6_nextOff_X6_of rfl rfl rfl (by decide +kernel) ⟨Nat.le_of_ble_eq_true rfl, Nat.le_of_ble_eq_true rfl⟩) hK hP hS hA hP rfl rfl rfl hl.1 rfl (Nat.le_of_ble_eq_true rfl) dX6_nextOff_56 ⟨Nat.zero_le _, Nat.zero_le _⟩ (fun H locs hP hS => ?_)
            refine lv_aload_n hx hb dX6_nextOff_59 rfl (lv_at hl 1 rfl) ?_
            refine lv_iload_n hx hb dX6_nextOff_60 rfl (lv_at hl 2 rfl) ?_
            refine lv_iload_n hx hb dX6_nextOff_61 rfl (lv_at hl 3 rfl) ?_
            refine lv_iconst (v := (0 : Int32)) hx hb dX6_nextOff_62 kc_iconst_0 ?_
            obtain ⟨v11, hv11, hf⟩ := it_b hf
            refine cQi (As := [.int x1, .int x2, .int (0 : Int32)]) (rest := [.int v10]) (q0 := 0) (ci := 6) S (c_X6_of l D cI cN z _ g x1 x2 (0 : Int32) v11 hv11) (cwV 3 hts gX6_nextOff_X6_of rfl rfl rfl (by decide +kernel) ⟨Nat.le_of_ble_eq_true rfl, Nat.le_of_ble_eq_true rfl⟩) hK hP hS hA hP rfl rfl rfl hl.1 rfl (Nat.le_of_ble_eq_true rfl) dX6_nextOff_63 ⟨Nat.zero_le _, Nat.zero_le _⟩ (fun H locs hP hS => ?_)
            refine lv_icmp_ge (tgt := 73) hx hb dX6_nextOff_66 (by decide) (fun c12 => ?_) (fun c12 => ?_)
            · have hf := it_t hf c12
              refine lv_iload_n hx hb dX6_nextOff_73 rfl (lv_at hl 3 rfl) ?_
              refine lv_istore_n (lv' := [(2, .int x2), (4, .int v7), (0, .ref (z 0)), (1, .int x1), (3, .int x3)]) hx hb dX6_nextOff_74 rfl hl (by decide) rfl (fun ls hl => ?_)
              refine lv_iinc (v := (x3 + (1 : Int32))) (lv' := [(3, .int (x3 + (1 : Int32))), (2, .int x2), (4, .int v7), (0, .ref (z 0)), (1, .int x1)]) hx hb dX6_nextOff_75 hl (k := 4) rfl rfl (by decide) rfl (fun ls hl => ?_)
              refine lv_goto (tgt := 4) hx hb dX6_nextOff_78 (by decide) ?_
              exact ih _ _ hf H locs ls hP hS (lv_sub hl [3, 4, 1, 0] rfl)
            · have hf := it_f hf c12
              refine lv_iload_n hx hb dX6_nextOff_69 rfl (lv_at hl 4 rfl) ?_
              refine lv_goto (tgt := 74) hx hb dX6_nextOff_70 (by decide) ?_
              refine lv_istore_n (lv' := [(2, .int x3), (4, .int v7), (0, .ref (z 0)), (1, .int x1), (3, .int x3)]) hx hb dX6_nextOff_74 rfl hl (by decide) rfl (fun ls hl => ?_)
              refine lv_iinc (v := (x3 + (1 : Int32))) (lv' := [(3, .int (x3 + (1 : Int32))), (2, .int x3), (4, .int v7), (0, .ref (z 0)), (1, .int x1)]) hx hb dX6_nextOff_75 hl (k := 4) rfl rfl (by decide) rfl (fun ls hl => ?_)
              refine lv_goto (tgt := 4) hx hb dX6_nextOff_78 (by decide) ?_
              exact ih _ _ hf H locs ls hP hS (lv_sub hl [3, 4, 1, 0] rfl)
      have hf := hg
      refine lv_icmp_eq (tgt := 39) hx hb dX6_nextOff_21 (by decide) (fun c4 => ?_) (fun c4 => ?_)
      · have hf := it_t hf c4
        refine lv_iconst (v := (0 : Int32)) hx hb dX6_nextOff_39 kc_iconst_0 ?_
        have e0 := Option.some.inj hf
        subst e0
        exact hj H locs ls hP hS (lv_sub hl [0, 1, 2, 3] rfl)
      · have hf := it_f hf c4
        refine lv_aload_n hx hb dX6_nextOff_24 rfl (lv_at hl 0 rfl) ?_
        refine lv_iload_n hx hb dX6_nextOff_25 rfl (lv_at hl 1 rfl) ?_
        refine lv_iload_n hx hb dX6_nextOff_26 rfl (lv_at hl 3 rfl) ?_
        refine lv_iconst (v := (2 : Int32)) hx hb dX6_nextOff_27 kc_iconst_2 ?_
        obtain ⟨v5, hv5, hf⟩ := it_b hf
        refine cQi (As := [.int x1, .int x3, .int (2 : Int32)]) (rest := []) (q0 := 0) (ci := 6) S (c_X6_of l D cI cN z _ g x1 x3 (2 : Int32) v5 hv5) (cwV 3 hts gX6_nextOff_X6_of rfl rfl rfl (by decide +kernel) ⟨Nat.le_of_ble_eq_true rfl, Nat.le_of_ble_eq_true rfl⟩) hK hP hS hA hP rfl rfl rfl hl.1 rfl (Nat.le_of_ble_eq_true rfl) dX6_nextOff_28 ⟨Nat.zero_le _, Nat.zero_le _⟩ (fun H locs hP hS => ?_)
        refine lv_iconst (v := (-1 : Int32)) hx hb dX6_nextOff_31 kc_iconst_m1 ?_
        refine lv_icmp_ne (tgt := 39) hx hb dX6_nextOff_32 (by decide) (fun c6 => ?_) (fun c6 => ?_)
        · have hf := it_f hf c6
          refine lv_iconst (v := (0 : Int32)) hx hb dX6_nextOff_39 kc_iconst_0 ?_
          have e0 := Option.some.inj hf
          subst e0
          exact hj H locs ls hP hS (lv_sub hl [0, 1, 2, 3] rfl)
        · have hf := it_t hf c6
          refine lv_iconst (v := (1 : Int32)) hx hb dX6_nextOff_35 kc_iconst_1 ?_
          refine lv_goto (tgt := 40) hx hb dX6_nextOff_36 (by decide) ?_
          have e0 := Option.some.inj hf
          subst e0
          exact hj H locs ls hP hS (lv_sub hl [0, 1, 2, 3] rfl)
set_option maxRecDepth 100000 in
set_option maxHeartbeats 4000000 in
theorem w_X6_nextOff_0 {p : Program} {l : Launch} {e : Env} {s : State} {m : MethodId} {args : Array Value} {below : List Frame} {meth : Method} {c : Code} {Q : State → Prop} {D : va_G} {cI cN : ClassId} {z : Nat → Nat} (S : CallFix p m c cX6_nextOff 5 s args wsX6_nextOff RX6) (hK : KN D cI cN s) {g : OS} {x1 : Int32} {r0 : Int32} (hret : ∀ (H : Heap) (locs : List Loc) (ls : Array Slot) (pc : Nat), decode cX6_nextOff pc = .ok (.ireturn, 1) → narrow .int (.int r0) = .int r0 → va_S (nwA s.heap.size) s.heap H locs → W p l e (headSpec wsX6_nextOff rm_X6_nextOff).room s m args below meth c H locs 0 0 Q (F0 m pc ls [.int r0])) (hf : fX6_nextOff g x1 = some r0) (H : Heap) (locs : List Loc) (ls : Array Slot) (hP : va_P D vwCl (mdW cI z g) H) (hS : va_S (nwA s.heap.size) s.heap H locs) (hl : lv_has ls 5 [(0, .ref (z 0)), (1, .int x1)]) : W p l e (headSpec wsX6_nextOff rm_X6_nextOff).room s m args below meth c H locs 0 0 Q (F0 m 0 ls []) := by
  obtain ⟨hx, hb, hml, hown, hts⟩ := id S
  have hA : ∀ q : Nat, s.heap.size ≤ q → nwA s.heap.size q := fun _ h => h
  unfold fX6_nextOff at hf
  refine lv_iconst (v := (-1 : Int32)) hx hb dX6_nextOff_0 kc_iconst_m1 ?_
  refine lv_istore_n (lv' := [(2, .int (-1 : Int32)), (0, .ref (z 0)), (1, .int x1)]) hx hb dX6_nextOff_1 rfl hl (by decide) rfl (fun ls hl => ?_)
  refine lv_iconst (v := (0 : Int32)) hx hb dX6_nextOff_2 kc_iconst_0 ?_
  refine lv_istore_n (lv' := [(3, .int (0 : Int32)), (2, .int (-1 : Int32)), (0, .ref (z 0)), (1, .int x1)]) hx hb dX6_nextOff_3 rfl hl (by decide) rfl (fun ls hl => ?_)
  exact w_X6_nextOff_4 S hK hret _ _ _ hf H locs ls hP hS (lv_sub hl [2, 3, 1, 0] rfl)
set_option maxRecDepth 100000 in
theorem c_X6_nextOff (l : Launch) (D : va_G) (cI cN : ClassId) (z : Nat → Nat) (sz : Nat) (g : OS) (x1 : Int32) (r0 : Int32) (hf : fX6_nextOff g x1 = some r0) : CtP l D cI cN yX6_nextOff wsX6_nextOff rm_X6_nextOff [.ref (z 0), .int x1] (mdW cI z g) sz r0 := by
  refine mP (cc := cX6_nextOff) (maxL := 5) (ty := .int) (by decide) rfl rfl (Nat.le_of_ble_eq_true rfl) ?_
  intro p e s m args below meth c Q S hK hP hS hret ls hl
  exact w_X6_nextOff_0 S hK hret hf _ _ _ hP hS (lv_sub (show lv_has ls 5 [(0, .ref (z 0)), (1, .int x1)] from hl) [0, 1] rfl)
abbrev rm_X6_connects : Room := { frames := 5, cells := 0, slots := 0, locals := 131 }
theorem in_X6_connects_X6 : ∀ w ∈ u_ws RX6 TX6 12, w ∈ wsX6_connects := fun w h => List.mem_cons_of_mem _ (List.mem_append_right _ h)
set_option maxRecDepth 100000 in
set_option maxHeartbeats 4000000 in
theorem w_X6_connects_0 {p : Program} {l : Launch} {e : Env} {s : State} {m : MethodId} {args : Array Value} {below : List Frame} {meth : Method} {c : Code} {Q : State → Prop} {D : va_G} {cI cN : ClassId} {A : Nat → Prop} {z : Nat → Nat} (S : CallFix p m c cX6_connects 4 s args wsX6_connects RX6) (hK : KN D cI cN s) (hA : ∀ q : Nat, s.heap.size ≤ q → A q) {g : OS} {x1 : Int32} {x2 : Int32} {x3 : Int32} {r0 : Int32} {g' : OS} (hret : ∀ (H : Heap) (locs : List Loc) (ls : Array Slot) (pc : Nat), decode cX6_connects pc = .ok (.ireturn, 1) → narrow .int (.int r0) = .int r0 → va_P D vwCl (mdW cI z g') H → va_D A (mdW cI z g') → va_S A s.heap H locs → W p l e (headSpec wsX6_connects rm_X6_connects).room s m args below meth c H locs 0 0 Q (F0 m pc ls [.int r0])) (hf : fX6_connects g x1 x2 x3 = some (r0, g')) (H : Heap) (locs : List Loc) (ls : Array Slot) (hP : va_P D vwCl (mdW cI z g) H) (hD : va_D A (mdW cI z g)) (hS : va_S A s.heap H locs) (hl : lv_has ls 4 [(0, .ref (z 0)), (1, .int x1), (2, .int x2), (3, .int x3)]) : W p l e (headSpec wsX6_connects rm_X6_connects).room s m args below meth c H locs 0 0 Q (F0 m 0 ls []) := by
  obtain ⟨hx, hb, hml, hown, hts⟩ := id S
  have inX6 := in_X6_connects_X6
  unfold fX6_connects at hf
  refine lv_aload_n hx hb dX6_connects_0 rfl (lv_at hl 0 rfl) ?_
  refine lv_iload_n hx hb dX6_connects_1 rfl (lv_at hl 1 rfl) ?_
  refine lv_iload_n hx hb dX6_connects_2 rfl (lv_at hl 2 rfl) ?_
  obtain ⟨v1, hv1, hf⟩ := it_b hf
  refine cQi (As := [.int x1, .int x2]) (rest := []) (q0 := 0) (ci := 6) S (c_X6_isLine l D cI cN z _ g x1 x2 v1 hv1) (cwV 2 hts gX6_connects_X6_isLine rfl rfl rfl (by decide +kernel) ⟨Nat.le_of_ble_eq_true rfl, Nat.le_of_ble_eq_true rfl⟩) hK hP hS hA hP rfl rfl rfl hl.1 rfl (Nat.le_of_ble_eq_true rfl) dX6_connects_3 ⟨Nat.zero_le _, Nat.zero_le _⟩ (fun H locs hP hS => ?_)
  refine lv_if_eq (tgt := 18) hx hb dX6_connects_6 (by decide) (fun c2 => ?_) (fun c2 => ?_)
  · have hf := it_t hf c2
    refine lv_iconst (v := (-1 : Int32)) hx hb dX6_connects_18 kc_iconst_m1 ?_
    have e0 : (-1 : Int32) = r0 := congrArg (fun z => z.1) (Option.some.inj hf)
    have e1 : g = g' := congrArg (fun z => z.2) (Option.some.inj hf)
    subst e0
    subst e1
    exact hret H locs ls _ dX6_connects_19 rfl hP hD hS
  · have hf := it_f hf c2
    refine lv_aload_n hx hb dX6_connects_9 rfl (lv_at hl 0 rfl) ?_
    refine lv_iload_n hx hb dX6_connects_10 rfl (lv_at hl 1 rfl) ?_
    refine lv_iload_n hx hb dX6_connects_11 rfl (lv_at hl 3 rfl) ?_
    obtain ⟨v3, hv3, hf⟩ := it_b hf
    refine cQi (As := [.int x1, .int x3]) (rest := []) (q0 := 0) (ci := 6) S (c_X6_isLine l D cI cN z _ g x1 x3 v3 hv3) (cwV 2 hts gX6_connects_X6_isLine rfl rfl rfl (by decide +kernel) ⟨Nat.le_of_ble_eq_true rfl, Nat.le_of_ble_eq_true rfl⟩) hK hP hS hA hP rfl rfl rfl hl.1 rfl (Nat.le_of_ble_eq_true rfl) dX6_connects_12 ⟨Nat.zero_le _, Nat.zero_le _⟩ (fun H locs hP hS => ?_)
    refine lv_if_ne (tgt := 20) hx hb dX6_connects_15 (by decide) (fun c4 => ?_) (fun c4 => ?_)
    · have hf := it_f hf c4
      refine lv_aload_n hx hb dX6_connects_20 rfl (lv_at hl 0 rfl) ?_
      refine lv_iload_n hx hb dX6_connects_21 rfl (lv_at hl 1 rfl) ?_
      refine lv_iload_n hx hb dX6_connects_22 rfl (lv_at hl 2 rfl) ?_
      refine lv_iconst (v := (0 : Int32)) hx hb dX6_connects_23 kc_iconst_0 ?_
      obtain ⟨v5, hv5, hf⟩ := it_b hf
      refine cQi (As := [.int x1, .int x2, .int (0 : Int32)]) (rest := []) (q0 := 0) (ci := 6) S (c_X6_of l D cI cN z _ g x1 x2 (0 : Int32) v5 hv5) (cwV 3 hts gX6_connects_X6_of rfl rfl rfl (by decide +kernel) ⟨Nat.le_of_ble_eq_true rfl, Nat.le_of_ble_eq_true rfl⟩) hK hP hS hA hP rfl rfl rfl hl.1 rfl (Nat.le_of_ble_eq_true rfl) dX6_connects_24 ⟨Nat.zero_le _, Nat.zero_le _⟩ (fun H locs hP hS => ?_)
      refine lv_iconst (v := (-1 : Int32)) hx hb dX6_connects_27 kc_iconst_m1 ?_
      refine lv_icmp_ne (tgt := 41) hx hb dX6_connects_28 (by decide) (fun c6 => ?_) (fun c6 => ?_)
      · have hf := it_f hf c6
        refine lv_bipush (v := (-3 : Int32)) hx hb dX6_connects_41 kc_bipush_m3 ?_
        have e0 : (-3 : Int32) = r0 := congrArg (fun z => z.1) (Option.some.inj hf)
        have e1 : g = g' := congrArg (fun z => z.2) (Option.some.inj hf)
        subst e0
        subst e1
        exact hret H locs ls _ dX6_connects_43 rfl hP hD hS
      · have hf := it_t hf c6
        refine lv_aload_n hx hb dX6_connects_31 rfl (lv_at hl 0 rfl) ?_
        refine lv_iload_n hx hb dX6_connects_32 rfl (lv_at hl 1 rfl) ?_
        refine lv_iload_n hx hb dX6_connects_33 rfl (lv_at hl 3 rfl) ?_
        obtain ⟨v7, hv7, hf⟩ := it_b hf
        refine cQi (As := [.int x1, .int x3]) (rest := []) (q0 := 0) (ci := 6) S (c_X6_inletTo l D cI cN z _ g x1 x3 v7 hv7) (cwV 2 hts gX6_connects_X6_inletTo rfl rfl rfl (by decide +kernel) ⟨Nat.le_of_ble_eq_true rfl, Nat.le_of_ble_eq_true rfl⟩) hK hP hS hA hP rfl rfl rfl hl.1 rfl (Nat.le_of_ble_eq_true rfl) dX6_connects_34 ⟨Nat.zero_le _, Nat.zero_le _⟩ (fun H locs hP hS => ?_)
        refine lv_iconst (v := (-1 : Int32)) hx hb dX6_connects_37 kc_iconst_m1 ?_
        refine lv_icmp_eq (tgt := 44) hx hb dX6_connects_38 (by decide) (fun c8 => ?_) (fun c8 => ?_)
        · have hf := it_t hf c8
          refine lv_aload_n hx hb dX6_connects_44 rfl (lv_at hl 0 rfl) ?_
          refine lv_iload_n hx hb dX6_connects_45 rfl (lv_at hl 1 rfl) ?_
          refine lv_iload_n hx hb dX6_connects_46 rfl (lv_at hl 2 rfl) ?_
          refine lv_iconst (v := (0 : Int32)) hx hb dX6_connects_47 kc_iconst_0 ?_
          refine lv_aload_n hx hb dX6_connects_48 rfl (lv_at hl 0 rfl) ?_
          refine va_get (D := D) (ci := 6) (v := .ref (z 1)) (C := RX6) (T := TX6) (N := 12) hx hb hts inX6 hown hK.1 hP 0 rfl rfl 0 (by decide) (hts (.fieldLink RX6 7 "ClosExchangeModel" "s" "[I") (List.mem_of_getElem? (i := 1) rfl)) (fun _ h9 => h9) rfl dX6_connects_49 ?_
          refine lv_iload_n hx hb dX6_connects_52 rfl (lv_at hl 1 rfl) ?_
          refine lv_iconst (v := (5 : Int32)) hx hb dX6_connects_53 kc_iconst_5 ?_
          refine lv_iadd hx hb dX6_connects_54 ?_
          obtain ⟨c9, hf⟩ := it_g hf
          refine va_iald hx hb hK.1 hP 1 0 rfl rfl (inb_in c9) dX6_connects_55 ?_
          obtain ⟨v10, hv10, hf⟩ := it_b hf
          refine cBv (As := [.int x1, .int x2, .int (0 : Int32), .int ((g.2 0) (x1 + (5 : Int32)).toNatClampNeg)]) (rest := []) (q0 := 0) (ci := 6) [(true, (mdW cI z g), (mdW cI z v10))] ⟨ad_mod, (fun h => Bool.noConfusion h), trivial⟩ S (c_X6_lay l D cI cN z _ g x1 x2 (0 : Int32) ((g.2 0) (x1 + (5 : Int32)).toNatClampNeg) v10 hv10) (cwV 4 hts gX6_connects_X6_lay rfl rfl rfl (by decide +kernel) ⟨Nat.le_of_ble_eq_true rfl, Nat.le_of_ble_eq_true rfl⟩) hK hP hD hS hA rfl rfl rfl hl.1 rfl (Nat.le_of_ble_eq_true rfl) dX6_connects_56 ⟨Nat.zero_le _, Nat.zero_le _⟩ (fun H locs hP hD hS => ?_)
          refine lv_aload_n hx hb dX6_connects_59 rfl (lv_at hl 0 rfl) ?_
          refine lv_iload_n hx hb dX6_connects_60 rfl (lv_at hl 1 rfl) ?_
          refine lv_iload_n hx hb dX6_connects_61 rfl (lv_at hl 2 rfl) ?_
          refine lv_iconst (v := (1 : Int32)) hx hb dX6_connects_62 kc_iconst_1 ?_
          refine lv_iload_n hx hb dX6_connects_63 rfl (lv_at hl 3 rfl) ?_
          obtain ⟨v11, hv11, hf⟩ := it_b hf
          refine cBv (As := [.int x1, .int x2, .int (1 : Int32), .int x3]) (rest := []) (q0 := 0) (ci := 6) [(true, (mdW cI z v10), (mdW cI z v11))] ⟨ad_mod, (fun h => Bool.noConfusion h), trivial⟩ S (c_X6_lay l D cI cN z _ v10 x1 x2 (1 : Int32) x3 v11 hv11) (cwV 4 hts gX6_connects_X6_lay rfl rfl rfl (by decide +kernel) ⟨Nat.le_of_ble_eq_true rfl, Nat.le_of_ble_eq_true rfl⟩) hK hP hD hS hA rfl rfl rfl hl.1 rfl (Nat.le_of_ble_eq_true rfl) dX6_connects_64 ⟨Nat.zero_le _, Nat.zero_le _⟩ (fun H locs hP hD hS => ?_)
          refine lv_aload_n hx hb dX6_connects_67 rfl (lv_at hl 0 rfl) ?_
          refine lv_iload_n hx hb dX6_connects_68 rfl (lv_at hl 1 rfl) ?_
          refine lv_iload_n hx hb dX6_connects_69 rfl (lv_at hl 2 rfl) ?_
          refine lv_iconst (v := (2 : Int32)) hx hb dX6_connects_70 kc_iconst_2 ?_
          refine lv_iconst (v := (-1 : Int32)) hx hb dX6_connects_71 kc_iconst_m1 ?_
          obtain ⟨v12, hv12, hf⟩ := it_b hf
          refine cBv (As := [.int x1, .int x2, .int (2 : Int32), .int (-1 : Int32)]) (rest := []) (q0 := 0) (ci := 6) [(true, (mdW cI z v11), (mdW cI z v12))] ⟨ad_mod, (fun h => Bool.noConfusion h), trivial⟩ S (c_X6_lay l D cI cN z _ v11 x1 x2 (2 : Int32) (-1 : Int32) v12 hv12) (cwV 4 hts gX6_connects_X6_lay rfl rfl rfl (by decide +kernel) ⟨Nat.le_of_ble_eq_true rfl, Nat.le_of_ble_eq_true rfl⟩) hK hP hD hS hA rfl rfl rfl hl.1 rfl (Nat.le_of_ble_eq_true rfl) dX6_connects_72 ⟨Nat.zero_le _, Nat.zero_le _⟩ (fun H locs hP hD hS => ?_)
          refine lv_aload_n hx hb dX6_connects_75 rfl (lv_at hl 0 rfl) ?_
          refine va_get (D := D) (ci := 6) (v := .ref (z 1)) (C := RX6) (T := TX6) (N := 12) hx hb hts inX6 hown hK.1 hP 0 rfl rfl 0 (by decide) (hts (.fieldLink RX6 7 "ClosExchangeModel" "s" "[I") (List.mem_of_getElem? (i := 1) rfl)) (fun _ h9 => h9) rfl dX6_connects_76 ?_
          refine lv_iload_n hx hb dX6_connects_79 rfl (lv_at hl 1 rfl) ?_
          refine lv_iconst (v := (5 : Int32)) hx hb dX6_connects_80 kc_iconst_5 ?_
          refine lv_iadd hx hb dX6_connects_81 ?_
          refine lv_dup2_11 hx hb dX6_connects_82 rfl rfl ?_
          obtain ⟨c13, hf⟩ := it_g hf
          refine va_iald hx hb hK.1 hP 1 0 rfl rfl (inb_in c13) dX6_connects_83 ?_
          refine lv_iconst (v := (1 : Int32)) hx hb dX6_connects_84 kc_iconst_1 ?_
          refine lv_iadd hx hb dX6_connects_85 ?_
          obtain ⟨c14, hf⟩ := it_g hf
          obtain ⟨w15, hw15, hf⟩ := it_j hf
          refine giastw (wf := (mdW cI z (setR v12 0 w15))) hw15 hx hb hK.1 hP hD hS 1 0 rfl rfl (inb_in c14) dX6_connects_86 rfl (fun H locs hP hD hS => ?_)
          refine lv_aload_n hx hb dX6_connects_87 rfl (lv_at hl 0 rfl) ?_
          refine lv_iload_n hx hb dX6_connects_88 rfl (lv_at hl 1 rfl) ?_
          refine lv_iload_n hx hb dX6_connects_89 rfl (lv_at hl 2 rfl) ?_
          obtain ⟨v16, hv16, hf⟩ := it_b hf
          refine cBi (As := [.int x1, .int x2]) (rest := []) (q0 := 0) (ci := 6) [(true, (mdW cI z (setR v12 0 w15)), (mdW cI z v16.2))] ⟨ad_mod, (fun h => Bool.noConfusion h), trivial⟩ S (c_X6_routes l D cI cN z _ (setR v12 0 w15) x1 x2 v16.1 v16.2 hv16) (cwV 2 hts gX6_connects_X6_routes rfl rfl rfl (by decide +kernel) ⟨Nat.le_of_ble_eq_true rfl, Nat.le_of_ble_eq_true rfl⟩) hK hP hD hS hA rfl rfl rfl hl.1 rfl (Nat.le_of_ble_eq_true rfl) dX6_connects_90 ⟨Nat.zero_le _, Nat.zero_le _⟩ (fun H locs hP hD hS => ?_)
          have e0 : v16.1 = r0 := congrArg (fun z => z.1) (Option.some.inj hf)
          have e1 : v16.2 = g' := congrArg (fun z => z.2) (Option.some.inj hf)
          subst e0
          subst e1
          exact hret H locs ls _ dX6_connects_93 rfl hP hD hS
        · have hf := it_f hf c8
          refine lv_bipush (v := (-3 : Int32)) hx hb dX6_connects_41 kc_bipush_m3 ?_
          have e0 : (-3 : Int32) = r0 := congrArg (fun z => z.1) (Option.some.inj hf)
          have e1 : g = g' := congrArg (fun z => z.2) (Option.some.inj hf)
          subst e0
          subst e1
          exact hret H locs ls _ dX6_connects_43 rfl hP hD hS
    · have hf := it_t hf c4
      refine lv_iconst (v := (-1 : Int32)) hx hb dX6_connects_18 kc_iconst_m1 ?_
      have e0 : (-1 : Int32) = r0 := congrArg (fun z => z.1) (Option.some.inj hf)
      have e1 : g = g' := congrArg (fun z => z.2) (Option.some.inj hf)
      subst e0
      subst e1
      exact hret H locs ls _ dX6_connects_19 rfl hP hD hS
set_option maxRecDepth 100000 in
theorem c_X6_connects (l : Launch) (D : va_G) (cI cN : ClassId) (z : Nat → Nat) (sz : Nat) (g : OS) (x1 : Int32) (x2 : Int32) (x3 : Int32) (r0 : Int32) (g' : OS) (hf : fX6_connects g x1 x2 x3 = some (r0, g')) : CtI l D cI cN yX6_connects wsX6_connects rm_X6_connects 0 0 [.ref (z 0), .int x1, .int x2, .int x3] (mdW cI z g) sz r0 (mdW cI z g') := by
  refine mW (cc := cX6_connects) (maxL := 4) (ty := .int) (by decide) rfl rfl (Nat.le_of_ble_eq_true rfl) ?_
  intro p e s m args below meth c Q A S hK hP hD hS hA hret ls hl
  exact w_X6_connects_0 S hK hA hret hf _ _ _ hP hD hS (lv_sub (show lv_has ls 4 [(0, .ref (z 0)), (1, .int x1), (2, .int x2), (3, .int x3)] from hl) [0, 1, 2, 3] rfl)
abbrev rm_X6_disconnects : Room := { frames := 2, cells := 0, slots := 0, locals := 44 }
theorem in_X6_disconnects_X6 : ∀ w ∈ u_ws RX6 TX6 12, w ∈ wsX6_disconnects := fun w h => List.mem_cons_of_mem _ (List.mem_append_right _ h)
set_option maxRecDepth 100000 in
set_option maxHeartbeats 4000000 in
theorem w_X6_disconnects_0 {p : Program} {l : Launch} {e : Env} {s : State} {m : MethodId} {args : Array Value} {below : List Frame} {meth : Method} {c : Code} {Q : State → Prop} {D : va_G} {cI cN : ClassId} {A : Nat → Prop} {z : Nat → Nat} (S : CallFix p m c cX6_disconnects 4 s args wsX6_disconnects RX6) (hK : KN D cI cN s) (hA : ∀ q : Nat, s.heap.size ≤ q → A q) {g : OS} {x1 : Int32} {x2 : Int32} {r0 : Int32} {g' : OS} (hret : ∀ (H : Heap) (locs : List Loc) (ls : Array Slot) (pc : Nat), decode cX6_disconnects pc = .ok (.ireturn, 1) → narrow .int (.int r0) = .int r0 → va_P D vwCl (mdW cI z g') H → va_D A (mdW cI z g') → va_S A s.heap H locs → W p l e (headSpec wsX6_disconnects rm_X6_disconnects).room s m args below meth c H locs 0 0 Q (F0 m pc ls [.int r0])) (hf : fX6_disconnects g x1 x2 = some (r0, g')) (H : Heap) (locs : List Loc) (ls : Array Slot) (hP : va_P D vwCl (mdW cI z g) H) (hD : va_D A (mdW cI z g)) (hS : va_S A s.heap H locs) (hl : lv_has ls 4 [(0, .ref (z 0)), (1, .int x1), (2, .int x2)]) : W p l e (headSpec wsX6_disconnects rm_X6_disconnects).room s m args below meth c H locs 0 0 Q (F0 m 0 ls []) := by
  obtain ⟨hx, hb, hml, hown, hts⟩ := id S
  have inX6 := in_X6_disconnects_X6
  unfold fX6_disconnects at hf
  refine lv_aload_n hx hb dX6_disconnects_0 rfl (lv_at hl 0 rfl) ?_
  refine lv_iload_n hx hb dX6_disconnects_1 rfl (lv_at hl 1 rfl) ?_
  refine lv_iload_n hx hb dX6_disconnects_2 rfl (lv_at hl 2 rfl) ?_
  obtain ⟨v1, hv1, hf⟩ := it_b hf
  refine cQi (As := [.int x1, .int x2]) (rest := []) (q0 := 0) (ci := 6) S (c_X6_isLine l D cI cN z _ g x1 x2 v1 hv1) (cwV 2 hts gX6_disconnects_X6_isLine rfl rfl rfl (by decide +kernel) ⟨Nat.le_of_ble_eq_true rfl, Nat.le_of_ble_eq_true rfl⟩) hK hP hS hA hP rfl rfl rfl hl.1 rfl (Nat.le_of_ble_eq_true rfl) dX6_disconnects_3 ⟨Nat.zero_le _, Nat.zero_le _⟩ (fun H locs hP hS => ?_)
  refine lv_if_ne (tgt := 11) hx hb dX6_disconnects_6 (by decide) (fun c2 => ?_) (fun c2 => ?_)
  · have hf := it_f hf c2
    refine lv_aload_n hx hb dX6_disconnects_11 rfl (lv_at hl 0 rfl) ?_
    refine lv_iload_n hx hb dX6_disconnects_12 rfl (lv_at hl 1 rfl) ?_
    refine lv_iload_n hx hb dX6_disconnects_13 rfl (lv_at hl 2 rfl) ?_
    refine lv_iconst (v := (0 : Int32)) hx hb dX6_disconnects_14 kc_iconst_0 ?_
    obtain ⟨v3, hv3, hf⟩ := it_b hf
    refine cQi (As := [.int x1, .int x2, .int (0 : Int32)]) (rest := []) (q0 := 0) (ci := 6) S (c_X6_of l D cI cN z _ g x1 x2 (0 : Int32) v3 hv3) (cwV 3 hts gX6_disconnects_X6_of rfl rfl rfl (by decide +kernel) ⟨Nat.le_of_ble_eq_true rfl, Nat.le_of_ble_eq_true rfl⟩) hK hP hS hA hP rfl rfl rfl hl.1 rfl (Nat.le_of_ble_eq_true rfl) dX6_disconnects_15 ⟨Nat.zero_le _, Nat.zero_le _⟩ (fun H locs hP hS => ?_)
    refine lv_istore_n (lv' := [(3, .int v3), (0, .ref (z 0)), (1, .int x1), (2, .int x2)]) hx hb dX6_disconnects_18 rfl hl (by decide) rfl (fun ls hl => ?_)
    refine lv_iload_n hx hb dX6_disconnects_19 rfl (lv_at hl 0 rfl) ?_
    refine lv_iconst (v := (-1 : Int32)) hx hb dX6_disconnects_20 kc_iconst_m1 ?_
    refine lv_icmp_ne (tgt := 27) hx hb dX6_disconnects_21 (by decide) (fun c4 => ?_) (fun c4 => ?_)
    · have hf := it_f hf c4
      refine lv_aload_n hx hb dX6_disconnects_27 rfl (lv_at hl 1 rfl) ?_
      refine lv_iload_n hx hb dX6_disconnects_28 rfl (lv_at hl 2 rfl) ?_
      refine lv_iload_n hx hb dX6_disconnects_29 rfl (lv_at hl 3 rfl) ?_
      refine lv_iconst (v := (0 : Int32)) hx hb dX6_disconnects_30 kc_iconst_0 ?_
      refine lv_iconst (v := (-1 : Int32)) hx hb dX6_disconnects_31 kc_iconst_m1 ?_
      obtain ⟨v5, hv5, hf⟩ := it_b hf
      refine cBv (As := [.int x1, .int x2, .int (0 : Int32), .int (-1 : Int32)]) (rest := []) (q0 := 0) (ci := 6) [(true, (mdW cI z g), (mdW cI z v5))] ⟨ad_mod, (fun h => Bool.noConfusion h), trivial⟩ S (c_X6_lay l D cI cN z _ g x1 x2 (0 : Int32) (-1 : Int32) v5 hv5) (cwV 4 hts gX6_disconnects_X6_lay rfl rfl rfl (by decide +kernel) ⟨Nat.le_of_ble_eq_true rfl, Nat.le_of_ble_eq_true rfl⟩) hK hP hD hS hA rfl rfl rfl hl.1 rfl (Nat.le_of_ble_eq_true rfl) dX6_disconnects_32 ⟨Nat.zero_le _, Nat.zero_le _⟩ (fun H locs hP hD hS => ?_)
      refine lv_aload_n hx hb dX6_disconnects_35 rfl (lv_at hl 1 rfl) ?_
      refine va_get (D := D) (ci := 6) (v := .ref (z 1)) (C := RX6) (T := TX6) (N := 12) hx hb hts inX6 hown hK.1 hP 0 rfl rfl 0 (by decide) (hts (.fieldLink RX6 7 "ClosExchangeModel" "s" "[I") (List.mem_of_getElem? (i := 1) rfl)) (fun _ h9 => h9) rfl dX6_disconnects_36 ?_
      refine lv_iload_n hx hb dX6_disconnects_39 rfl (lv_at hl 2 rfl) ?_
      refine lv_bipush (v := (6 : Int32)) hx hb dX6_disconnects_40 kc_bipush_6 ?_
      refine lv_iadd hx hb dX6_disconnects_42 ?_
      refine lv_dup2_11 hx hb dX6_disconnects_43 rfl rfl ?_
      obtain ⟨c6, hf⟩ := it_g hf
      refine va_iald hx hb hK.1 hP 1 0 rfl rfl (inb_in c6) dX6_disconnects_44 ?_
      refine lv_iconst (v := (1 : Int32)) hx hb dX6_disconnects_45 kc_iconst_1 ?_
      refine lv_iadd hx hb dX6_disconnects_46 ?_
      obtain ⟨c7, hf⟩ := it_g hf
      obtain ⟨w8, hw8, hf⟩ := it_j hf
      refine giastw (wf := (mdW cI z (setR v5 0 w8))) hw8 hx hb hK.1 hP hD hS 1 0 rfl rfl (inb_in c7) dX6_disconnects_47 rfl (fun H locs hP hD hS => ?_)
      refine lv_iload_n hx hb dX6_disconnects_48 rfl (lv_at hl 0 rfl) ?_
      have e0 : v3 = r0 := congrArg (fun z => z.1) (Option.some.inj hf)
      have e1 : (setR v5 0 w8) = g' := congrArg (fun z => z.2) (Option.some.inj hf)
      subst e0
      subst e1
      exact hret H locs ls _ dX6_disconnects_49 rfl hP hD hS
    · have hf := it_t hf c4
      refine lv_bipush (v := (-3 : Int32)) hx hb dX6_disconnects_24 kc_bipush_m3 ?_
      have e0 : (-3 : Int32) = r0 := congrArg (fun z => z.1) (Option.some.inj hf)
      have e1 : g = g' := congrArg (fun z => z.2) (Option.some.inj hf)
      subst e0
      subst e1
      exact hret H locs ls _ dX6_disconnects_26 rfl hP hD hS
  · have hf := it_t hf c2
    refine lv_iconst (v := (-1 : Int32)) hx hb dX6_disconnects_9 kc_iconst_m1 ?_
    have e0 : (-1 : Int32) = r0 := congrArg (fun z => z.1) (Option.some.inj hf)
    have e1 : g = g' := congrArg (fun z => z.2) (Option.some.inj hf)
    subst e0
    subst e1
    exact hret H locs ls _ dX6_disconnects_10 rfl hP hD hS
set_option maxRecDepth 100000 in
theorem c_X6_disconnects (l : Launch) (D : va_G) (cI cN : ClassId) (z : Nat → Nat) (sz : Nat) (g : OS) (x1 : Int32) (x2 : Int32) (r0 : Int32) (g' : OS) (hf : fX6_disconnects g x1 x2 = some (r0, g')) : CtI l D cI cN yX6_disconnects wsX6_disconnects rm_X6_disconnects 0 0 [.ref (z 0), .int x1, .int x2] (mdW cI z g) sz r0 (mdW cI z g') := by
  refine mW (cc := cX6_disconnects) (maxL := 4) (ty := .int) (by decide) rfl rfl (Nat.le_of_ble_eq_true rfl) ?_
  intro p e s m args below meth c Q A S hK hP hD hS hA hret ls hl
  exact w_X6_disconnects_0 S hK hA hret hf _ _ _ hP hD hS (lv_sub (show lv_has ls 4 [(0, .ref (z 0)), (1, .int x1), (2, .int x2)] from hl) [0, 1, 2] rfl)
abbrev rm_X6_takesOut : Room := { frames := 5, cells := 0, slots := 0, locals := 131 }
theorem in_X6_takesOut_X6 : ∀ w ∈ u_ws RX6 TX6 12, w ∈ wsX6_takesOut := fun w h => List.mem_cons_of_mem _ (List.mem_append_right _ h)
set_option maxRecDepth 100000 in
set_option maxHeartbeats 4000000 in
theorem w_X6_takesOut_100 {p : Program} {l : Launch} {e : Env} {s : State} {m : MethodId} {args : Array Value} {below : List Frame} {meth : Method} {c : Code} {Q : State → Prop} {D : va_G} {cI cN : ClassId} {A : Nat → Prop} {z : Nat → Nat} (S : CallFix p m c cX6_takesOut 5 s args wsX6_takesOut RX6) (hK : KN D cI cN s) (hA : ∀ q : Nat, s.heap.size ≤ q → A q) {x1 : Int32} {r0 : Int32} {g' : OS} (hret : ∀ (H : Heap) (locs : List Loc) (ls : Array Slot) (pc : Nat), decode cX6_takesOut pc = .ok (.ireturn, 1) → narrow .int (.int r0) = .int r0 → va_P D vwCl (mdW cI z g') H → va_D A (mdW cI z g') → va_S A s.heap H locs → W p l e (headSpec wsX6_takesOut rm_X6_takesOut).room s m args below meth c H locs 0 0 Q (F0 m pc ls [.int r0])) : ∀ (k : Nat) (x3 : Int32) (x4 : Int32) (g : OS), fX6_takesOut_100 x1 k x3 x4 g = some (r0, g') → ∀ (H : Heap) (locs : List Loc) (ls : Array Slot), va_P D vwCl (mdW cI z g) H → va_D A (mdW cI z g) → va_S A s.heap H locs → lv_has ls 5 [(0, .ref (z 0)), (1, .int x1), (3, .int x3), (4, .int x4)] → W p l e (headSpec wsX6_takesOut rm_X6_takesOut).room s m args below meth c H locs 0 0 Q (F0 m 100 ls []) := by
  obtain ⟨hx, hb, hml, hown, hts⟩ := id S
  have inX6 := in_X6_takesOut_X6
  intro k
  induction k with
  | zero => intro x3 x4 g hf; rw [fX6_takesOut_100_z] at hf; cases hf
  | succ k ih =>
    intro x3 x4 g hf H locs ls hP hD hS hl
    rw [fX6_takesOut_100_s] at hf
    refine lv_iload hx hb dX6_takesOut_100 (lv_at hl 3 rfl) ?_
    refine lv_iconst (v := (-1 : Int32)) hx hb dX6_takesOut_102 kc_iconst_m1 ?_
    refine lv_icmp_eq (tgt := 156) hx hb dX6_takesOut_103 (by decide) (fun c11 => ?_) (fun c11 => ?_)
    · have hf := it_t hf c11
      refine lv_aload_n hx hb dX6_takesOut_156 rfl (lv_at hl 0 rfl) ?_
      refine va_get (D := D) (ci := 6) (v := .ref (z 1)) (C := RX6) (T := TX6) (N := 12) hx hb hts inX6 hown hK.1 hP 0 rfl rfl 0 (by decide) (hts (.fieldLink RX6 7 "ClosExchangeModel" "s" "[I") (List.mem_of_getElem? (i := 1) rfl)) (fun _ h9 => h9) rfl dX6_takesOut_157 ?_
      refine lv_iload_n hx hb dX6_takesOut_160 rfl (lv_at hl 1 rfl) ?_
      refine lv_bipush (v := (7 : Int32)) hx hb dX6_takesOut_161 kc_bipush_7 ?_
      refine lv_iadd hx hb dX6_takesOut_163 ?_
      refine lv_dup2_11 hx hb dX6_takesOut_164 rfl rfl ?_
      obtain ⟨c12, hf⟩ := it_g hf
      refine va_iald hx hb hK.1 hP 1 0 rfl rfl (inb_in c12) dX6_takesOut_165 ?_
      refine lv_iload_n hx hb dX6_takesOut_166 rfl (lv_at hl 2 rfl) ?_
      refine lv_iadd hx hb dX6_takesOut_167 ?_
      obtain ⟨c13, hf⟩ := it_g hf
      obtain ⟨w14, hw14, hf⟩ := it_j hf
      refine giastw (wf := (mdW cI z (setR g 0 w14))) hw14 hx hb hK.1 hP hD hS 1 0 rfl rfl (inb_in c13) dX6_takesOut_168 rfl (fun H locs hP hD hS => ?_)
      refine lv_iload_n hx hb dX6_takesOut_169 rfl (lv_at hl 2 rfl) ?_
      have e0 : x3 = r0 := congrArg (fun z => z.1) (Option.some.inj hf)
      have e1 : (setR g 0 w14) = g' := congrArg (fun z => z.2) (Option.some.inj hf)
      subst e0
      subst e1
      exact hret H locs ls _ dX6_takesOut_170 rfl hP hD hS
    · have hf := it_f hf c11
      refine lv_aload_n hx hb dX6_takesOut_106 rfl (lv_at hl 0 rfl) ?_
      refine lv_iload_n hx hb dX6_takesOut_107 rfl (lv_at hl 1 rfl) ?_
      refine lv_iload hx hb dX6_takesOut_108 (lv_at hl 3 rfl) ?_
      obtain ⟨v15, hv15, hf⟩ := it_b hf
      refine cBi (As := [.int x1, .int x4]) (rest := []) (q0 := 0) (ci := 6) [(true, (mdW cI z g), (mdW cI z v15.2))] ⟨ad_mod, (fun h => Bool.noConfusion h), trivial⟩ S (c_X6_routes l D cI cN z _ g x1 x4 v15.1 v15.2 hv15) (cwV 2 hts gX6_takesOut_X6_routes rfl rfl rfl (by decide +kernel) ⟨Nat.le_of_ble_eq_true rfl, Nat.le_of_ble_eq_true rfl⟩) hK hP hD hS hA rfl rfl rfl hl.1 rfl (Nat.le_of_ble_eq_true rfl) dX6_takesOut_110 ⟨Nat.zero_le _, Nat.zero_le _⟩ (fun H locs hP hD hS => ?_)
      refine lv_bipush (v := (-4 : Int32)) hx hb dX6_takesOut_113 kc_bipush_m4 ?_
      obtain ⟨v21, hg, hf⟩ := it_b hf
      have hj : ∀ (H : Heap) (locs : List Loc) (ls : Array Slot), va_P D vwCl (mdW cI z v21.2) H → va_D A (mdW cI z v21.2) → va_S A s.heap H locs → lv_has ls 5 [(0, .ref (z 0)), (1, .int x1), (3, .int v21.1)] → W p l e (headSpec wsX6_takesOut rm_X6_takesOut).room s m args below meth c H locs 0 0 Q (F0 m 146 ls []) := by
        intro H locs ls hP hD hS hl
        refine lv_aload_n hx hb dX6_takesOut_146 rfl (lv_at hl 0 rfl) ?_
        refine lv_iload_n hx hb dX6_takesOut_147 rfl (lv_at hl 1 rfl) ?_
        obtain ⟨v22, hv22, hf⟩ := it_b hf
        refine cQi (As := [.int x1]) (rest := []) (q0 := 0) (ci := 6) S (c_X6_nextOff l D cI cN z _ v21.2 x1 v22 hv22) (cwV 1 hts gX6_takesOut_X6_nextOff rfl rfl rfl (by decide +kernel) ⟨Nat.le_of_ble_eq_true rfl, Nat.le_of_ble_eq_true rfl⟩) hK hP hS hA hP rfl rfl rfl hl.1 rfl (Nat.le_of_ble_eq_true rfl) dX6_takesOut_148 ⟨Nat.zero_le _, Nat.zero_le _⟩ (fun H locs hP hS => ?_)
        refine lv_istore (lv' := [(4, .int v22), (0, .ref (z 0)), (1, .int x1), (3, .int v21.1)]) hx hb dX6_takesOut_151 hl (by decide) rfl (fun ls hl => ?_)
        refine lv_goto (tgt := 100) hx hb dX6_takesOut_153 (by decide) ?_
        exact ih _ _ _ hf H locs ls hP hD hS (lv_sub hl [1, 2, 3, 0] rfl)
      have hf := hg
      refine lv_icmp_ne (tgt := 133) hx hb dX6_takesOut_115 (by decide) (fun c16 => ?_) (fun c16 => ?_)
      · have hf := it_f hf c16
        refine lv_aload_n hx hb dX6_takesOut_133 rfl (lv_at hl 0 rfl) ?_
        refine va_get (D := D) (ci := 6) (v := .ref (z 1)) (C := RX6) (T := TX6) (N := 12) hx hb hts inX6 hown hK.1 hP 0 rfl rfl 0 (by decide) (hts (.fieldLink RX6 7 "ClosExchangeModel" "s" "[I") (List.mem_of_getElem? (i := 1) rfl)) (fun _ h9 => h9) rfl dX6_takesOut_134 ?_
        refine lv_iload_n hx hb dX6_takesOut_137 rfl (lv_at hl 1 rfl) ?_
        refine lv_bipush (v := (8 : Int32)) hx hb dX6_takesOut_138 kc_bipush_8 ?_
        refine lv_iadd hx hb dX6_takesOut_140 ?_
        refine lv_dup2_11 hx hb dX6_takesOut_141 rfl rfl ?_
        obtain ⟨c17, hf⟩ := it_g hf
        refine va_iald hx hb hK.1 hP 1 0 rfl rfl (inb_in c17) dX6_takesOut_142 ?_
        refine lv_iconst (v := (1 : Int32)) hx hb dX6_takesOut_143 kc_iconst_1 ?_
        refine lv_iadd hx hb dX6_takesOut_144 ?_
        obtain ⟨c18, hf⟩ := it_g hf
        obtain ⟨w19, hw19, hf⟩ := it_j hf
        refine giastw (wf := (mdW cI z (setR v15.2 0 w19))) hw19 hx hb hK.1 hP hD hS 1 0 rfl rfl (inb_in c18) dX6_takesOut_145 rfl (fun H locs hP hD hS => ?_)
        have e0 := Option.some.inj hf
        subst e0
        exact hj H locs ls hP hD hS (lv_sub hl [0, 1, 2] rfl)
      · have hf := it_t hf c16
        refine lv_aload_n hx hb dX6_takesOut_118 rfl (lv_at hl 0 rfl) ?_
        refine lv_iload_n hx hb dX6_takesOut_119 rfl (lv_at hl 1 rfl) ?_
        refine lv_iload hx hb dX6_takesOut_120 (lv_at hl 3 rfl) ?_
        refine lv_iconst (v := (0 : Int32)) hx hb dX6_takesOut_122 kc_iconst_0 ?_
        refine lv_iconst (v := (-1 : Int32)) hx hb dX6_takesOut_123 kc_iconst_m1 ?_
        obtain ⟨v20, hv20, hf⟩ := it_b hf
        refine cBv (As := [.int x1, .int x4, .int (0 : Int32), .int (-1 : Int32)]) (rest := []) (q0 := 0) (ci := 6) [(true, (mdW cI z v15.2), (mdW cI z v20))] ⟨ad_mod, (fun h => Bool.noConfusion h), trivial⟩ S (c_X6_lay l D cI cN z _ v15.2 x1 x4 (0 : Int32) (-1 : Int32) v20 hv20) (cwV 4 hts gX6_takesOut_X6_lay rfl rfl rfl (by decide +kernel) ⟨Nat.le_of_ble_eq_true rfl, Nat.le_of_ble_eq_true rfl⟩) hK hP hD hS hA rfl rfl rfl hl.1 rfl (Nat.le_of_ble_eq_true rfl) dX6_takesOut_124 ⟨Nat.zero_le _, Nat.zero_le _⟩ (fun H locs hP hD hS => ?_)
        refine lv_iinc (v := (x3 + (1 : Int32))) (lv' := [(3, .int (x3 + (1 : Int32))), (0, .ref (z 0)), (1, .int x1), (4, .int x4)]) hx hb dX6_takesOut_127 hl (k := 2) rfl rfl (by decide) rfl (fun ls hl => ?_)
        refine lv_goto (tgt := 146) hx hb dX6_takesOut_130 (by decide) ?_
        have e0 := Option.some.inj hf
        subst e0
        exact hj H locs ls hP hD hS (lv_sub hl [1, 2, 0] rfl)
set_option maxRecDepth 100000 in
set_option maxHeartbeats 4000000 in
theorem w_X6_takesOut_47 {p : Program} {l : Launch} {e : Env} {s : State} {m : MethodId} {args : Array Value} {below : List Frame} {meth : Method} {c : Code} {Q : State → Prop} {D : va_G} {cI cN : ClassId} {A : Nat → Prop} {z : Nat → Nat} (S : CallFix p m c cX6_takesOut 5 s args wsX6_takesOut RX6) (hK : KN D cI cN s) (hA : ∀ q : Nat, s.heap.size ≤ q → A q) {x1 : Int32} {x2 : Int32} {r0 : Int32} {g' : OS} (hret : ∀ (H : Heap) (locs : List Loc) (ls : Array Slot) (pc : Nat), decode cX6_takesOut pc = .ok (.ireturn, 1) → narrow .int (.int r0) = .int r0 → va_P D vwCl (mdW cI z g') H → va_D A (mdW cI z g') → va_S A s.heap H locs → W p l e (headSpec wsX6_takesOut rm_X6_takesOut).room s m args below meth c H locs 0 0 Q (F0 m pc ls [.int r0])) : ∀ (k : Nat) (x3 : Int32) (g : OS), fX6_takesOut_47 x1 x2 k x3 g = some (r0, g') → ∀ (H : Heap) (locs : List Loc) (ls : Array Slot), va_P D vwCl (mdW cI z g) H → va_D A (mdW cI z g) → va_S A s.heap H locs → lv_has ls 5 [(0, .ref (z 0)), (1, .int x1), (2, .int x2), (3, .int x3)] → W p l e (headSpec wsX6_takesOut rm_X6_takesOut).room s m args below meth c H locs 0 0 Q (F0 m 47 ls []) := by
  obtain ⟨hx, hb, hml, hown, hts⟩ := id S
  have inX6 := in_X6_takesOut_X6
  intro k
  induction k with
  | zero => intro x3 g hf; rw [fX6_takesOut_47_z] at hf; cases hf
  | succ k ih =>
    intro x3 g hf H locs ls hP hD hS hl
    rw [fX6_takesOut_47_s] at hf
    refine lv_iload_n hx hb dX6_takesOut_47 rfl (lv_at hl 3 rfl) ?_
    refine lv_aload_n hx hb dX6_takesOut_48 rfl (lv_at hl 0 rfl) ?_
    refine lv_iload_n hx hb dX6_takesOut_49 rfl (lv_at hl 1 rfl) ?_
    obtain ⟨v8, hv8, hf⟩ := it_b hf
    refine cQi (As := [.int x1]) (rest := [.int x3]) (q0 := 0) (ci := 6) S (c_X6_lines l D cI cN z _ g x1 v8 hv8) (cwV 1 hts gX6_takesOut_X6_lines rfl rfl rfl (by decide +kernel) ⟨Nat.le_of_ble_eq_true rfl, Nat.le_of_ble_eq_true rfl⟩) hK hP hS hA hP rfl rfl rfl hl.1 rfl (Nat.le_of_ble_eq_true rfl) dX6_takesOut_50 ⟨Nat.zero_le _, Nat.zero_le _⟩ (fun H locs hP hS => ?_)
    refine lv_icmp_ge (tgt := 91) hx hb dX6_takesOut_53 (by decide) (fun c9 => ?_) (fun c9 => ?_)
    · have hf := it_t hf c9
      refine lv_iconst (v := (0 : Int32)) hx hb dX6_takesOut_91 kc_iconst_0 ?_
      refine lv_istore_n (lv' := [(3, .int (0 : Int32)), (0, .ref (z 0)), (1, .int x1), (2, .int x2)]) hx hb dX6_takesOut_92 rfl hl (by decide) rfl (fun ls hl => ?_)
      refine lv_aload_n hx hb dX6_takesOut_93 rfl (lv_at hl 1 rfl) ?_
      refine lv_iload_n hx hb dX6_takesOut_94 rfl (lv_at hl 2 rfl) ?_
      obtain ⟨v10, hv10, hf⟩ := it_b hf
      refine cQi (As := [.int x1]) (rest := []) (q0 := 0) (ci := 6) S (c_X6_nextOff l D cI cN z _ g x1 v10 hv10) (cwV 1 hts gX6_takesOut_X6_nextOff rfl rfl rfl (by decide +kernel) ⟨Nat.le_of_ble_eq_true rfl, Nat.le_of_ble_eq_true rfl⟩) hK hP hS hA hP rfl rfl rfl hl.1 rfl (Nat.le_of_ble_eq_true rfl) dX6_takesOut_95 ⟨Nat.zero_le _, Nat.zero_le _⟩ (fun H locs hP hS => ?_)
      refine lv_istore (lv' := [(4, .int v10), (3, .int (0 : Int32)), (0, .ref (z 0)), (1, .int x1), (2, .int x2)]) hx hb dX6_takesOut_98 hl (by decide) rfl (fun ls hl => ?_)
      exact w_X6_takesOut_100 S hK hA hret _ _ _ _ hf H locs ls hP hD hS (lv_sub hl [2, 3, 1, 0] rfl)
    · have hf := it_f hf c9
      refine lv_aload_n hx hb dX6_takesOut_56 rfl (lv_at hl 0 rfl) ?_
      refine lv_iload_n hx hb dX6_takesOut_57 rfl (lv_at hl 1 rfl) ?_
      refine lv_iload_n hx hb dX6_takesOut_58 rfl (lv_at hl 3 rfl) ?_
      refine lv_iconst (v := (2 : Int32)) hx hb dX6_takesOut_59 kc_iconst_2 ?_
      refine lv_aload_n hx hb dX6_takesOut_60 rfl (lv_at hl 0 rfl) ?_
      refine lv_iload_n hx hb dX6_takesOut_61 rfl (lv_at hl 1 rfl) ?_
      refine lv_iload_n hx hb dX6_takesOut_62 rfl (lv_at hl 3 rfl) ?_
      refine lv_iconst (v := (2 : Int32)) hx hb dX6_takesOut_63 kc_iconst_2 ?_
      obtain ⟨v23, hv23, hf⟩ := it_b hf
      refine cQi (As := [.int x1, .int x3, .int (2 : Int32)]) (rest := [.int (2 : Int32), .int x3, .int x1, .ref (z 0)]) (q0 := 0) (ci := 6) S (c_X6_of l D cI cN z _ g x1 x3 (2 : Int32) v23 hv23) (cwV 3 hts gX6_takesOut_X6_of rfl rfl rfl (by decide +kernel) ⟨Nat.le_of_ble_eq_true rfl, Nat.le_of_ble_eq_true rfl⟩) hK hP hS hA hP rfl rfl rfl hl.1 rfl (Nat.le_of_ble_eq_true rfl) dX6_takesOut_64 ⟨Nat.zero_le _, Nat.zero_le _⟩ (fun H locs hP hS => ?_)
      refine lv_iload_n hx hb dX6_takesOut_67 rfl (lv_at hl 2 rfl) ?_
      obtain ⟨v26, hg, hf⟩ := it_b hf
      have hj : ∀ (H : Heap) (locs : List Loc) (ls : Array Slot), va_P D vwCl (mdW cI z g) H → va_D A (mdW cI z g) → va_S A s.heap H locs → lv_has ls 5 [(0, .ref (z 0)), (1, .int x1), (2, .int x2), (3, .int x3)] → W p l e (headSpec wsX6_takesOut rm_X6_takesOut).room s m args below meth c H locs 0 0 Q (F0 m 82 ls [.int v26, .int (2 : Int32), .int x3, .int x1, .ref (z 0)]) := by
        intro H locs ls hP hD hS hl
        obtain ⟨v27, hv27, hf⟩ := it_b hf
        refine cBv (As := [.int x1, .int x3, .int (2 : Int32), .int v26]) (rest := []) (q0 := 0) (ci := 6) [(true, (mdW cI z g), (mdW cI z v27))] ⟨ad_mod, (fun h => Bool.noConfusion h), trivial⟩ S (c_X6_lay l D cI cN z _ g x1 x3 (2 : Int32) v26 v27 hv27) (cwV 4 hts gX6_takesOut_X6_lay rfl rfl rfl (by decide +kernel) ⟨Nat.le_of_ble_eq_true rfl, Nat.le_of_ble_eq_true rfl⟩) hK hP hD hS hA rfl rfl rfl hl.1 rfl (Nat.le_of_ble_eq_true rfl) dX6_takesOut_82 ⟨Nat.zero_le _, Nat.zero_le _⟩ (fun H locs hP hD hS => ?_)
        refine lv_iinc (v := (x3 + (1 : Int32))) (lv' := [(3, .int (x3 + (1 : Int32))), (0, .ref (z 0)), (1, .int x1), (2, .int x2)]) hx hb dX6_takesOut_85 hl (k := 3) rfl rfl (by decide) rfl (fun ls hl => ?_)
        refine lv_goto (tgt := 47) hx hb dX6_takesOut_88 (by decide) ?_
        exact ih _ _ hf H locs ls hP hD hS (lv_sub hl [1, 2, 3, 0] rfl)
      have hf := hg
      refine lv_icmp_ne (tgt := 75) hx hb dX6_takesOut_68 (by decide) (fun c24 => ?_) (fun c24 => ?_)
      · have hf := it_f hf c24
        refine lv_aload_n hx hb dX6_takesOut_75 rfl (lv_at hl 0 rfl) ?_
        refine lv_iload_n hx hb dX6_takesOut_76 rfl (lv_at hl 1 rfl) ?_
        refine lv_iload_n hx hb dX6_takesOut_77 rfl (lv_at hl 3 rfl) ?_
        refine lv_iconst (v := (2 : Int32)) hx hb dX6_takesOut_78 kc_iconst_2 ?_
        obtain ⟨v25, hv25, hf⟩ := it_b hf
        refine cQi (As := [.int x1, .int x3, .int (2 : Int32)]) (rest := [.int (2 : Int32), .int x3, .int x1, .ref (z 0)]) (q0 := 0) (ci := 6) S (c_X6_of l D cI cN z _ g x1 x3 (2 : Int32) v25 hv25) (cwV 3 hts gX6_takesOut_X6_of rfl rfl rfl (by decide +kernel) ⟨Nat.le_of_ble_eq_true rfl, Nat.le_of_ble_eq_true rfl⟩) hK hP hS hA hP rfl rfl rfl hl.1 rfl (Nat.le_of_ble_eq_true rfl) dX6_takesOut_79 ⟨Nat.zero_le _, Nat.zero_le _⟩ (fun H locs hP hS => ?_)
        have e0 := Option.some.inj hf
        subst e0
        exact hj H locs ls hP hD hS (lv_sub hl [0, 1, 2, 3] rfl)
      · have hf := it_t hf c24
        refine lv_iconst (v := (-1 : Int32)) hx hb dX6_takesOut_71 kc_iconst_m1 ?_
        refine lv_goto (tgt := 82) hx hb dX6_takesOut_72 (by decide) ?_
        have e0 := Option.some.inj hf
        subst e0
        exact hj H locs ls hP hD hS (lv_sub hl [0, 1, 2, 3] rfl)
set_option maxRecDepth 100000 in
set_option maxHeartbeats 4000000 in
theorem w_X6_takesOut_0 {p : Program} {l : Launch} {e : Env} {s : State} {m : MethodId} {args : Array Value} {below : List Frame} {meth : Method} {c : Code} {Q : State → Prop} {D : va_G} {cI cN : ClassId} {A : Nat → Prop} {z : Nat → Nat} (S : CallFix p m c cX6_takesOut 5 s args wsX6_takesOut RX6) (hK : KN D cI cN s) (hA : ∀ q : Nat, s.heap.size ≤ q → A q) {g : OS} {x1 : Int32} {x2 : Int32} {r0 : Int32} {g' : OS} (hret : ∀ (H : Heap) (locs : List Loc) (ls : Array Slot) (pc : Nat), decode cX6_takesOut pc = .ok (.ireturn, 1) → narrow .int (.int r0) = .int r0 → va_P D vwCl (mdW cI z g') H → va_D A (mdW cI z g') → va_S A s.heap H locs → W p l e (headSpec wsX6_takesOut rm_X6_takesOut).room s m args below meth c H locs 0 0 Q (F0 m pc ls [.int r0])) (hf : fX6_takesOut g x1 x2 = some (r0, g')) (H : Heap) (locs : List Loc) (ls : Array Slot) (hP : va_P D vwCl (mdW cI z g) H) (hD : va_D A (mdW cI z g)) (hS : va_S A s.heap H locs) (hl : lv_has ls 5 [(0, .ref (z 0)), (1, .int x1), (2, .int x2)]) : W p l e (headSpec wsX6_takesOut rm_X6_takesOut).room s m args below meth c H locs 0 0 Q (F0 m 0 ls []) := by
  obtain ⟨hx, hb, hml, hown, hts⟩ := id S
  have inX6 := in_X6_takesOut_X6
  unfold fX6_takesOut at hf
  refine lv_aload_n hx hb dX6_takesOut_0 rfl (lv_at hl 0 rfl) ?_
  refine lv_iload_n hx hb dX6_takesOut_1 rfl (lv_at hl 1 rfl) ?_
  refine lv_iload_n hx hb dX6_takesOut_2 rfl (lv_at hl 2 rfl) ?_
  obtain ⟨v1, hv1, hf⟩ := it_b hf
  refine cQi (As := [.int x1, .int x2]) (rest := []) (q0 := 0) (ci := 6) S (c_X6_isMiddle l D cI cN z _ g x1 x2 v1 hv1) (cwV 2 hts gX6_takesOut_X6_isMiddle rfl rfl rfl (by decide +kernel) ⟨Nat.le_of_ble_eq_true rfl, Nat.le_of_ble_eq_true rfl⟩) hK hP hS hA hP rfl rfl rfl hl.1 rfl (Nat.le_of_ble_eq_true rfl) dX6_takesOut_3 ⟨Nat.zero_le _, Nat.zero_le _⟩ (fun H locs hP hS => ?_)
  refine lv_if_ne (tgt := 11) hx hb dX6_takesOut_6 (by decide) (fun c2 => ?_) (fun c2 => ?_)
  · have hf := it_f hf c2
    refine lv_aload_n hx hb dX6_takesOut_11 rfl (lv_at hl 0 rfl) ?_
    refine va_get (D := D) (ci := 6) (v := .ref (z 1)) (C := RX6) (T := TX6) (N := 12) hx hb hts inX6 hown hK.1 hP 0 rfl rfl 0 (by decide) (hts (.fieldLink RX6 7 "ClosExchangeModel" "s" "[I") (List.mem_of_getElem? (i := 1) rfl)) (fun _ h9 => h9) rfl dX6_takesOut_12 ?_
    refine lv_iload_n hx hb dX6_takesOut_15 rfl (lv_at hl 1 rfl) ?_
    refine lv_bipush (v := (9 : Int32)) hx hb dX6_takesOut_16 kc_bipush_9 ?_
    refine lv_iadd hx hb dX6_takesOut_18 ?_
    obtain ⟨c3, hf⟩ := it_g hf
    refine va_iald hx hb hK.1 hP 1 0 rfl rfl (inb_in c3) dX6_takesOut_19 ?_
    refine lv_iload_n hx hb dX6_takesOut_20 rfl (lv_at hl 2 rfl) ?_
    refine cSi (As := [.int ((g.2 0) (x1 + (9 : Int32)).toNatClampNeg), .int x2]) (rest := []) S (c_X6_has l D cI cN _ ((g.2 0) (x1 + (9 : Int32)).toNatClampNeg) x2 (fX6_has ((g.2 0) (x1 + (9 : Int32)).toNatClampNeg) x2) rfl) (va_cwS 2 hts gX6_takesOut_X6_has rfl rfl rfl (by decide +kernel) ⟨Nat.le_of_ble_eq_true rfl, Nat.le_of_ble_eq_true rfl⟩) hK hP hS hA [] rfl rfl hl.1 rfl (Nat.le_of_ble_eq_true rfl) dX6_takesOut_21 ⟨Nat.zero_le _, Nat.zero_le _⟩ (fun H locs hP hS => ?_)
    refine lv_if_ne (tgt := 30) hx hb dX6_takesOut_24 (by decide) (fun c4 => ?_) (fun c4 => ?_)
    · have hf := it_f hf c4
      refine lv_aload_n hx hb dX6_takesOut_30 rfl (lv_at hl 0 rfl) ?_
      refine va_get (D := D) (ci := 6) (v := .ref (z 1)) (C := RX6) (T := TX6) (N := 12) hx hb hts inX6 hown hK.1 hP 0 rfl rfl 0 (by decide) (hts (.fieldLink RX6 7 "ClosExchangeModel" "s" "[I") (List.mem_of_getElem? (i := 1) rfl)) (fun _ h9 => h9) rfl dX6_takesOut_31 ?_
      refine lv_iload_n hx hb dX6_takesOut_34 rfl (lv_at hl 1 rfl) ?_
      refine lv_bipush (v := (9 : Int32)) hx hb dX6_takesOut_35 kc_bipush_9 ?_
      refine lv_iadd hx hb dX6_takesOut_37 ?_
      refine lv_dup2_11 hx hb dX6_takesOut_38 rfl rfl ?_
      obtain ⟨c5, hf⟩ := it_g hf
      refine va_iald hx hb hK.1 hP 1 0 rfl rfl (inb_in c5) dX6_takesOut_39 ?_
      refine lv_iconst (v := (1 : Int32)) hx hb dX6_takesOut_40 kc_iconst_1 ?_
      refine lv_iload_n hx hb dX6_takesOut_41 rfl (lv_at hl 2 rfl) ?_
      refine lv_ishl hx hb dX6_takesOut_42 ?_
      refine lv_isub hx hb dX6_takesOut_43 ?_
      obtain ⟨c6, hf⟩ := it_g hf
      obtain ⟨w7, hw7, hf⟩ := it_j hf
      refine giastw (wf := (mdW cI z (setR g 0 w7))) hw7 hx hb hK.1 hP hD hS 1 0 rfl rfl (inb_in c6) dX6_takesOut_44 rfl (fun H locs hP hD hS => ?_)
      refine lv_iconst (v := (0 : Int32)) hx hb dX6_takesOut_45 kc_iconst_0 ?_
      refine lv_istore_n (lv' := [(3, .int (0 : Int32)), (0, .ref (z 0)), (1, .int x1), (2, .int x2)]) hx hb dX6_takesOut_46 rfl hl (by decide) rfl (fun ls hl => ?_)
      exact w_X6_takesOut_47 S hK hA hret _ _ _ hf H locs ls hP hD hS (lv_sub hl [1, 2, 3, 0] rfl)
    · have hf := it_t hf c4
      refine lv_bipush (v := (-6 : Int32)) hx hb dX6_takesOut_27 kc_bipush_m6 ?_
      have e0 : (-6 : Int32) = r0 := congrArg (fun z => z.1) (Option.some.inj hf)
      have e1 : g = g' := congrArg (fun z => z.2) (Option.some.inj hf)
      subst e0
      subst e1
      exact hret H locs ls _ dX6_takesOut_29 rfl hP hD hS
  · have hf := it_t hf c2
    refine lv_iconst (v := (-1 : Int32)) hx hb dX6_takesOut_9 kc_iconst_m1 ?_
    have e0 : (-1 : Int32) = r0 := congrArg (fun z => z.1) (Option.some.inj hf)
    have e1 : g = g' := congrArg (fun z => z.2) (Option.some.inj hf)
    subst e0
    subst e1
    exact hret H locs ls _ dX6_takesOut_10 rfl hP hD hS
set_option maxRecDepth 100000 in
theorem c_X6_takesOut (l : Launch) (D : va_G) (cI cN : ClassId) (z : Nat → Nat) (sz : Nat) (g : OS) (x1 : Int32) (x2 : Int32) (r0 : Int32) (g' : OS) (hf : fX6_takesOut g x1 x2 = some (r0, g')) : CtI l D cI cN yX6_takesOut wsX6_takesOut rm_X6_takesOut 0 0 [.ref (z 0), .int x1, .int x2] (mdW cI z g) sz r0 (mdW cI z g') := by
  refine mW (cc := cX6_takesOut) (maxL := 5) (ty := .int) (by decide) rfl rfl (Nat.le_of_ble_eq_true rfl) ?_
  intro p e s m args below meth c Q A S hK hP hD hS hA hret ls hl
  exact w_X6_takesOut_0 S hK hA hret hf _ _ _ hP hD hS (lv_sub (show lv_has ls 5 [(0, .ref (z 0)), (1, .int x1), (2, .int x2)] from hl) [0, 1, 2] rfl)
abbrev rm_X6_putsBack : Room := { frames := 2, cells := 0, slots := 0, locals := 44 }
theorem in_X6_putsBack_X6 : ∀ w ∈ u_ws RX6 TX6 12, w ∈ wsX6_putsBack := fun w h => List.mem_cons_of_mem _ (List.mem_append_right _ h)
set_option maxRecDepth 100000 in
set_option maxHeartbeats 4000000 in
theorem w_X6_putsBack_0 {p : Program} {l : Launch} {e : Env} {s : State} {m : MethodId} {args : Array Value} {below : List Frame} {meth : Method} {c : Code} {Q : State → Prop} {D : va_G} {cI cN : ClassId} {A : Nat → Prop} {z : Nat → Nat} (S : CallFix p m c cX6_putsBack 3 s args wsX6_putsBack RX6) (hK : KN D cI cN s) (hA : ∀ q : Nat, s.heap.size ≤ q → A q) {g : OS} {x1 : Int32} {x2 : Int32} {r0 : Int32} {g' : OS} (hret : ∀ (H : Heap) (locs : List Loc) (ls : Array Slot) (pc : Nat), decode cX6_putsBack pc = .ok (.ireturn, 1) → narrow .int (.int r0) = .int r0 → va_P D vwCl (mdW cI z g') H → va_D A (mdW cI z g') → va_S A s.heap H locs → W p l e (headSpec wsX6_putsBack rm_X6_putsBack).room s m args below meth c H locs 0 0 Q (F0 m pc ls [.int r0])) (hf : fX6_putsBack g x1 x2 = some (r0, g')) (H : Heap) (locs : List Loc) (ls : Array Slot) (hP : va_P D vwCl (mdW cI z g) H) (hD : va_D A (mdW cI z g)) (hS : va_S A s.heap H locs) (hl : lv_has ls 3 [(0, .ref (z 0)), (1, .int x1), (2, .int x2)]) : W p l e (headSpec wsX6_putsBack rm_X6_putsBack).room s m args below meth c H locs 0 0 Q (F0 m 0 ls []) := by
  obtain ⟨hx, hb, hml, hown, hts⟩ := id S
  have inX6 := in_X6_putsBack_X6
  unfold fX6_putsBack at hf
  refine lv_aload_n hx hb dX6_putsBack_0 rfl (lv_at hl 0 rfl) ?_
  refine lv_iload_n hx hb dX6_putsBack_1 rfl (lv_at hl 1 rfl) ?_
  refine lv_iload_n hx hb dX6_putsBack_2 rfl (lv_at hl 2 rfl) ?_
  obtain ⟨v1, hv1, hf⟩ := it_b hf
  refine cQi (As := [.int x1, .int x2]) (rest := []) (q0 := 0) (ci := 6) S (c_X6_isMiddle l D cI cN z _ g x1 x2 v1 hv1) (cwV 2 hts gX6_putsBack_X6_isMiddle rfl rfl rfl (by decide +kernel) ⟨Nat.le_of_ble_eq_true rfl, Nat.le_of_ble_eq_true rfl⟩) hK hP hS hA hP rfl rfl rfl hl.1 rfl (Nat.le_of_ble_eq_true rfl) dX6_putsBack_3 ⟨Nat.zero_le _, Nat.zero_le _⟩ (fun H locs hP hS => ?_)
  refine lv_if_ne (tgt := 11) hx hb dX6_putsBack_6 (by decide) (fun c2 => ?_) (fun c2 => ?_)
  · have hf := it_f hf c2
    refine lv_aload_n hx hb dX6_putsBack_11 rfl (lv_at hl 0 rfl) ?_
    refine va_get (D := D) (ci := 6) (v := .ref (z 1)) (C := RX6) (T := TX6) (N := 12) hx hb hts inX6 hown hK.1 hP 0 rfl rfl 0 (by decide) (hts (.fieldLink RX6 7 "ClosExchangeModel" "s" "[I") (List.mem_of_getElem? (i := 1) rfl)) (fun _ h9 => h9) rfl dX6_putsBack_12 ?_
    refine lv_iload_n hx hb dX6_putsBack_15 rfl (lv_at hl 1 rfl) ?_
    refine lv_bipush (v := (9 : Int32)) hx hb dX6_putsBack_16 kc_bipush_9 ?_
    refine lv_iadd hx hb dX6_putsBack_18 ?_
    obtain ⟨c3, hf⟩ := it_g hf
    refine va_iald hx hb hK.1 hP 1 0 rfl rfl (inb_in c3) dX6_putsBack_19 ?_
    refine lv_iload_n hx hb dX6_putsBack_20 rfl (lv_at hl 2 rfl) ?_
    refine cSi (As := [.int ((g.2 0) (x1 + (9 : Int32)).toNatClampNeg), .int x2]) (rest := []) S (c_X6_has l D cI cN _ ((g.2 0) (x1 + (9 : Int32)).toNatClampNeg) x2 (fX6_has ((g.2 0) (x1 + (9 : Int32)).toNatClampNeg) x2) rfl) (va_cwS 2 hts gX6_putsBack_X6_has rfl rfl rfl (by decide +kernel) ⟨Nat.le_of_ble_eq_true rfl, Nat.le_of_ble_eq_true rfl⟩) hK hP hS hA [] rfl rfl hl.1 rfl (Nat.le_of_ble_eq_true rfl) dX6_putsBack_21 ⟨Nat.zero_le _, Nat.zero_le _⟩ (fun H locs hP hS => ?_)
    refine lv_if_eq (tgt := 30) hx hb dX6_putsBack_24 (by decide) (fun c4 => ?_) (fun c4 => ?_)
    · have hf := it_t hf c4
      refine lv_aload_n hx hb dX6_putsBack_30 rfl (lv_at hl 0 rfl) ?_
      refine va_get (D := D) (ci := 6) (v := .ref (z 1)) (C := RX6) (T := TX6) (N := 12) hx hb hts inX6 hown hK.1 hP 0 rfl rfl 0 (by decide) (hts (.fieldLink RX6 7 "ClosExchangeModel" "s" "[I") (List.mem_of_getElem? (i := 1) rfl)) (fun _ h9 => h9) rfl dX6_putsBack_31 ?_
      refine lv_iload_n hx hb dX6_putsBack_34 rfl (lv_at hl 1 rfl) ?_
      refine lv_bipush (v := (9 : Int32)) hx hb dX6_putsBack_35 kc_bipush_9 ?_
      refine lv_iadd hx hb dX6_putsBack_37 ?_
      refine lv_dup2_11 hx hb dX6_putsBack_38 rfl rfl ?_
      obtain ⟨c5, hf⟩ := it_g hf
      refine va_iald hx hb hK.1 hP 1 0 rfl rfl (inb_in c5) dX6_putsBack_39 ?_
      refine lv_iconst (v := (1 : Int32)) hx hb dX6_putsBack_40 kc_iconst_1 ?_
      refine lv_iload_n hx hb dX6_putsBack_41 rfl (lv_at hl 2 rfl) ?_
      refine lv_ishl hx hb dX6_putsBack_42 ?_
      refine lv_iadd hx hb dX6_putsBack_43 ?_
      obtain ⟨c6, hf⟩ := it_g hf
      obtain ⟨w7, hw7, hf⟩ := it_j hf
      refine giastw (wf := (mdW cI z (setR g 0 w7))) hw7 hx hb hK.1 hP hD hS 1 0 rfl rfl (inb_in c6) dX6_putsBack_44 rfl (fun H locs hP hD hS => ?_)
      refine lv_aload_n hx hb dX6_putsBack_45 rfl (lv_at hl 0 rfl) ?_
      refine va_get (D := D) (ci := 6) (v := .ref (z 1)) (C := RX6) (T := TX6) (N := 12) hx hb hts inX6 hown hK.1 hP 0 rfl rfl 0 (by decide) (hts (.fieldLink RX6 7 "ClosExchangeModel" "s" "[I") (List.mem_of_getElem? (i := 1) rfl)) (fun _ h9 => h9) rfl dX6_putsBack_46 ?_
      refine lv_iload_n hx hb dX6_putsBack_49 rfl (lv_at hl 1 rfl) ?_
      refine lv_bipush (v := (9 : Int32)) hx hb dX6_putsBack_50 kc_bipush_9 ?_
      refine lv_iadd hx hb dX6_putsBack_52 ?_
      obtain ⟨c8, hf⟩ := it_g hf
      refine va_iald hx hb hK.1 hP 1 0 rfl rfl (inb_in c8) dX6_putsBack_53 ?_
      obtain ⟨v9, hv9, hf⟩ := it_b hf
      refine cSi (As := [.int (w7 (x1 + (9 : Int32)).toNatClampNeg)]) (rest := []) S (c_X6_bits l D cI cN _ (w7 (x1 + (9 : Int32)).toNatClampNeg) v9 hv9) (va_cwS 1 hts gX6_putsBack_X6_bits rfl rfl rfl (by decide +kernel) ⟨Nat.le_of_ble_eq_true rfl, Nat.le_of_ble_eq_true rfl⟩) hK hP hS hA [] rfl rfl hl.1 rfl (Nat.le_of_ble_eq_true rfl) dX6_putsBack_54 ⟨Nat.zero_le _, Nat.zero_le _⟩ (fun H locs hP hS => ?_)
      have e0 : v9 = r0 := congrArg (fun z => z.1) (Option.some.inj hf)
      have e1 : (setR g 0 w7) = g' := congrArg (fun z => z.2) (Option.some.inj hf)
      subst e0
      subst e1
      exact hret H locs ls _ dX6_putsBack_57 rfl hP hD hS
    · have hf := it_f hf c4
      refine lv_bipush (v := (-6 : Int32)) hx hb dX6_putsBack_27 kc_bipush_m6 ?_
      have e0 : (-6 : Int32) = r0 := congrArg (fun z => z.1) (Option.some.inj hf)
      have e1 : g = g' := congrArg (fun z => z.2) (Option.some.inj hf)
      subst e0
      subst e1
      exact hret H locs ls _ dX6_putsBack_29 rfl hP hD hS
  · have hf := it_t hf c2
    refine lv_iconst (v := (-1 : Int32)) hx hb dX6_putsBack_9 kc_iconst_m1 ?_
    have e0 : (-1 : Int32) = r0 := congrArg (fun z => z.1) (Option.some.inj hf)
    have e1 : g = g' := congrArg (fun z => z.2) (Option.some.inj hf)
    subst e0
    subst e1
    exact hret H locs ls _ dX6_putsBack_10 rfl hP hD hS
set_option maxRecDepth 100000 in
theorem c_X6_putsBack (l : Launch) (D : va_G) (cI cN : ClassId) (z : Nat → Nat) (sz : Nat) (g : OS) (x1 : Int32) (x2 : Int32) (r0 : Int32) (g' : OS) (hf : fX6_putsBack g x1 x2 = some (r0, g')) : CtI l D cI cN yX6_putsBack wsX6_putsBack rm_X6_putsBack 0 0 [.ref (z 0), .int x1, .int x2] (mdW cI z g) sz r0 (mdW cI z g') := by
  refine mW (cc := cX6_putsBack) (maxL := 3) (ty := .int) (by decide) rfl rfl (Nat.le_of_ble_eq_true rfl) ?_
  intro p e s m args below meth c Q A S hK hP hD hS hA hret ls hl
  exact w_X6_putsBack_0 S hK hA hret hf _ _ _ hP hD hS (lv_sub (show lv_has ls 3 [(0, .ref (z 0)), (1, .int x1), (2, .int x2)] from hl) [0, 1, 2] rfl)
abbrev rm_X6_least : Room := { frames := 1, cells := 0, slots := 0, locals := 23 }
theorem in_X6_least_X6 : ∀ w ∈ u_ws RX6 TX6 12, w ∈ wsX6_least := fun w h => List.mem_cons_of_mem _ (List.mem_append_right _ h)
set_option maxRecDepth 100000 in
set_option maxHeartbeats 4000000 in
theorem w_X6_least_25 {p : Program} {l : Launch} {e : Env} {s : State} {m : MethodId} {args : Array Value} {below : List Frame} {meth : Method} {c : Code} {Q : State → Prop} {D : va_G} {cI cN : ClassId} {z : Nat → Nat} (S : CallFix p m c cX6_least 8 s args wsX6_least RX6) (hK : KN D cI cN s) {g : OS} {x1 : Int32} {x2 : Int32} {x3 : Int32} : ∀ (k : Nat) (x4 : Int32) (x5 : Int32) (x6 : Int32) (out : Int32 × Int32), fX6_least_25 g x1 x2 x3 k x4 x5 x6 = some out → ∀ (H : Heap) (locs : List Loc) (ls : Array Slot), va_P D vwCl (mdW cI z g) H → va_S (nwA s.heap.size) s.heap H locs → lv_has ls 8 [(0, .ref (z 0)), (1, .int x1), (2, .int x2), (3, .int x3), (4, .int x4), (5, .int x5), (6, .int x6)] → (∀ (H : Heap) (locs : List Loc) (ls : Array Slot), va_P D vwCl (mdW cI z g) H → va_S (nwA s.heap.size) s.heap H locs → lv_has ls 8 [(0, .ref (z 0)), (1, .int x1), (2, .int x2), (3, .int x3), (4, .int out.1), (5, .int out.2)] → W p l e (headSpec wsX6_least rm_X6_least).room s m args below meth c H locs 0 0 Q (F0 m 126 ls [])) → W p l e (headSpec wsX6_least rm_X6_least).room s m args below meth c H locs 0 0 Q (F0 m 25 ls []) := by
  obtain ⟨hx, hb, hml, hown, hts⟩ := id S
  have inX6 := in_X6_least_X6
  have hA : ∀ q : Nat, s.heap.size ≤ q → nwA s.heap.size q := fun _ h => h
  intro k
  induction k with
  | zero => intro x4 x5 x6 out hf; rw [fX6_least_25_z] at hf; cases hf
  | succ k ih =>
    intro x4 x5 x6 out hf H locs ls hP hS hl kx
    rw [fX6_least_25_s] at hf
    refine lv_iload hx hb dX6_least_25 (lv_at hl 6 rfl) ?_
    refine lv_aload_n hx hb dX6_least_27 rfl (lv_at hl 0 rfl) ?_
    refine lv_iload_n hx hb dX6_least_28 rfl (lv_at hl 1 rfl) ?_
    obtain ⟨v3, hv3, hf⟩ := it_b hf
    refine cQi (As := [.int x1]) (rest := [.int x6]) (q0 := 0) (ci := 6) S (c_X6_lines l D cI cN z _ g x1 v3 hv3) (cwV 1 hts gX6_least_X6_lines rfl rfl rfl (by decide +kernel) ⟨Nat.le_of_ble_eq_true rfl, Nat.le_of_ble_eq_true rfl⟩) hK hP hS hA hP rfl rfl rfl hl.1 rfl (Nat.le_of_ble_eq_true rfl) dX6_least_29 ⟨Nat.zero_le _, Nat.zero_le _⟩ (fun H locs hP hS => ?_)
    refine lv_icmp_ge (tgt := 126) hx hb dX6_least_32 (by decide) (fun c4 => ?_) (fun c4 => ?_)
    · have hf := it_t hf c4
      have e0 := Option.some.inj hf
      subst e0
      exact kx H locs ls hP hS (lv_sub hl [0, 1, 2, 3, 4, 5] rfl)
    · have hf := it_f hf c4
      refine lv_aload_n hx hb dX6_least_35 rfl (lv_at hl 0 rfl) ?_
      refine lv_iload_n hx hb dX6_least_36 rfl (lv_at hl 1 rfl) ?_
      refine lv_iload hx hb dX6_least_37 (lv_at hl 6 rfl) ?_
      refine lv_iconst (v := (0 : Int32)) hx hb dX6_least_39 kc_iconst_0 ?_
      obtain ⟨v5, hv5, hf⟩ := it_b hf
      refine cQi (As := [.int x1, .int x6, .int (0 : Int32)]) (rest := []) (q0 := 0) (ci := 6) S (c_X6_of l D cI cN z _ g x1 x6 (0 : Int32) v5 hv5) (cwV 3 hts gX6_least_X6_of rfl rfl rfl (by decide +kernel) ⟨Nat.le_of_ble_eq_true rfl, Nat.le_of_ble_eq_true rfl⟩) hK hP hS hA hP rfl rfl rfl hl.1 rfl (Nat.le_of_ble_eq_true rfl) dX6_least_40 ⟨Nat.zero_le _, Nat.zero_le _⟩ (fun H locs hP hS => ?_)
      refine lv_iconst (v := (-1 : Int32)) hx hb dX6_least_43 kc_iconst_m1 ?_
      obtain ⟨v7, hg, hf⟩ := it_j hf
      have hj : ∀ (H : Heap) (locs : List Loc) (ls : Array Slot), va_P D vwCl (mdW cI z g) H → va_S (nwA s.heap.size) s.heap H locs → lv_has ls 8 [(0, .ref (z 0)), (1, .int x1), (2, .int x2), (3, .int x3), (4, .int x4), (5, .int x5), (6, .int x6)] → W p l e (headSpec wsX6_least rm_X6_least).room s m args below meth c H locs 0 0 Q (F0 m 52 ls [.int v7]) := by
        intro H locs ls hP hS hl
        refine lv_istore (lv' := [(7, .int v7), (0, .ref (z 0)), (1, .int x1), (2, .int x2), (3, .int x3), (4, .int x4), (5, .int x5), (6, .int x6)]) hx hb dX6_least_52 hl (by decide) rfl (fun ls hl => ?_)
        refine lv_iload hx hb dX6_least_54 (lv_at hl 5 rfl) ?_
        refine lv_iload hx hb dX6_least_56 (lv_at hl 0 rfl) ?_
        obtain ⟨v12, hg, hf⟩ := it_b hf
        have hj : ∀ (H : Heap) (locs : List Loc) (ls : Array Slot), va_P D vwCl (mdW cI z g) H → va_S (nwA s.heap.size) s.heap H locs → lv_has ls 8 [(0, .ref (z 0)), (1, .int x1), (2, .int x2), (3, .int x3), (5, .int x5), (6, .int x6), (7, .int v7)] → W p l e (headSpec wsX6_least rm_X6_least).room s m args below meth c H locs 0 0 Q (F0 m 81 ls [.int v12, .int x4]) := by
          intro H locs ls hP hS hl
          refine lv_iadd hx hb dX6_least_81 ?_
          refine lv_istore (lv' := [(4, .int (x4 + v12)), (0, .ref (z 0)), (1, .int x1), (2, .int x2), (3, .int x3), (5, .int x5), (6, .int x6), (7, .int v7)]) hx hb dX6_least_82 hl (by decide) rfl (fun ls hl => ?_)
          refine lv_iload hx hb dX6_least_84 (lv_at hl 5 rfl) ?_
          refine lv_iload hx hb dX6_least_86 (lv_at hl 7 rfl) ?_
          refine lv_if_eq (tgt := 116) hx hb dX6_least_88 (by decide) (fun c13 => ?_) (fun c13 => ?_)
          · have hf := it_t hf c13
            refine lv_iconst (v := (0 : Int32)) hx hb dX6_least_116 kc_iconst_0 ?_
            refine lv_iadd hx hb dX6_least_117 ?_
            refine lv_istore (lv' := [(5, .int (x5 + (0 : Int32))), (4, .int (x4 + v12)), (0, .ref (z 0)), (1, .int x1), (2, .int x2), (3, .int x3), (6, .int x6), (7, .int v7)]) hx hb dX6_least_118 hl (by decide) rfl (fun ls hl => ?_)
            refine lv_iinc (v := (x6 + (1 : Int32))) (lv' := [(6, .int (x6 + (1 : Int32))), (5, .int (x5 + (0 : Int32))), (4, .int (x4 + v12)), (0, .ref (z 0)), (1, .int x1), (2, .int x2), (3, .int x3), (7, .int v7)]) hx hb dX6_least_120 hl (k := 6) rfl rfl (by decide) rfl (fun ls hl => ?_)
            refine lv_goto (tgt := 25) hx hb dX6_least_123 (by decide) ?_
            exact ih _ _ _ _ hf H locs ls hP hS (lv_sub hl [3, 4, 5, 6, 2, 1, 0] rfl) kx
          · have hf := it_f hf c13
            refine lv_aload_n hx hb dX6_least_91 rfl (lv_at hl 1 rfl) ?_
            refine lv_iload_n hx hb dX6_least_92 rfl (lv_at hl 2 rfl) ?_
            refine lv_iload hx hb dX6_least_93 (lv_at hl 6 rfl) ?_
            refine lv_iconst (v := (1 : Int32)) hx hb dX6_least_95 kc_iconst_1 ?_
            obtain ⟨v14, hv14, hf⟩ := it_b hf
            refine cQi (As := [.int x1, .int x6, .int (1 : Int32)]) (rest := [.int x5]) (q0 := 0) (ci := 6) S (c_X6_of l D cI cN z _ g x1 x6 (1 : Int32) v14 hv14) (cwV 3 hts gX6_least_X6_of rfl rfl rfl (by decide +kernel) ⟨Nat.le_of_ble_eq_true rfl, Nat.le_of_ble_eq_true rfl⟩) hK hP hS hA hP rfl rfl rfl hl.1 rfl (Nat.le_of_ble_eq_true rfl) dX6_least_96 ⟨Nat.zero_le _, Nat.zero_le _⟩ (fun H locs hP hS => ?_)
            refine lv_aload_n hx hb dX6_least_99 rfl (lv_at hl 1 rfl) ?_
            refine va_get (D := D) (ci := 6) (v := .ref (z 1)) (C := RX6) (T := TX6) (N := 12) hx hb hts inX6 hown hK.1 hP 0 rfl rfl 0 (by decide) (hts (.fieldLink RX6 7 "ClosExchangeModel" "s" "[I") (List.mem_of_getElem? (i := 1) rfl)) (fun _ h9 => h9) rfl dX6_least_100 ?_
            refine lv_iload_n hx hb dX6_least_103 rfl (lv_at hl 2 rfl) ?_
            refine lv_iconst (v := (1 : Int32)) hx hb dX6_least_104 kc_iconst_1 ?_
            refine lv_iadd hx hb dX6_least_105 ?_
            obtain ⟨c15, hf⟩ := it_g hf
            refine va_iald hx hb hK.1 hP 1 0 rfl rfl (inb_in c15) dX6_least_106 ?_
            obtain ⟨c16, hf⟩ := it_g hf
            refine lv_idiv hx hb dX6_least_107 c16 ?_
            refine lv_iload_n hx hb dX6_least_108 rfl (lv_at hl 4 rfl) ?_
            refine lv_icmp_ne (tgt := 116) hx hb dX6_least_109 (by decide) (fun c17 => ?_) (fun c17 => ?_)
            · have hf := it_f hf c17
              refine lv_iconst (v := (0 : Int32)) hx hb dX6_least_116 kc_iconst_0 ?_
              refine lv_iadd hx hb dX6_least_117 ?_
              refine lv_istore (lv' := [(5, .int (x5 + (0 : Int32))), (4, .int (x4 + v12)), (0, .ref (z 0)), (1, .int x1), (2, .int x2), (3, .int x3), (6, .int x6), (7, .int v7)]) hx hb dX6_least_118 hl (by decide) rfl (fun ls hl => ?_)
              refine lv_iinc (v := (x6 + (1 : Int32))) (lv' := [(6, .int (x6 + (1 : Int32))), (5, .int (x5 + (0 : Int32))), (4, .int (x4 + v12)), (0, .ref (z 0)), (1, .int x1), (2, .int x2), (3, .int x3), (7, .int v7)]) hx hb dX6_least_120 hl (k := 6) rfl rfl (by decide) rfl (fun ls hl => ?_)
              refine lv_goto (tgt := 25) hx hb dX6_least_123 (by decide) ?_
              exact ih _ _ _ _ hf H locs ls hP hS (lv_sub hl [3, 4, 5, 6, 2, 1, 0] rfl) kx
            · have hf := it_t hf c17
              refine lv_iconst (v := (1 : Int32)) hx hb dX6_least_112 kc_iconst_1 ?_
              refine lv_goto (tgt := 117) hx hb dX6_least_113 (by decide) ?_
              refine lv_iadd hx hb dX6_least_117 ?_
              refine lv_istore (lv' := [(5, .int (x5 + (1 : Int32))), (4, .int (x4 + v12)), (0, .ref (z 0)), (1, .int x1), (2, .int x2), (3, .int x3), (6, .int x6), (7, .int v7)]) hx hb dX6_least_118 hl (by decide) rfl (fun ls hl => ?_)
              refine lv_iinc (v := (x6 + (1 : Int32))) (lv' := [(6, .int (x6 + (1 : Int32))), (5, .int (x5 + (1 : Int32))), (4, .int (x4 + v12)), (0, .ref (z 0)), (1, .int x1), (2, .int x2), (3, .int x3), (7, .int v7)]) hx hb dX6_least_120 hl (k := 6) rfl rfl (by decide) rfl (fun ls hl => ?_)
              refine lv_goto (tgt := 25) hx hb dX6_least_123 (by decide) ?_
              exact ih _ _ _ _ hf H locs ls hP hS (lv_sub hl [3, 4, 5, 6, 2, 1, 0] rfl) kx
        have hf := hg
        refine lv_if_eq (tgt := 80) hx hb dX6_least_58 (by decide) (fun c8 => ?_) (fun c8 => ?_)
        · have hf := it_t hf c8
          refine lv_iconst (v := (0 : Int32)) hx hb dX6_least_80 kc_iconst_0 ?_
          have e0 := Option.some.inj hf
          subst e0
          exact hj H locs ls hP hS (lv_sub hl [1, 2, 3, 4, 6, 7, 0] rfl)
        · have hf := it_f hf c8
          refine lv_iload hx hb dX6_least_61 (lv_at hl 7 rfl) ?_
          refine lv_aload_n hx hb dX6_least_63 rfl (lv_at hl 1 rfl) ?_
          refine va_get (D := D) (ci := 6) (v := .ref (z 1)) (C := RX6) (T := TX6) (N := 12) hx hb hts inX6 hown hK.1 hP 0 rfl rfl 0 (by decide) (hts (.fieldLink RX6 7 "ClosExchangeModel" "s" "[I") (List.mem_of_getElem? (i := 1) rfl)) (fun _ h9 => h9) rfl dX6_least_64 ?_
          refine lv_iload_n hx hb dX6_least_67 rfl (lv_at hl 2 rfl) ?_
          refine lv_iconst (v := (1 : Int32)) hx hb dX6_least_68 kc_iconst_1 ?_
          refine lv_iadd hx hb dX6_least_69 ?_
          obtain ⟨c9, hf⟩ := it_g hf
          refine va_iald hx hb hK.1 hP 1 0 rfl rfl (inb_in c9) dX6_least_70 ?_
          obtain ⟨c10, hf⟩ := it_g hf
          refine lv_idiv hx hb dX6_least_71 c10 ?_
          refine lv_iload_n hx hb dX6_least_72 rfl (lv_at hl 4 rfl) ?_
          refine lv_icmp_ne (tgt := 80) hx hb dX6_least_73 (by decide) (fun c11 => ?_) (fun c11 => ?_)
          · have hf := it_f hf c11
            refine lv_iconst (v := (0 : Int32)) hx hb dX6_least_80 kc_iconst_0 ?_
            have e0 := Option.some.inj hf
            subst e0
            exact hj H locs ls hP hS (lv_sub hl [1, 2, 3, 4, 6, 7, 0] rfl)
          · have hf := it_t hf c11
            refine lv_iconst (v := (1 : Int32)) hx hb dX6_least_76 kc_iconst_1 ?_
            refine lv_goto (tgt := 81) hx hb dX6_least_77 (by decide) ?_
            have e0 := Option.some.inj hf
            subst e0
            exact hj H locs ls hP hS (lv_sub hl [1, 2, 3, 4, 6, 7, 0] rfl)
      have hf := hg
      refine lv_icmp_eq (tgt := 51) hx hb dX6_least_44 (by decide) (fun c6 => ?_) (fun c6 => ?_)
      · have hf := it_t hf c6
        refine lv_iconst (v := (0 : Int32)) hx hb dX6_least_51 kc_iconst_0 ?_
        have e0 := hf
        subst e0
        exact hj H locs ls hP hS (lv_sub hl [0, 1, 2, 3, 4, 5, 6] rfl)
      · have hf := it_f hf c6
        refine lv_iconst (v := (1 : Int32)) hx hb dX6_least_47 kc_iconst_1 ?_
        refine lv_goto (tgt := 52) hx hb dX6_least_48 (by decide) ?_
        have e0 := hf
        subst e0
        exact hj H locs ls hP hS (lv_sub hl [0, 1, 2, 3, 4, 5, 6] rfl)
set_option maxRecDepth 100000 in
set_option maxHeartbeats 4000000 in
theorem w_X6_least_4 {p : Program} {l : Launch} {e : Env} {s : State} {m : MethodId} {args : Array Value} {below : List Frame} {meth : Method} {c : Code} {Q : State → Prop} {D : va_G} {cI cN : ClassId} {z : Nat → Nat} (S : CallFix p m c cX6_least 8 s args wsX6_least RX6) (hK : KN D cI cN s) {g : OS} {x1 : Int32} {r0 : Int32} (hret : ∀ (H : Heap) (locs : List Loc) (ls : Array Slot) (pc : Nat), decode cX6_least pc = .ok (.ireturn, 1) → narrow .int (.int r0) = .int r0 → va_S (nwA s.heap.size) s.heap H locs → W p l e (headSpec wsX6_least rm_X6_least).room s m args below meth c H locs 0 0 Q (F0 m pc ls [.int r0])) : ∀ (k : Nat) (x2 : Int32) (x3 : Int32), fX6_least_4 g x1 k x2 x3 = some r0 → ∀ (H : Heap) (locs : List Loc) (ls : Array Slot), va_P D vwCl (mdW cI z g) H → va_S (nwA s.heap.size) s.heap H locs → lv_has ls 8 [(0, .ref (z 0)), (1, .int x1), (2, .int x2), (3, .int x3)] → W p l e (headSpec wsX6_least rm_X6_least).room s m args below meth c H locs 0 0 Q (F0 m 4 ls []) := by
  obtain ⟨hx, hb, hml, hown, hts⟩ := id S
  have inX6 := in_X6_least_X6
  have hA : ∀ q : Nat, s.heap.size ≤ q → nwA s.heap.size q := fun _ h => h
  intro k
  induction k with
  | zero => intro x2 x3 hf; rw [fX6_least_4_z] at hf; cases hf
  | succ k ih =>
    intro x2 x3 hf H locs ls hP hS hl
    rw [fX6_least_4_s] at hf
    refine lv_iload_n hx hb dX6_least_4 rfl (lv_at hl 3 rfl) ?_
    refine lv_aload_n hx hb dX6_least_5 rfl (lv_at hl 0 rfl) ?_
    refine va_get (D := D) (ci := 6) (v := .ref (z 1)) (C := RX6) (T := TX6) (N := 12) hx hb hts inX6 hown hK.1 hP 0 rfl rfl 0 (by decide) (hts (.fieldLink RX6 7 "ClosExchangeModel" "s" "[I") (List.mem_of_getElem? (i := 1) rfl)) (fun _ h9 => h9) rfl dX6_least_6 ?_
    refine lv_iload_n hx hb dX6_least_9 rfl (lv_at hl 1 rfl) ?_
    refine lv_iconst (v := (0 : Int32)) hx hb dX6_least_10 kc_iconst_0 ?_
    refine lv_iadd hx hb dX6_least_11 ?_
    obtain ⟨c1, hf⟩ := it_g hf
    refine va_iald hx hb hK.1 hP 1 0 rfl rfl (inb_in c1) dX6_least_12 ?_
    refine lv_icmp_ge (tgt := 158) hx hb dX6_least_13 (by decide) (fun c2 => ?_) (fun c2 => ?_)
    · have hf := it_t hf c2
      refine lv_iload_n hx hb dX6_least_158 rfl (lv_at hl 2 rfl) ?_
      have e0 : x2 = r0 := (Option.some.inj hf)
      subst e0
      exact hret H locs ls _ dX6_least_159 rfl hS
    · have hf := it_f hf c2
      refine lv_iconst (v := (0 : Int32)) hx hb dX6_least_16 kc_iconst_0 ?_
      refine lv_istore (lv' := [(4, .int (0 : Int32)), (0, .ref (z 0)), (1, .int x1), (2, .int x2), (3, .int x3)]) hx hb dX6_least_17 hl (by decide) rfl (fun ls hl => ?_)
      refine lv_iconst (v := (0 : Int32)) hx hb dX6_least_19 kc_iconst_0 ?_
      refine lv_istore (lv' := [(5, .int (0 : Int32)), (4, .int (0 : Int32)), (0, .ref (z 0)), (1, .int x1), (2, .int x2), (3, .int x3)]) hx hb dX6_least_20 hl (by decide) rfl (fun ls hl => ?_)
      refine lv_iconst (v := (0 : Int32)) hx hb dX6_least_22 kc_iconst_0 ?_
      refine lv_istore (lv' := [(6, .int (0 : Int32)), (5, .int (0 : Int32)), (4, .int (0 : Int32)), (0, .ref (z 0)), (1, .int x1), (2, .int x2), (3, .int x3)]) hx hb dX6_least_23 hl (by decide) rfl (fun ls hl => ?_)
      obtain ⟨v18, hv18, hf⟩ := it_b hf
      refine w_X6_least_25 S hK _ _ _ _ _ hv18 H locs ls hP hS (lv_sub hl [3, 4, 5, 6, 2, 1, 0] rfl) (fun H locs ls hP hS hl => ?_)
      refine lv_iload hx hb dX6_least_126 (lv_at hl 4 rfl) ?_
      refine lv_iload_n hx hb dX6_least_128 rfl (lv_at hl 2 rfl) ?_
      obtain ⟨v20, hg, hf⟩ := it_j hf
      have hj : ∀ (H : Heap) (locs : List Loc) (ls : Array Slot), va_P D vwCl (mdW cI z g) H → va_S (nwA s.heap.size) s.heap H locs → lv_has ls 8 [(0, .ref (z 0)), (1, .int x1), (3, .int x3), (5, .int v18.2)] → W p l e (headSpec wsX6_least rm_X6_least).room s m args below meth c H locs 0 0 Q (F0 m 138 ls [.int v20]) := by
        intro H locs ls hP hS hl
        refine lv_istore_n (lv' := [(2, .int v20), (0, .ref (z 0)), (1, .int x1), (3, .int x3), (5, .int v18.2)]) hx hb dX6_least_138 rfl hl (by decide) rfl (fun ls hl => ?_)
        refine lv_iload hx hb dX6_least_139 (lv_at hl 4 rfl) ?_
        refine lv_iload_n hx hb dX6_least_141 rfl (lv_at hl 0 rfl) ?_
        refine lv_icmp_le (tgt := 150) hx hb dX6_least_142 (by decide) (fun c21 => ?_) (fun c21 => ?_)
        · have hf := it_t hf c21
          refine lv_iload_n hx hb dX6_least_150 rfl (lv_at hl 0 rfl) ?_
          refine lv_istore_n (lv' := [(2, .int v20), (0, .ref (z 0)), (1, .int x1), (3, .int x3), (5, .int v18.2)]) hx hb dX6_least_151 rfl hl (by decide) rfl (fun ls hl => ?_)
          refine lv_iinc (v := (x3 + (1 : Int32))) (lv' := [(3, .int (x3 + (1 : Int32))), (2, .int v20), (0, .ref (z 0)), (1, .int x1), (5, .int v18.2)]) hx hb dX6_least_152 hl (k := 3) rfl rfl (by decide) rfl (fun ls hl => ?_)
          refine lv_goto (tgt := 4) hx hb dX6_least_155 (by decide) ?_
          exact ih _ _ hf H locs ls hP hS (lv_sub hl [2, 3, 1, 0] rfl)
        · have hf := it_f hf c21
          refine lv_iload hx hb dX6_least_145 (lv_at hl 4 rfl) ?_
          refine lv_goto (tgt := 151) hx hb dX6_least_147 (by decide) ?_
          refine lv_istore_n (lv' := [(2, .int v18.2), (0, .ref (z 0)), (1, .int x1), (3, .int x3), (5, .int v18.2)]) hx hb dX6_least_151 rfl hl (by decide) rfl (fun ls hl => ?_)
          refine lv_iinc (v := (x3 + (1 : Int32))) (lv' := [(3, .int (x3 + (1 : Int32))), (2, .int v18.2), (0, .ref (z 0)), (1, .int x1), (5, .int v18.2)]) hx hb dX6_least_152 hl (k := 3) rfl rfl (by decide) rfl (fun ls hl => ?_)
          refine lv_goto (tgt := 4) hx hb dX6_least_155 (by decide) ?_
          exact ih _ _ hf H locs ls hP hS (lv_sub hl [2, 3, 1, 0] rfl)
      have hf := hg
      refine lv_icmp_le (tgt := 137) hx hb dX6_least_129 (by decide) (fun c19 => ?_) (fun c19 => ?_)
      · have hf := it_t hf c19
        refine lv_iload_n hx hb dX6_least_137 rfl (lv_at hl 2 rfl) ?_
        have e0 := hf
        subst e0
        exact hj H locs ls hP hS (lv_sub hl [0, 1, 3, 5] rfl)
      · have hf := it_f hf c19
        refine lv_iload hx hb dX6_least_132 (lv_at hl 4 rfl) ?_
        refine lv_goto (tgt := 138) hx hb dX6_least_134 (by decide) ?_
        have e0 := hf
        subst e0
        exact hj H locs ls hP hS (lv_sub hl [0, 1, 3, 5] rfl)
set_option maxRecDepth 100000 in
set_option maxHeartbeats 4000000 in
theorem w_X6_least_0 {p : Program} {l : Launch} {e : Env} {s : State} {m : MethodId} {args : Array Value} {below : List Frame} {meth : Method} {c : Code} {Q : State → Prop} {D : va_G} {cI cN : ClassId} {z : Nat → Nat} (S : CallFix p m c cX6_least 8 s args wsX6_least RX6) (hK : KN D cI cN s) {g : OS} {x1 : Int32} {r0 : Int32} (hret : ∀ (H : Heap) (locs : List Loc) (ls : Array Slot) (pc : Nat), decode cX6_least pc = .ok (.ireturn, 1) → narrow .int (.int r0) = .int r0 → va_S (nwA s.heap.size) s.heap H locs → W p l e (headSpec wsX6_least rm_X6_least).room s m args below meth c H locs 0 0 Q (F0 m pc ls [.int r0])) (hf : fX6_least g x1 = some r0) (H : Heap) (locs : List Loc) (ls : Array Slot) (hP : va_P D vwCl (mdW cI z g) H) (hS : va_S (nwA s.heap.size) s.heap H locs) (hl : lv_has ls 8 [(0, .ref (z 0)), (1, .int x1)]) : W p l e (headSpec wsX6_least rm_X6_least).room s m args below meth c H locs 0 0 Q (F0 m 0 ls []) := by
  obtain ⟨hx, hb, hml, hown, hts⟩ := id S
  have inX6 := in_X6_least_X6
  have hA : ∀ q : Nat, s.heap.size ≤ q → nwA s.heap.size q := fun _ h => h
  unfold fX6_least at hf
  refine lv_iconst (v := (0 : Int32)) hx hb dX6_least_0 kc_iconst_0 ?_
  refine lv_istore_n (lv' := [(2, .int (0 : Int32)), (0, .ref (z 0)), (1, .int x1)]) hx hb dX6_least_1 rfl hl (by decide) rfl (fun ls hl => ?_)
  refine lv_iconst (v := (0 : Int32)) hx hb dX6_least_2 kc_iconst_0 ?_
  refine lv_istore_n (lv' := [(3, .int (0 : Int32)), (2, .int (0 : Int32)), (0, .ref (z 0)), (1, .int x1)]) hx hb dX6_least_3 rfl hl (by decide) rfl (fun ls hl => ?_)
  exact w_X6_least_4 S hK hret _ _ _ hf H locs ls hP hS (lv_sub hl [2, 3, 1, 0] rfl)
set_option maxRecDepth 100000 in
theorem c_X6_least (l : Launch) (D : va_G) (cI cN : ClassId) (z : Nat → Nat) (sz : Nat) (g : OS) (x1 : Int32) (r0 : Int32) (hf : fX6_least g x1 = some r0) : CtP l D cI cN yX6_least wsX6_least rm_X6_least [.ref (z 0), .int x1] (mdW cI z g) sz r0 := by
  refine mP (cc := cX6_least) (maxL := 8) (ty := .int) (by decide) rfl rfl (Nat.le_of_ble_eq_true rfl) ?_
  intro p e s m args below meth c Q S hK hP hS hret ls hl
  exact w_X6_least_0 S hK hret hf _ _ _ hP hS (lv_sub (show lv_has ls 8 [(0, .ref (z 0)), (1, .int x1)] from hl) [0, 1] rfl)
abbrev rm_X6_packs : Room := { frames := 5, cells := 0, slots := 0, locals := 131 }
theorem in_X6_packs_X6 : ∀ w ∈ u_ws RX6 TX6 12, w ∈ wsX6_packs := fun w h => List.mem_cons_of_mem _ (List.mem_append_right _ h)
set_option maxRecDepth 100000 in
set_option maxHeartbeats 4000000 in
theorem w_X6_packs_194 {p : Program} {l : Launch} {e : Env} {s : State} {m : MethodId} {args : Array Value} {below : List Frame} {meth : Method} {c : Code} {Q : State → Prop} {D : va_G} {cI cN : ClassId} {A : Nat → Prop} {z : Nat → Nat} (S : CallFix p m c cX6_packs 8 s args wsX6_packs RX6) (hK : KN D cI cN s) (hA : ∀ q : Nat, s.heap.size ≤ q → A q) {g : OS} {x1 : Int32} {x2 : Int32} {x3 : Int32} {r0 : Int32} {g' : OS} (hret : ∀ (H : Heap) (locs : List Loc) (ls : Array Slot) (pc : Nat), decode cX6_packs pc = .ok (.ireturn, 1) → narrow .int (.int r0) = .int r0 → va_P D vwCl (mdW cI z g') H → va_D A (mdW cI z g') → va_S A s.heap H locs → W p l e (headSpec wsX6_packs rm_X6_packs).room s m args below meth c H locs 0 0 Q (F0 m pc ls [.int r0])) : ∀ (k : Nat) (x6 : Int32) (x7 : Int32), fX6_packs_194 g x1 x2 x3 k x6 x7 = some (r0, g') → ∀ (H : Heap) (locs : List Loc) (ls : Array Slot), va_P D vwCl (mdW cI z g) H → va_D A (mdW cI z g) → va_S A s.heap H locs → lv_has ls 8 [(0, .ref (z 0)), (1, .int x1), (2, .int x2), (3, .int x3), (6, .int x6), (7, .int x7)] → W p l e (headSpec wsX6_packs rm_X6_packs).room s m args below meth c H locs 0 0 Q (F0 m 194 ls []) := by
  obtain ⟨hx, hb, hml, hown, hts⟩ := id S
  have inX6 := in_X6_packs_X6
  intro k
  induction k with
  | zero => intro x6 x7 hf; rw [fX6_packs_194_z] at hf; cases hf
  | succ k ih =>
    intro x6 x7 hf H locs ls hP hD hS hl
    rw [fX6_packs_194_s] at hf
    refine lv_iload hx hb dX6_packs_194 (lv_at hl 5 rfl) ?_
    refine lv_aload_n hx hb dX6_packs_196 rfl (lv_at hl 0 rfl) ?_
    refine lv_iload_n hx hb dX6_packs_197 rfl (lv_at hl 1 rfl) ?_
    obtain ⟨v13, hv13, hf⟩ := it_b hf
    refine cQi (As := [.int x1]) (rest := [.int x7]) (q0 := 0) (ci := 6) S (c_X6_lines l D cI cN z _ g x1 v13 hv13) (cwV 1 hts gX6_packs_X6_lines rfl rfl rfl (by decide +kernel) ⟨Nat.le_of_ble_eq_true rfl, Nat.le_of_ble_eq_true rfl⟩) hK hP hS hA hP rfl rfl rfl hl.1 rfl (Nat.le_of_ble_eq_true rfl) dX6_packs_198 ⟨Nat.zero_le _, Nat.zero_le _⟩ (fun H locs hP hS => ?_)
    refine lv_icmp_ge (tgt := 250) hx hb dX6_packs_201 (by decide) (fun c14 => ?_) (fun c14 => ?_)
    · have hf := it_t hf c14
      refine lv_aload_n hx hb dX6_packs_250 rfl (lv_at hl 0 rfl) ?_
      refine va_get (D := D) (ci := 6) (v := .ref (z 1)) (C := RX6) (T := TX6) (N := 12) hx hb hts inX6 hown hK.1 hP 0 rfl rfl 0 (by decide) (hts (.fieldLink RX6 7 "ClosExchangeModel" "s" "[I") (List.mem_of_getElem? (i := 1) rfl)) (fun _ h9 => h9) rfl dX6_packs_251 ?_
      refine lv_iload_n hx hb dX6_packs_254 rfl (lv_at hl 1 rfl) ?_
      refine lv_bipush (v := (9 : Int32)) hx hb dX6_packs_255 kc_bipush_9 ?_
      refine lv_iadd hx hb dX6_packs_257 ?_
      refine lv_iload_n hx hb dX6_packs_258 rfl (lv_at hl 2 rfl) ?_
      obtain ⟨c15, hf⟩ := it_g hf
      obtain ⟨w16, hw16, hf⟩ := it_j hf
      refine giastw (wf := (mdW cI z (setR g 0 w16))) hw16 hx hb hK.1 hP hD hS 1 0 rfl rfl (inb_in c15) dX6_packs_259 rfl (fun H locs hP hD hS => ?_)
      refine lv_aload_n hx hb dX6_packs_260 rfl (lv_at hl 0 rfl) ?_
      refine va_get (D := D) (ci := 6) (v := .ref (z 1)) (C := RX6) (T := TX6) (N := 12) hx hb hts inX6 hown hK.1 hP 0 rfl rfl 0 (by decide) (hts (.fieldLink RX6 7 "ClosExchangeModel" "s" "[I") (List.mem_of_getElem? (i := 1) rfl)) (fun _ h9 => h9) rfl dX6_packs_261 ?_
      refine lv_iload_n hx hb dX6_packs_264 rfl (lv_at hl 1 rfl) ?_
      refine lv_bipush (v := (8 : Int32)) hx hb dX6_packs_265 kc_bipush_8 ?_
      refine lv_iadd hx hb dX6_packs_267 ?_
      refine lv_iload_n hx hb dX6_packs_268 rfl (lv_at hl 3 rfl) ?_
      refine lv_iload hx hb dX6_packs_269 (lv_at hl 4 rfl) ?_
      refine lv_iadd hx hb dX6_packs_271 ?_
      obtain ⟨c17, hf⟩ := it_g hf
      obtain ⟨w18, hw18, hf⟩ := it_j hf
      refine giastw (wf := (mdW cI z (setR g 0 w18))) hw18 hx hb hK.1 hP hD hS 1 0 rfl rfl (inb_in c17) dX6_packs_272 rfl (fun H locs hP hD hS => ?_)
      refine lv_iload hx hb dX6_packs_273 (lv_at hl 4 rfl) ?_
      have e0 : x6 = r0 := congrArg (fun z => z.1) (Option.some.inj hf)
      have e1 : (setR g 0 w18) = g' := congrArg (fun z => z.2) (Option.some.inj hf)
      subst e0
      subst e1
      exact hret H locs ls _ dX6_packs_275 rfl hP hD hS
    · have hf := it_f hf c14
      refine lv_iload hx hb dX6_packs_204 (lv_at hl 4 rfl) ?_
      refine lv_aload_n hx hb dX6_packs_206 rfl (lv_at hl 0 rfl) ?_
      refine lv_iload_n hx hb dX6_packs_207 rfl (lv_at hl 1 rfl) ?_
      refine lv_iload hx hb dX6_packs_208 (lv_at hl 5 rfl) ?_
      refine lv_iconst (v := (0 : Int32)) hx hb dX6_packs_210 kc_iconst_0 ?_
      obtain ⟨v19, hv19, hf⟩ := it_b hf
      refine cQi (As := [.int x1, .int x7, .int (0 : Int32)]) (rest := [.int x6]) (q0 := 0) (ci := 6) S (c_X6_of l D cI cN z _ g x1 x7 (0 : Int32) v19 hv19) (cwV 3 hts gX6_packs_X6_of rfl rfl rfl (by decide +kernel) ⟨Nat.le_of_ble_eq_true rfl, Nat.le_of_ble_eq_true rfl⟩) hK hP hS hA hP rfl rfl rfl hl.1 rfl (Nat.le_of_ble_eq_true rfl) dX6_packs_211 ⟨Nat.zero_le _, Nat.zero_le _⟩ (fun H locs hP hS => ?_)
      refine lv_iconst (v := (-1 : Int32)) hx hb dX6_packs_214 kc_iconst_m1 ?_
      refine lv_icmp_eq (tgt := 240) hx hb dX6_packs_215 (by decide) (fun c20 => ?_) (fun c20 => ?_)
      · have hf := it_t hf c20
        refine lv_iconst (v := (0 : Int32)) hx hb dX6_packs_240 kc_iconst_0 ?_
        refine lv_iadd hx hb dX6_packs_241 ?_
        refine lv_istore (lv' := [(6, .int (x6 + (0 : Int32))), (0, .ref (z 0)), (1, .int x1), (2, .int x2), (3, .int x3), (7, .int x7)]) hx hb dX6_packs_242 hl (by decide) rfl (fun ls hl => ?_)
        refine lv_iinc (v := (x7 + (1 : Int32))) (lv' := [(7, .int (x7 + (1 : Int32))), (6, .int (x6 + (0 : Int32))), (0, .ref (z 0)), (1, .int x1), (2, .int x2), (3, .int x3)]) hx hb dX6_packs_244 hl (k := 5) rfl rfl (by decide) rfl (fun ls hl => ?_)
        refine lv_goto (tgt := 194) hx hb dX6_packs_247 (by decide) ?_
        exact ih _ _ hf H locs ls hP hD hS (lv_sub hl [2, 3, 4, 5, 1, 0] rfl)
      · have hf := it_f hf c20
        refine lv_aload_n hx hb dX6_packs_218 rfl (lv_at hl 0 rfl) ?_
        refine lv_iload_n hx hb dX6_packs_219 rfl (lv_at hl 1 rfl) ?_
        refine lv_iload hx hb dX6_packs_220 (lv_at hl 5 rfl) ?_
        refine lv_iconst (v := (2 : Int32)) hx hb dX6_packs_222 kc_iconst_2 ?_
        obtain ⟨v21, hv21, hf⟩ := it_b hf
        refine cQi (As := [.int x1, .int x7, .int (2 : Int32)]) (rest := [.int x6]) (q0 := 0) (ci := 6) S (c_X6_of l D cI cN z _ g x1 x7 (2 : Int32) v21 hv21) (cwV 3 hts gX6_packs_X6_of rfl rfl rfl (by decide +kernel) ⟨Nat.le_of_ble_eq_true rfl, Nat.le_of_ble_eq_true rfl⟩) hK hP hS hA hP rfl rfl rfl hl.1 rfl (Nat.le_of_ble_eq_true rfl) dX6_packs_223 ⟨Nat.zero_le _, Nat.zero_le _⟩ (fun H locs hP hS => ?_)
        refine lv_aload_n hx hb dX6_packs_226 rfl (lv_at hl 0 rfl) ?_
        refine va_get (D := D) (ci := 6) (v := .ref (z 4)) (C := RX6) (T := TX6) (N := 12) hx hb hts inX6 hown hK.1 hP 0 rfl rfl 11 (by decide) (hts (.fieldLink RX6 19 "ClosExchangeModel" "before" "[I") (List.mem_of_getElem? (i := 2) rfl)) (fun _ h9 => h9) rfl dX6_packs_227 ?_
        refine lv_iload hx hb dX6_packs_230 (lv_at hl 5 rfl) ?_
        obtain ⟨c22, hf⟩ := it_g hf
        refine va_iald hx hb hK.1 hP 4 0 rfl rfl (inb_in c22) dX6_packs_232 ?_
        refine lv_icmp_eq (tgt := 240) hx hb dX6_packs_233 (by decide) (fun c23 => ?_) (fun c23 => ?_)
        · have hf := it_t hf c23
          refine lv_iconst (v := (0 : Int32)) hx hb dX6_packs_240 kc_iconst_0 ?_
          refine lv_iadd hx hb dX6_packs_241 ?_
          refine lv_istore (lv' := [(6, .int (x6 + (0 : Int32))), (0, .ref (z 0)), (1, .int x1), (2, .int x2), (3, .int x3), (7, .int x7)]) hx hb dX6_packs_242 hl (by decide) rfl (fun ls hl => ?_)
          refine lv_iinc (v := (x7 + (1 : Int32))) (lv' := [(7, .int (x7 + (1 : Int32))), (6, .int (x6 + (0 : Int32))), (0, .ref (z 0)), (1, .int x1), (2, .int x2), (3, .int x3)]) hx hb dX6_packs_244 hl (k := 5) rfl rfl (by decide) rfl (fun ls hl => ?_)
          refine lv_goto (tgt := 194) hx hb dX6_packs_247 (by decide) ?_
          exact ih _ _ hf H locs ls hP hD hS (lv_sub hl [2, 3, 4, 5, 1, 0] rfl)
        · have hf := it_f hf c23
          refine lv_iconst (v := (1 : Int32)) hx hb dX6_packs_236 kc_iconst_1 ?_
          refine lv_goto (tgt := 241) hx hb dX6_packs_237 (by decide) ?_
          refine lv_iadd hx hb dX6_packs_241 ?_
          refine lv_istore (lv' := [(6, .int (x6 + (1 : Int32))), (0, .ref (z 0)), (1, .int x1), (2, .int x2), (3, .int x3), (7, .int x7)]) hx hb dX6_packs_242 hl (by decide) rfl (fun ls hl => ?_)
          refine lv_iinc (v := (x7 + (1 : Int32))) (lv' := [(7, .int (x7 + (1 : Int32))), (6, .int (x6 + (1 : Int32))), (0, .ref (z 0)), (1, .int x1), (2, .int x2), (3, .int x3)]) hx hb dX6_packs_244 hl (k := 5) rfl rfl (by decide) rfl (fun ls hl => ?_)
          refine lv_goto (tgt := 194) hx hb dX6_packs_247 (by decide) ?_
          exact ih _ _ hf H locs ls hP hD hS (lv_sub hl [2, 3, 4, 5, 1, 0] rfl)
set_option maxRecDepth 100000 in
set_option maxHeartbeats 4000000 in
theorem w_X6_packs_188 {p : Program} {l : Launch} {e : Env} {s : State} {m : MethodId} {args : Array Value} {below : List Frame} {meth : Method} {c : Code} {Q : State → Prop} {D : va_G} {cI cN : ClassId} {A : Nat → Prop} {z : Nat → Nat} (S : CallFix p m c cX6_packs 8 s args wsX6_packs RX6) (hK : KN D cI cN s) (hA : ∀ q : Nat, s.heap.size ≤ q → A q) {g : OS} {x1 : Int32} {x2 : Int32} {x3 : Int32} {r0 : Int32} {g' : OS} (hret : ∀ (H : Heap) (locs : List Loc) (ls : Array Slot) (pc : Nat), decode cX6_packs pc = .ok (.ireturn, 1) → narrow .int (.int r0) = .int r0 → va_P D vwCl (mdW cI z g') H → va_D A (mdW cI z g') → va_S A s.heap H locs → W p l e (headSpec wsX6_packs rm_X6_packs).room s m args below meth c H locs 0 0 Q (F0 m pc ls [.int r0])) (hf : fX6_packs_188 g x1 x2 x3 = some (r0, g')) (H : Heap) (locs : List Loc) (ls : Array Slot) (hP : va_P D vwCl (mdW cI z g) H) (hD : va_D A (mdW cI z g)) (hS : va_S A s.heap H locs) (hl : lv_has ls 8 [(0, .ref (z 0)), (1, .int x1), (2, .int x2), (3, .int x3)]) : W p l e (headSpec wsX6_packs rm_X6_packs).room s m args below meth c H locs 0 0 Q (F0 m 188 ls []) := by
  obtain ⟨hx, hb, hml, hown, hts⟩ := id S
  have inX6 := in_X6_packs_X6
  unfold fX6_packs_188 at hf
  refine lv_iconst (v := (0 : Int32)) hx hb dX6_packs_188 kc_iconst_0 ?_
  refine lv_istore (lv' := [(6, .int (0 : Int32)), (0, .ref (z 0)), (1, .int x1), (2, .int x2), (3, .int x3)]) hx hb dX6_packs_189 hl (by decide) rfl (fun ls hl => ?_)
  refine lv_iconst (v := (0 : Int32)) hx hb dX6_packs_191 kc_iconst_0 ?_
  refine lv_istore (lv' := [(7, .int (0 : Int32)), (6, .int (0 : Int32)), (0, .ref (z 0)), (1, .int x1), (2, .int x2), (3, .int x3)]) hx hb dX6_packs_192 hl (by decide) rfl (fun ls hl => ?_)
  exact w_X6_packs_194 S hK hA hret _ _ _ hf H locs ls hP hD hS (lv_sub hl [2, 3, 4, 5, 1, 0] rfl)
set_option maxRecDepth 100000 in
set_option maxHeartbeats 4000000 in
theorem w_X6_packs_160 {p : Program} {l : Launch} {e : Env} {s : State} {m : MethodId} {args : Array Value} {below : List Frame} {meth : Method} {c : Code} {Q : State → Prop} {D : va_G} {cI cN : ClassId} {A : Nat → Prop} {z : Nat → Nat} (S : CallFix p m c cX6_packs 8 s args wsX6_packs RX6) (hK : KN D cI cN s) (hA : ∀ q : Nat, s.heap.size ≤ q → A q) {x1 : Int32} {x2 : Int32} {x3 : Int32} {r0 : Int32} {g' : OS} (hret : ∀ (H : Heap) (locs : List Loc) (ls : Array Slot) (pc : Nat), decode cX6_packs pc = .ok (.ireturn, 1) → narrow .int (.int r0) = .int r0 → va_P D vwCl (mdW cI z g') H → va_D A (mdW cI z g') → va_S A s.heap H locs → W p l e (headSpec wsX6_packs rm_X6_packs).room s m args below meth c H locs 0 0 Q (F0 m pc ls [.int r0])) : ∀ (k : Nat) (x5 : Int32) (g : OS), fX6_packs_160 x1 x2 x3 k x5 g = some (r0, g') → ∀ (H : Heap) (locs : List Loc) (ls : Array Slot), va_P D vwCl (mdW cI z g) H → va_D A (mdW cI z g) → va_S A s.heap H locs → lv_has ls 8 [(0, .ref (z 0)), (1, .int x1), (2, .int x2), (3, .int x3), (5, .int x5)] → W p l e (headSpec wsX6_packs rm_X6_packs).room s m args below meth c H locs 0 0 Q (F0 m 160 ls []) := by
  obtain ⟨hx, hb, hml, hown, hts⟩ := id S
  have inX6 := in_X6_packs_X6
  intro k
  induction k with
  | zero => intro x5 g hf; rw [fX6_packs_160_z] at hf; cases hf
  | succ k ih =>
    intro x5 g hf H locs ls hP hD hS hl
    rw [fX6_packs_160_s] at hf
    refine lv_iload hx hb dX6_packs_160 (lv_at hl 4 rfl) ?_
    refine lv_iconst (v := (-1 : Int32)) hx hb dX6_packs_162 kc_iconst_m1 ?_
    refine lv_icmp_eq (tgt := 188) hx hb dX6_packs_163 (by decide) (fun c12 => ?_) (fun c12 => ?_)
    · have hf := it_t hf c12
      exact w_X6_packs_188 S hK hA hret hf H locs ls hP hD hS (lv_sub hl [0, 1, 2, 3] rfl)
    · have hf := it_f hf c12
      refine lv_aload_n hx hb dX6_packs_166 rfl (lv_at hl 0 rfl) ?_
      refine lv_iload_n hx hb dX6_packs_167 rfl (lv_at hl 1 rfl) ?_
      refine lv_iload hx hb dX6_packs_168 (lv_at hl 4 rfl) ?_
      obtain ⟨v24, hv24, hf⟩ := it_b hf
      refine cBi (As := [.int x1, .int x5]) (rest := []) (q0 := 0) (ci := 6) [(true, (mdW cI z g), (mdW cI z v24.2))] ⟨ad_mod, (fun h => Bool.noConfusion h), trivial⟩ S (c_X6_routes l D cI cN z _ g x1 x5 v24.1 v24.2 hv24) (cwV 2 hts gX6_packs_X6_routes rfl rfl rfl (by decide +kernel) ⟨Nat.le_of_ble_eq_true rfl, Nat.le_of_ble_eq_true rfl⟩) hK hP hD hS hA rfl rfl rfl hl.1 rfl (Nat.le_of_ble_eq_true rfl) dX6_packs_170 ⟨Nat.zero_le _, Nat.zero_le _⟩ (fun H locs hP hD hS => ?_)
      refine lv_bipush (v := (-4 : Int32)) hx hb dX6_packs_173 kc_bipush_m4 ?_
      refine lv_icmp_eq (tgt := 188) hx hb dX6_packs_175 (by decide) (fun c25 => ?_) (fun c25 => ?_)
      · have hf := it_t hf c25
        exact w_X6_packs_188 S hK hA hret hf H locs ls hP hD hS (lv_sub hl [0, 1, 2, 3] rfl)
      · have hf := it_f hf c25
        refine lv_aload_n hx hb dX6_packs_178 rfl (lv_at hl 0 rfl) ?_
        refine lv_iload_n hx hb dX6_packs_179 rfl (lv_at hl 1 rfl) ?_
        obtain ⟨v26, hv26, hf⟩ := it_b hf
        refine cQi (As := [.int x1]) (rest := []) (q0 := 0) (ci := 6) S (c_X6_nextOff l D cI cN z _ v24.2 x1 v26 hv26) (cwV 1 hts gX6_packs_X6_nextOff rfl rfl rfl (by decide +kernel) ⟨Nat.le_of_ble_eq_true rfl, Nat.le_of_ble_eq_true rfl⟩) hK hP hS hA hP rfl rfl rfl hl.1 rfl (Nat.le_of_ble_eq_true rfl) dX6_packs_180 ⟨Nat.zero_le _, Nat.zero_le _⟩ (fun H locs hP hS => ?_)
        refine lv_istore (lv' := [(5, .int v26), (0, .ref (z 0)), (1, .int x1), (2, .int x2), (3, .int x3)]) hx hb dX6_packs_183 hl (by decide) rfl (fun ls hl => ?_)
        refine lv_goto (tgt := 160) hx hb dX6_packs_185 (by decide) ?_
        exact ih _ _ hf H locs ls hP hD hS (lv_sub hl [1, 2, 3, 4, 0] rfl)
set_option maxRecDepth 100000 in
set_option maxHeartbeats 4000000 in
theorem w_X6_packs_113 {p : Program} {l : Launch} {e : Env} {s : State} {m : MethodId} {args : Array Value} {below : List Frame} {meth : Method} {c : Code} {Q : State → Prop} {D : va_G} {cI cN : ClassId} {A : Nat → Prop} {z : Nat → Nat} (S : CallFix p m c cX6_packs 8 s args wsX6_packs RX6) (hK : KN D cI cN s) (hA : ∀ q : Nat, s.heap.size ≤ q → A q) {x1 : Int32} {x2 : Int32} {x3 : Int32} {r0 : Int32} {g' : OS} (hret : ∀ (H : Heap) (locs : List Loc) (ls : Array Slot) (pc : Nat), decode cX6_packs pc = .ok (.ireturn, 1) → narrow .int (.int r0) = .int r0 → va_P D vwCl (mdW cI z g') H → va_D A (mdW cI z g') → va_S A s.heap H locs → W p l e (headSpec wsX6_packs rm_X6_packs).room s m args below meth c H locs 0 0 Q (F0 m pc ls [.int r0])) : ∀ (k : Nat) (x5 : Int32) (g : OS), fX6_packs_113 x1 x2 x3 k x5 g = some (r0, g') → ∀ (H : Heap) (locs : List Loc) (ls : Array Slot), va_P D vwCl (mdW cI z g) H → va_D A (mdW cI z g) → va_S A s.heap H locs → lv_has ls 8 [(0, .ref (z 0)), (1, .int x1), (2, .int x2), (3, .int x3), (5, .int x5)] → W p l e (headSpec wsX6_packs rm_X6_packs).room s m args below meth c H locs 0 0 Q (F0 m 113 ls []) := by
  obtain ⟨hx, hb, hml, hown, hts⟩ := id S
  have inX6 := in_X6_packs_X6
  intro k
  induction k with
  | zero => intro x5 g hf; rw [fX6_packs_113_z] at hf; cases hf
  | succ k ih =>
    intro x5 g hf H locs ls hP hD hS hl
    rw [fX6_packs_113_s] at hf
    refine lv_iload hx hb dX6_packs_113 (lv_at hl 4 rfl) ?_
    refine lv_aload_n hx hb dX6_packs_115 rfl (lv_at hl 0 rfl) ?_
    refine lv_iload_n hx hb dX6_packs_116 rfl (lv_at hl 1 rfl) ?_
    obtain ⟨v9, hv9, hf⟩ := it_b hf
    refine cQi (As := [.int x1]) (rest := [.int x5]) (q0 := 0) (ci := 6) S (c_X6_lines l D cI cN z _ g x1 v9 hv9) (cwV 1 hts gX6_packs_X6_lines rfl rfl rfl (by decide +kernel) ⟨Nat.le_of_ble_eq_true rfl, Nat.le_of_ble_eq_true rfl⟩) hK hP hS hA hP rfl rfl rfl hl.1 rfl (Nat.le_of_ble_eq_true rfl) dX6_packs_117 ⟨Nat.zero_le _, Nat.zero_le _⟩ (fun H locs hP hS => ?_)
    refine lv_icmp_ge (tgt := 153) hx hb dX6_packs_120 (by decide) (fun c10 => ?_) (fun c10 => ?_)
    · have hf := it_t hf c10
      refine lv_aload_n hx hb dX6_packs_153 rfl (lv_at hl 0 rfl) ?_
      refine lv_iload_n hx hb dX6_packs_154 rfl (lv_at hl 1 rfl) ?_
      obtain ⟨v11, hv11, hf⟩ := it_b hf
      refine cQi (As := [.int x1]) (rest := []) (q0 := 0) (ci := 6) S (c_X6_nextOff l D cI cN z _ g x1 v11 hv11) (cwV 1 hts gX6_packs_X6_nextOff rfl rfl rfl (by decide +kernel) ⟨Nat.le_of_ble_eq_true rfl, Nat.le_of_ble_eq_true rfl⟩) hK hP hS hA hP rfl rfl rfl hl.1 rfl (Nat.le_of_ble_eq_true rfl) dX6_packs_155 ⟨Nat.zero_le _, Nat.zero_le _⟩ (fun H locs hP hS => ?_)
      refine lv_istore (lv' := [(5, .int v11), (0, .ref (z 0)), (1, .int x1), (2, .int x2), (3, .int x3)]) hx hb dX6_packs_158 hl (by decide) rfl (fun ls hl => ?_)
      exact w_X6_packs_160 S hK hA hret _ _ _ hf H locs ls hP hD hS (lv_sub hl [1, 2, 3, 4, 0] rfl)
    · have hf := it_f hf c10
      refine lv_aload_n hx hb dX6_packs_123 rfl (lv_at hl 0 rfl) ?_
      refine va_get (D := D) (ci := 6) (v := .ref (z 4)) (C := RX6) (T := TX6) (N := 12) hx hb hts inX6 hown hK.1 hP 0 rfl rfl 11 (by decide) (hts (.fieldLink RX6 19 "ClosExchangeModel" "before" "[I") (List.mem_of_getElem? (i := 2) rfl)) (fun _ h9 => h9) rfl dX6_packs_124 ?_
      refine lv_iload hx hb dX6_packs_127 (lv_at hl 4 rfl) ?_
      refine lv_aload_n hx hb dX6_packs_129 rfl (lv_at hl 0 rfl) ?_
      refine lv_iload_n hx hb dX6_packs_130 rfl (lv_at hl 1 rfl) ?_
      refine lv_iload hx hb dX6_packs_131 (lv_at hl 4 rfl) ?_
      refine lv_iconst (v := (2 : Int32)) hx hb dX6_packs_133 kc_iconst_2 ?_
      obtain ⟨v27, hv27, hf⟩ := it_b hf
      refine cQi (As := [.int x1, .int x5, .int (2 : Int32)]) (rest := [.int x5, .ref (z 4)]) (q0 := 0) (ci := 6) S (c_X6_of l D cI cN z _ g x1 x5 (2 : Int32) v27 hv27) (cwV 3 hts gX6_packs_X6_of rfl rfl rfl (by decide +kernel) ⟨Nat.le_of_ble_eq_true rfl, Nat.le_of_ble_eq_true rfl⟩) hK hP hS hA hP rfl rfl rfl hl.1 rfl (Nat.le_of_ble_eq_true rfl) dX6_packs_134 ⟨Nat.zero_le _, Nat.zero_le _⟩ (fun H locs hP hS => ?_)
      obtain ⟨c28, hf⟩ := it_g hf
      obtain ⟨w29, hw29, hf⟩ := it_j hf
      refine giastw (wf := (mdW cI z (setR g 3 w29))) hw29 hx hb hK.1 hP hD hS 4 0 rfl rfl (inb_in c28) dX6_packs_137 rfl (fun H locs hP hD hS => ?_)
      refine lv_aload_n hx hb dX6_packs_138 rfl (lv_at hl 0 rfl) ?_
      refine lv_iload_n hx hb dX6_packs_139 rfl (lv_at hl 1 rfl) ?_
      refine lv_iload hx hb dX6_packs_140 (lv_at hl 4 rfl) ?_
      refine lv_iconst (v := (2 : Int32)) hx hb dX6_packs_142 kc_iconst_2 ?_
      refine lv_iconst (v := (-1 : Int32)) hx hb dX6_packs_143 kc_iconst_m1 ?_
      obtain ⟨v30, hv30, hf⟩ := it_b hf
      refine cBv (As := [.int x1, .int x5, .int (2 : Int32), .int (-1 : Int32)]) (rest := []) (q0 := 0) (ci := 6) [(true, (mdW cI z (setR g 3 w29)), (mdW cI z v30))] ⟨ad_mod, (fun h => Bool.noConfusion h), trivial⟩ S (c_X6_lay l D cI cN z _ (setR g 3 w29) x1 x5 (2 : Int32) (-1 : Int32) v30 hv30) (cwV 4 hts gX6_packs_X6_lay rfl rfl rfl (by decide +kernel) ⟨Nat.le_of_ble_eq_true rfl, Nat.le_of_ble_eq_true rfl⟩) hK hP hD hS hA rfl rfl rfl hl.1 rfl (Nat.le_of_ble_eq_true rfl) dX6_packs_144 ⟨Nat.zero_le _, Nat.zero_le _⟩ (fun H locs hP hD hS => ?_)
      refine lv_iinc (v := (x5 + (1 : Int32))) (lv' := [(5, .int (x5 + (1 : Int32))), (0, .ref (z 0)), (1, .int x1), (2, .int x2), (3, .int x3)]) hx hb dX6_packs_147 hl (k := 4) rfl rfl (by decide) rfl (fun ls hl => ?_)
      refine lv_goto (tgt := 113) hx hb dX6_packs_150 (by decide) ?_
      exact ih _ _ hf H locs ls hP hD hS (lv_sub hl [1, 2, 3, 4, 0] rfl)
set_option maxRecDepth 100000 in
set_option maxHeartbeats 4000000 in
theorem w_X6_packs_51 {p : Program} {l : Launch} {e : Env} {s : State} {m : MethodId} {args : Array Value} {below : List Frame} {meth : Method} {c : Code} {Q : State → Prop} {D : va_G} {cI cN : ClassId} {A : Nat → Prop} {z : Nat → Nat} (S : CallFix p m c cX6_packs 8 s args wsX6_packs RX6) (hK : KN D cI cN s) (hA : ∀ q : Nat, s.heap.size ≤ q → A q) {x1 : Int32} {x2 : Int32} {x3 : Int32} {x4 : Int32} {r0 : Int32} {g' : OS} (hret : ∀ (H : Heap) (locs : List Loc) (ls : Array Slot) (pc : Nat), decode cX6_packs pc = .ok (.ireturn, 1) → narrow .int (.int r0) = .int r0 → va_P D vwCl (mdW cI z g') H → va_D A (mdW cI z g') → va_S A s.heap H locs → W p l e (headSpec wsX6_packs rm_X6_packs).room s m args below meth c H locs 0 0 Q (F0 m pc ls [.int r0])) : ∀ (k : Nat) (x5 : Int32) (g : OS), fX6_packs_51 x1 x2 x3 x4 k x5 g = some (r0, g') → ∀ (H : Heap) (locs : List Loc) (ls : Array Slot), va_P D vwCl (mdW cI z g) H → va_D A (mdW cI z g) → va_S A s.heap H locs → lv_has ls 8 [(0, .ref (z 0)), (1, .int x1), (2, .int x2), (3, .int x3), (4, .int x4), (5, .int x5)] → W p l e (headSpec wsX6_packs rm_X6_packs).room s m args below meth c H locs 0 0 Q (F0 m 51 ls []) := by
  obtain ⟨hx, hb, hml, hown, hts⟩ := id S
  have inX6 := in_X6_packs_X6
  intro k
  induction k with
  | zero => intro x5 g hf; rw [fX6_packs_51_z] at hf; cases hf
  | succ k ih =>
    intro x5 g hf H locs ls hP hD hS hl
    rw [fX6_packs_51_s] at hf
    refine lv_iload hx hb dX6_packs_51 (lv_at hl 5 rfl) ?_
    refine lv_bipush (v := (8 : Int32)) hx hb dX6_packs_53 kc_bipush_8 ?_
    refine lv_icmp_ge (tgt := 110) hx hb dX6_packs_55 (by decide) (fun c8 => ?_) (fun c8 => ?_)
    · have hf := it_t hf c8
      refine lv_iconst (v := (0 : Int32)) hx hb dX6_packs_110 kc_iconst_0 ?_
      refine lv_istore (lv' := [(5, .int (0 : Int32)), (0, .ref (z 0)), (1, .int x1), (2, .int x2), (3, .int x3), (4, .int x4)]) hx hb dX6_packs_111 hl (by decide) rfl (fun ls hl => ?_)
      exact w_X6_packs_113 S hK hA hret _ _ _ hf H locs ls hP hD hS (lv_sub hl [1, 2, 3, 4, 0] rfl)
    · have hf := it_f hf c8
      refine lv_aload_n hx hb dX6_packs_58 rfl (lv_at hl 0 rfl) ?_
      refine va_get (D := D) (ci := 6) (v := .ref (z 1)) (C := RX6) (T := TX6) (N := 12) hx hb hts inX6 hown hK.1 hP 0 rfl rfl 0 (by decide) (hts (.fieldLink RX6 7 "ClosExchangeModel" "s" "[I") (List.mem_of_getElem? (i := 1) rfl)) (fun _ h9 => h9) rfl dX6_packs_59 ?_
      refine lv_iload_n hx hb dX6_packs_62 rfl (lv_at hl 1 rfl) ?_
      refine lv_bipush (v := (9 : Int32)) hx hb dX6_packs_63 kc_bipush_9 ?_
      refine lv_iadd hx hb dX6_packs_65 ?_
      refine lv_dup2_11 hx hb dX6_packs_66 rfl rfl ?_
      obtain ⟨c31, hf⟩ := it_g hf
      refine va_iald hx hb hK.1 hP 1 0 rfl rfl (inb_in c31) dX6_packs_67 ?_
      refine lv_iload_n hx hb dX6_packs_68 rfl (lv_at hl 2 rfl) ?_
      refine lv_iload hx hb dX6_packs_69 (lv_at hl 5 rfl) ?_
      refine cSi (As := [.int x2, .int x5]) (rest := [.int ((g.2 0) (x1 + (9 : Int32)).toNatClampNeg), .int (x1 + (9 : Int32)), .ref (z 1)]) S (c_X6_has l D cI cN _ x2 x5 (fX6_has x2 x5) rfl) (va_cwS 2 hts gX6_packs_X6_has rfl rfl rfl (by decide +kernel) ⟨Nat.le_of_ble_eq_true rfl, Nat.le_of_ble_eq_true rfl⟩) hK hP hS hA [] rfl rfl hl.1 rfl (Nat.le_of_ble_eq_true rfl) dX6_packs_71 ⟨Nat.zero_le _, Nat.zero_le _⟩ (fun H locs hP hS => ?_)
      obtain ⟨v36, hg, hf⟩ := it_b hf
      have hj : ∀ (H : Heap) (locs : List Loc) (ls : Array Slot), va_P D vwCl (mdW cI z g) H → va_D A (mdW cI z g) → va_S A s.heap H locs → lv_has ls 8 [(0, .ref (z 0)), (1, .int x1), (2, .int x2), (3, .int x3), (4, .int x4), (5, .int x5)] → W p l e (headSpec wsX6_packs rm_X6_packs).room s m args below meth c H locs 0 0 Q (F0 m 102 ls [.int v36, .int ((g.2 0) (x1 + (9 : Int32)).toNatClampNeg), .int (x1 + (9 : Int32)), .ref (z 1)]) := by
        intro H locs ls hP hD hS hl
        refine lv_ior hx hb dX6_packs_102 ?_
        obtain ⟨c37, hf⟩ := it_g hf
        obtain ⟨w38, hw38, hf⟩ := it_j hf
        refine giastw (wf := (mdW cI z (setR g 0 w38))) hw38 hx hb hK.1 hP hD hS 1 0 rfl rfl (inb_in c37) dX6_packs_103 rfl (fun H locs hP hD hS => ?_)
        refine lv_iinc (v := (x5 + (1 : Int32))) (lv' := [(5, .int (x5 + (1 : Int32))), (0, .ref (z 0)), (1, .int x1), (2, .int x2), (3, .int x3), (4, .int x4)]) hx hb dX6_packs_104 hl (k := 5) rfl rfl (by decide) rfl (fun ls hl => ?_)
        refine lv_goto (tgt := 51) hx hb dX6_packs_107 (by decide) ?_
        exact ih _ _ hf H locs ls hP hD hS (lv_sub hl [1, 2, 3, 4, 5, 0] rfl)
      have hf := hg
      refine lv_if_eq (tgt := 101) hx hb dX6_packs_74 (by decide) (fun c32 => ?_) (fun c32 => ?_)
      · have hf := it_t hf c32
        refine lv_iconst (v := (0 : Int32)) hx hb dX6_packs_101 kc_iconst_0 ?_
        have e0 := Option.some.inj hf
        subst e0
        exact hj H locs ls hP hD hS (lv_sub hl [0, 1, 2, 3, 4, 5] rfl)
      · have hf := it_f hf c32
        refine lv_aload_n hx hb dX6_packs_77 rfl (lv_at hl 0 rfl) ?_
        refine va_get (D := D) (ci := 6) (v := .ref (z 1)) (C := RX6) (T := TX6) (N := 12) hx hb hts inX6 hown hK.1 hP 0 rfl rfl 0 (by decide) (hts (.fieldLink RX6 7 "ClosExchangeModel" "s" "[I") (List.mem_of_getElem? (i := 1) rfl)) (fun _ h9 => h9) rfl dX6_packs_78 ?_
        refine lv_iload_n hx hb dX6_packs_81 rfl (lv_at hl 1 rfl) ?_
        refine lv_bipush (v := (9 : Int32)) hx hb dX6_packs_82 kc_bipush_9 ?_
        refine lv_iadd hx hb dX6_packs_84 ?_
        obtain ⟨c33, hf⟩ := it_g hf
        refine va_iald hx hb hK.1 hP 1 0 rfl rfl (inb_in c33) dX6_packs_85 ?_
        obtain ⟨v34, hv34, hf⟩ := it_b hf
        refine cSi (As := [.int ((g.2 0) (x1 + (9 : Int32)).toNatClampNeg)]) (rest := [.int ((g.2 0) (x1 + (9 : Int32)).toNatClampNeg), .int (x1 + (9 : Int32)), .ref (z 1)]) S (c_X6_bits l D cI cN _ ((g.2 0) (x1 + (9 : Int32)).toNatClampNeg) v34 hv34) (va_cwS 1 hts gX6_packs_X6_bits rfl rfl rfl (by decide +kernel) ⟨Nat.le_of_ble_eq_true rfl, Nat.le_of_ble_eq_true rfl⟩) hK hP hS hA [] rfl rfl hl.1 rfl (Nat.le_of_ble_eq_true rfl) dX6_packs_86 ⟨Nat.zero_le _, Nat.zero_le _⟩ (fun H locs hP hS => ?_)
        refine lv_iload hx hb dX6_packs_89 (lv_at hl 4 rfl) ?_
        refine lv_icmp_ge (tgt := 101) hx hb dX6_packs_91 (by decide) (fun c35 => ?_) (fun c35 => ?_)
        · have hf := it_t hf c35
          refine lv_iconst (v := (0 : Int32)) hx hb dX6_packs_101 kc_iconst_0 ?_
          have e0 := Option.some.inj hf
          subst e0
          exact hj H locs ls hP hD hS (lv_sub hl [0, 1, 2, 3, 4, 5] rfl)
        · have hf := it_f hf c35
          refine lv_iconst (v := (1 : Int32)) hx hb dX6_packs_94 kc_iconst_1 ?_
          refine lv_iload hx hb dX6_packs_95 (lv_at hl 5 rfl) ?_
          refine lv_ishl hx hb dX6_packs_97 ?_
          refine lv_goto (tgt := 102) hx hb dX6_packs_98 (by decide) ?_
          have e0 := Option.some.inj hf
          subst e0
          exact hj H locs ls hP hD hS (lv_sub hl [0, 1, 2, 3, 4, 5] rfl)
set_option maxRecDepth 100000 in
set_option maxHeartbeats 4000000 in
theorem w_X6_packs_0 {p : Program} {l : Launch} {e : Env} {s : State} {m : MethodId} {args : Array Value} {below : List Frame} {meth : Method} {c : Code} {Q : State → Prop} {D : va_G} {cI cN : ClassId} {A : Nat → Prop} {z : Nat → Nat} (S : CallFix p m c cX6_packs 8 s args wsX6_packs RX6) (hK : KN D cI cN s) (hA : ∀ q : Nat, s.heap.size ≤ q → A q) {g : OS} {x1 : Int32} {r0 : Int32} {g' : OS} (hret : ∀ (H : Heap) (locs : List Loc) (ls : Array Slot) (pc : Nat), decode cX6_packs pc = .ok (.ireturn, 1) → narrow .int (.int r0) = .int r0 → va_P D vwCl (mdW cI z g') H → va_D A (mdW cI z g') → va_S A s.heap H locs → W p l e (headSpec wsX6_packs rm_X6_packs).room s m args below meth c H locs 0 0 Q (F0 m pc ls [.int r0])) (hf : fX6_packs g x1 = some (r0, g')) (H : Heap) (locs : List Loc) (ls : Array Slot) (hP : va_P D vwCl (mdW cI z g) H) (hD : va_D A (mdW cI z g)) (hS : va_S A s.heap H locs) (hl : lv_has ls 8 [(0, .ref (z 0)), (1, .int x1)]) : W p l e (headSpec wsX6_packs rm_X6_packs).room s m args below meth c H locs 0 0 Q (F0 m 0 ls []) := by
  obtain ⟨hx, hb, hml, hown, hts⟩ := id S
  have inX6 := in_X6_packs_X6
  unfold fX6_packs at hf
  refine lv_aload_n hx hb dX6_packs_0 rfl (lv_at hl 0 rfl) ?_
  refine lv_iload_n hx hb dX6_packs_1 rfl (lv_at hl 1 rfl) ?_
  obtain ⟨v1, hv1, hf⟩ := it_b hf
  refine cQi (As := [.int x1]) (rest := []) (q0 := 0) (ci := 6) S (c_X6_calls l D cI cN z _ g x1 v1 hv1) (cwV 1 hts gX6_packs_X6_calls rfl rfl rfl (by decide +kernel) ⟨Nat.le_of_ble_eq_true rfl, Nat.le_of_ble_eq_true rfl⟩) hK hP hS hA hP rfl rfl rfl hl.1 rfl (Nat.le_of_ble_eq_true rfl) dX6_packs_2 ⟨Nat.zero_le _, Nat.zero_le _⟩ (fun H locs hP hS => ?_)
  refine lv_if_ne (tgt := 11) hx hb dX6_packs_5 (by decide) (fun c2 => ?_) (fun c2 => ?_)
  · have hf := it_f hf c2
    refine lv_aload_n hx hb dX6_packs_11 rfl (lv_at hl 0 rfl) ?_
    refine va_get (D := D) (ci := 6) (v := .ref (z 1)) (C := RX6) (T := TX6) (N := 12) hx hb hts inX6 hown hK.1 hP 0 rfl rfl 0 (by decide) (hts (.fieldLink RX6 7 "ClosExchangeModel" "s" "[I") (List.mem_of_getElem? (i := 1) rfl)) (fun _ h9 => h9) rfl dX6_packs_12 ?_
    refine lv_iload_n hx hb dX6_packs_15 rfl (lv_at hl 1 rfl) ?_
    refine lv_bipush (v := (9 : Int32)) hx hb dX6_packs_16 kc_bipush_9 ?_
    refine lv_iadd hx hb dX6_packs_18 ?_
    obtain ⟨c3, hf⟩ := it_g hf
    refine va_iald hx hb hK.1 hP 1 0 rfl rfl (inb_in c3) dX6_packs_19 ?_
    refine lv_istore_n (lv' := [(2, .int ((g.2 0) (x1 + (9 : Int32)).toNatClampNeg)), (0, .ref (z 0)), (1, .int x1)]) hx hb dX6_packs_20 rfl hl (by decide) rfl (fun ls hl => ?_)
    refine lv_aload_n hx hb dX6_packs_21 rfl (lv_at hl 1 rfl) ?_
    refine va_get (D := D) (ci := 6) (v := .ref (z 1)) (C := RX6) (T := TX6) (N := 12) hx hb hts inX6 hown hK.1 hP 0 rfl rfl 0 (by decide) (hts (.fieldLink RX6 7 "ClosExchangeModel" "s" "[I") (List.mem_of_getElem? (i := 1) rfl)) (fun _ h9 => h9) rfl dX6_packs_22 ?_
    refine lv_iload_n hx hb dX6_packs_25 rfl (lv_at hl 2 rfl) ?_
    refine lv_bipush (v := (8 : Int32)) hx hb dX6_packs_26 kc_bipush_8 ?_
    refine lv_iadd hx hb dX6_packs_28 ?_
    obtain ⟨c4, hf⟩ := it_g hf
    refine va_iald hx hb hK.1 hP 1 0 rfl rfl (inb_in c4) dX6_packs_29 ?_
    refine lv_istore_n (lv' := [(3, .int ((g.2 0) (x1 + (8 : Int32)).toNatClampNeg)), (2, .int ((g.2 0) (x1 + (9 : Int32)).toNatClampNeg)), (0, .ref (z 0)), (1, .int x1)]) hx hb dX6_packs_30 rfl hl (by decide) rfl (fun ls hl => ?_)
    refine lv_aload_n hx hb dX6_packs_31 rfl (lv_at hl 2 rfl) ?_
    refine lv_iload_n hx hb dX6_packs_32 rfl (lv_at hl 3 rfl) ?_
    obtain ⟨v5, hv5, hf⟩ := it_b hf
    refine cQi (As := [.int x1]) (rest := []) (q0 := 0) (ci := 6) S (c_X6_least l D cI cN z _ g x1 v5 hv5) (cwV 1 hts gX6_packs_X6_least rfl rfl rfl (by decide +kernel) ⟨Nat.le_of_ble_eq_true rfl, Nat.le_of_ble_eq_true rfl⟩) hK hP hS hA hP rfl rfl rfl hl.1 rfl (Nat.le_of_ble_eq_true rfl) dX6_packs_33 ⟨Nat.zero_le _, Nat.zero_le _⟩ (fun H locs hP hS => ?_)
    refine lv_istore (lv' := [(4, .int v5), (3, .int ((g.2 0) (x1 + (8 : Int32)).toNatClampNeg)), (2, .int ((g.2 0) (x1 + (9 : Int32)).toNatClampNeg)), (0, .ref (z 0)), (1, .int x1)]) hx hb dX6_packs_36 hl (by decide) rfl (fun ls hl => ?_)
    refine lv_aload_n hx hb dX6_packs_38 rfl (lv_at hl 3 rfl) ?_
    refine va_get (D := D) (ci := 6) (v := .ref (z 1)) (C := RX6) (T := TX6) (N := 12) hx hb hts inX6 hown hK.1 hP 0 rfl rfl 0 (by decide) (hts (.fieldLink RX6 7 "ClosExchangeModel" "s" "[I") (List.mem_of_getElem? (i := 1) rfl)) (fun _ h9 => h9) rfl dX6_packs_39 ?_
    refine lv_iload_n hx hb dX6_packs_42 rfl (lv_at hl 4 rfl) ?_
    refine lv_bipush (v := (9 : Int32)) hx hb dX6_packs_43 kc_bipush_9 ?_
    refine lv_iadd hx hb dX6_packs_45 ?_
    refine lv_iconst (v := (0 : Int32)) hx hb dX6_packs_46 kc_iconst_0 ?_
    obtain ⟨c6, hf⟩ := it_g hf
    obtain ⟨w7, hw7, hf⟩ := it_j hf
    refine giastw (wf := (mdW cI z (setR g 0 w7))) hw7 hx hb hK.1 hP hD hS 1 0 rfl rfl (inb_in c6) dX6_packs_47 rfl (fun H locs hP hD hS => ?_)
    refine lv_iconst (v := (0 : Int32)) hx hb dX6_packs_48 kc_iconst_0 ?_
    refine lv_istore (lv' := [(5, .int (0 : Int32)), (4, .int v5), (3, .int ((g.2 0) (x1 + (8 : Int32)).toNatClampNeg)), (2, .int ((g.2 0) (x1 + (9 : Int32)).toNatClampNeg)), (0, .ref (z 0)), (1, .int x1)]) hx hb dX6_packs_49 hl (by decide) rfl (fun ls hl => ?_)
    exact w_X6_packs_51 S hK hA hret _ _ _ hf H locs ls hP hD hS (lv_sub hl [4, 5, 3, 2, 1, 0] rfl)
  · have hf := it_t hf c2
    refine lv_bipush (v := (-6 : Int32)) hx hb dX6_packs_8 kc_bipush_m6 ?_
    have e0 : (-6 : Int32) = r0 := congrArg (fun z => z.1) (Option.some.inj hf)
    have e1 : g = g' := congrArg (fun z => z.2) (Option.some.inj hf)
    subst e0
    subst e1
    exact hret H locs ls _ dX6_packs_10 rfl hP hD hS
set_option maxRecDepth 100000 in
theorem c_X6_packs (l : Launch) (D : va_G) (cI cN : ClassId) (z : Nat → Nat) (sz : Nat) (g : OS) (x1 : Int32) (r0 : Int32) (g' : OS) (hf : fX6_packs g x1 = some (r0, g')) : CtI l D cI cN yX6_packs wsX6_packs rm_X6_packs 0 0 [.ref (z 0), .int x1] (mdW cI z g) sz r0 (mdW cI z g') := by
  refine mW (cc := cX6_packs) (maxL := 8) (ty := .int) (by decide) rfl rfl (Nat.le_of_ble_eq_true rfl) ?_
  intro p e s m args below meth c Q A S hK hP hD hS hA hret ls hl
  exact w_X6_packs_0 S hK hA hret hf _ _ _ hP hD hS (lv_sub (show lv_has ls 8 [(0, .ref (z 0)), (1, .int x1)] from hl) [0, 1] rfl)
abbrev rm_X6_copies : Room := { frames := 0, cells := 0, slots := 0, locals := 0 }
theorem in_X6_copies_X6 : ∀ w ∈ u_ws RX6 TX6 12, w ∈ wsX6_copies := fun w h => List.mem_cons_of_mem _ (List.mem_append_right _ h)
set_option maxRecDepth 100000 in
set_option maxHeartbeats 4000000 in
theorem w_X6_copies_2 {p : Program} {l : Launch} {e : Env} {s : State} {m : MethodId} {args : Array Value} {below : List Frame} {meth : Method} {c : Code} {Q : State → Prop} {D : va_G} {cI cN : ClassId} {A : Nat → Prop} {z : Nat → Nat} (S : CallFix p m c cX6_copies 4 s args wsX6_copies RX6) (hK : KN D cI cN s) (hA : ∀ q : Nat, s.heap.size ≤ q → A q) {x1 : Int32} {x2 : Int32} {g' : OS} (hret : ∀ (H : Heap) (locs : List Loc) (ls : Array Slot) (pc : Nat), decode cX6_copies pc = .ok (.return_, 1) → va_P D vwCl (mdW cI z g') H → va_D A (mdW cI z g') → va_S A s.heap H locs → W p l e (headSpec wsX6_copies rm_X6_copies).room s m args below meth c H locs 0 0 Q (F0 m pc ls [])) : ∀ (k : Nat) (x3 : Int32) (g : OS), fX6_copies_2 x1 x2 k x3 g = some g' → ∀ (H : Heap) (locs : List Loc) (ls : Array Slot), va_P D vwCl (mdW cI z g) H → va_D A (mdW cI z g) → va_S A s.heap H locs → lv_has ls 4 [(0, .ref (z 0)), (1, .int x1), (2, .int x2), (3, .int x3)] → W p l e (headSpec wsX6_copies rm_X6_copies).room s m args below meth c H locs 0 0 Q (F0 m 2 ls []) := by
  obtain ⟨hx, hb, hml, hown, hts⟩ := id S
  have inX6 := in_X6_copies_X6
  intro k
  induction k with
  | zero => intro x3 g hf; rw [fX6_copies_2_z] at hf; cases hf
  | succ k ih =>
    intro x3 g hf H locs ls hP hD hS hl
    rw [fX6_copies_2_s] at hf
    refine lv_iload_n hx hb dX6_copies_2 rfl (lv_at hl 3 rfl) ?_
    refine lv_sipush (v := (154 : Int32)) hx hb dX6_copies_3 kc_sipush_154 ?_
    refine lv_icmp_ge (tgt := 39) hx hb dX6_copies_6 (by decide) (fun c1 => ?_) (fun c1 => ?_)
    · have hf := it_t hf c1
      have e0 : g = g' := (Option.some.inj hf)
      subst e0
      exact hret H locs ls _ dX6_copies_39 hP hD hS
    · have hf := it_f hf c1
      refine lv_aload_n hx hb dX6_copies_9 rfl (lv_at hl 0 rfl) ?_
      refine va_get (D := D) (ci := 6) (v := .ref (z 1)) (C := RX6) (T := TX6) (N := 12) hx hb hts inX6 hown hK.1 hP 0 rfl rfl 0 (by decide) (hts (.fieldLink RX6 7 "ClosExchangeModel" "s" "[I") (List.mem_of_getElem? (i := 1) rfl)) (fun _ h9 => h9) rfl dX6_copies_10 ?_
      refine lv_sipush (v := (154 : Int32)) hx hb dX6_copies_13 kc_sipush_154 ?_
      refine lv_iload_n hx hb dX6_copies_16 rfl (lv_at hl 2 rfl) ?_
      refine lv_imul hx hb dX6_copies_17 ?_
      refine lv_iload_n hx hb dX6_copies_18 rfl (lv_at hl 3 rfl) ?_
      refine lv_iadd hx hb dX6_copies_19 ?_
      refine lv_aload_n hx hb dX6_copies_20 rfl (lv_at hl 0 rfl) ?_
      refine va_get (D := D) (ci := 6) (v := .ref (z 1)) (C := RX6) (T := TX6) (N := 12) hx hb hts inX6 hown hK.1 hP 0 rfl rfl 0 (by decide) (hts (.fieldLink RX6 7 "ClosExchangeModel" "s" "[I") (List.mem_of_getElem? (i := 1) rfl)) (fun _ h9 => h9) rfl dX6_copies_21 ?_
      refine lv_sipush (v := (154 : Int32)) hx hb dX6_copies_24 kc_sipush_154 ?_
      refine lv_iload_n hx hb dX6_copies_27 rfl (lv_at hl 1 rfl) ?_
      refine lv_imul hx hb dX6_copies_28 ?_
      refine lv_iload_n hx hb dX6_copies_29 rfl (lv_at hl 3 rfl) ?_
      refine lv_iadd hx hb dX6_copies_30 ?_
      obtain ⟨c2, hf⟩ := it_g hf
      refine va_iald hx hb hK.1 hP 1 0 rfl rfl (inb_in c2) dX6_copies_31 ?_
      obtain ⟨c3, hf⟩ := it_g hf
      obtain ⟨w4, hw4, hf⟩ := it_j hf
      refine giastw (wf := (mdW cI z (setR g 0 w4))) hw4 hx hb hK.1 hP hD hS 1 0 rfl rfl (inb_in c3) dX6_copies_32 rfl (fun H locs hP hD hS => ?_)
      refine lv_iinc (v := (x3 + (1 : Int32))) (lv' := [(3, .int (x3 + (1 : Int32))), (0, .ref (z 0)), (1, .int x1), (2, .int x2)]) hx hb dX6_copies_33 hl (k := 3) rfl rfl (by decide) rfl (fun ls hl => ?_)
      refine lv_goto (tgt := 2) hx hb dX6_copies_36 (by decide) ?_
      exact ih _ _ hf H locs ls hP hD hS (lv_sub hl [1, 2, 3, 0] rfl)
set_option maxRecDepth 100000 in
set_option maxHeartbeats 4000000 in
theorem w_X6_copies_0 {p : Program} {l : Launch} {e : Env} {s : State} {m : MethodId} {args : Array Value} {below : List Frame} {meth : Method} {c : Code} {Q : State → Prop} {D : va_G} {cI cN : ClassId} {A : Nat → Prop} {z : Nat → Nat} (S : CallFix p m c cX6_copies 4 s args wsX6_copies RX6) (hK : KN D cI cN s) (hA : ∀ q : Nat, s.heap.size ≤ q → A q) {g : OS} {x1 : Int32} {x2 : Int32} {g' : OS} (hret : ∀ (H : Heap) (locs : List Loc) (ls : Array Slot) (pc : Nat), decode cX6_copies pc = .ok (.return_, 1) → va_P D vwCl (mdW cI z g') H → va_D A (mdW cI z g') → va_S A s.heap H locs → W p l e (headSpec wsX6_copies rm_X6_copies).room s m args below meth c H locs 0 0 Q (F0 m pc ls [])) (hf : fX6_copies g x1 x2 = some g') (H : Heap) (locs : List Loc) (ls : Array Slot) (hP : va_P D vwCl (mdW cI z g) H) (hD : va_D A (mdW cI z g)) (hS : va_S A s.heap H locs) (hl : lv_has ls 4 [(0, .ref (z 0)), (1, .int x1), (2, .int x2)]) : W p l e (headSpec wsX6_copies rm_X6_copies).room s m args below meth c H locs 0 0 Q (F0 m 0 ls []) := by
  obtain ⟨hx, hb, hml, hown, hts⟩ := id S
  have inX6 := in_X6_copies_X6
  unfold fX6_copies at hf
  refine lv_iconst (v := (0 : Int32)) hx hb dX6_copies_0 kc_iconst_0 ?_
  refine lv_istore_n (lv' := [(3, .int (0 : Int32)), (0, .ref (z 0)), (1, .int x1), (2, .int x2)]) hx hb dX6_copies_1 rfl hl (by decide) rfl (fun ls hl => ?_)
  exact w_X6_copies_2 S hK hA hret _ _ _ hf H locs ls hP hD hS (lv_sub hl [1, 2, 3, 0] rfl)
set_option maxRecDepth 100000 in
theorem c_X6_copies (l : Launch) (D : va_G) (cI cN : ClassId) (z : Nat → Nat) (sz : Nat) (g : OS) (x1 : Int32) (x2 : Int32) (g' : OS) (hf : fX6_copies g x1 x2 = some g') : CtV l D cI cN yX6_copies wsX6_copies rm_X6_copies 0 0 [.ref (z 0), .int x1, .int x2] (mdW cI z g) sz (mdW cI z g') := by
  refine mV (cc := cX6_copies) (maxL := 4) (by decide) rfl (Nat.le_of_ble_eq_true rfl) ?_
  intro p e s m args below meth c Q A S _ hK hP hD hS hA hret ls hl
  exact w_X6_copies_0 S hK hA hret hf _ _ _ hP hD hS (lv_sub (show lv_has ls 4 [(0, .ref (z 0)), (1, .int x1), (2, .int x2)] from hl) [0, 1, 2] rfl)
abbrev rm_X6_accepts : Room := { frames := 1, cells := 0, slots := 0, locals := 23 }
theorem in_X6_accepts_X6 : ∀ w ∈ u_ws RX6 TX6 12, w ∈ wsX6_accepts := fun w h => List.mem_cons_of_mem _ (List.mem_append_right _ h)
set_option maxRecDepth 100000 in
set_option maxHeartbeats 4000000 in
theorem w_X6_accepts_35 {p : Program} {l : Launch} {e : Env} {s : State} {m : MethodId} {args : Array Value} {below : List Frame} {meth : Method} {c : Code} {Q : State → Prop} {D : va_G} {cI cN : ClassId} {A : Nat → Prop} {z : Nat → Nat} (S : CallFix p m c cX6_accepts 3 s args wsX6_accepts RX6) (hK : KN D cI cN s) (hA : ∀ q : Nat, s.heap.size ≤ q → A q) {g : OS} {x1 : Int32} {r0 : Int32} {g' : OS} (hret : ∀ (H : Heap) (locs : List Loc) (ls : Array Slot) (pc : Nat), decode cX6_accepts pc = .ok (.ireturn, 1) → narrow .int (.int r0) = .int r0 → va_P D vwCl (mdW cI z g') H → va_D A (mdW cI z g') → va_S A s.heap H locs → W p l e (headSpec wsX6_accepts rm_X6_accepts).room s m args below meth c H locs 0 0 Q (F0 m pc ls [.int r0])) (hf : fX6_accepts_35 g x1 = some (r0, g')) (H : Heap) (locs : List Loc) (ls : Array Slot) (hP : va_P D vwCl (mdW cI z g) H) (hD : va_D A (mdW cI z g)) (hS : va_S A s.heap H locs) (hl : lv_has ls 3 [(0, .ref (z 0)), (1, .int x1)]) : W p l e (headSpec wsX6_accepts rm_X6_accepts).room s m args below meth c H locs 0 0 Q (F0 m 35 ls []) := by
  obtain ⟨hx, hb, hml, hown, hts⟩ := id S
  have inX6 := in_X6_accepts_X6
  unfold fX6_accepts_35 at hf
  refine lv_aload_n hx hb dX6_accepts_35 rfl (lv_at hl 0 rfl) ?_
  refine lv_dup hx hb dX6_accepts_36 rfl ?_
  refine va_get (D := D) (ci := 6) (v := .int (g.1 1)) (C := RX6) (T := TX6) (N := 12) hx hb hts inX6 hown hK.1 hP 0 rfl rfl 1 (by decide) (hts (.fieldLink RX6 102 "ClosExchangeModel" "states" "I") (List.mem_of_getElem? (i := 1) rfl)) (fun _ h9 => h9) rfl dX6_accepts_37 ?_
  refine lv_aload_n hx hb dX6_accepts_40 rfl (lv_at hl 0 rfl) ?_
  refine va_get (D := D) (ci := 6) (v := .int (g.1 1)) (C := RX6) (T := TX6) (N := 12) hx hb hts inX6 hown hK.1 hP 0 rfl rfl 1 (by decide) (hts (.fieldLink RX6 102 "ClosExchangeModel" "states" "I") (List.mem_of_getElem? (i := 1) rfl)) (fun _ h9 => h9) rfl dX6_accepts_41 ?_
  refine lv_iconst (v := (4 : Int32)) hx hb dX6_accepts_44 kc_iconst_4 ?_
  obtain ⟨v4, hg, hf⟩ := it_j hf
  have hj : ∀ (H : Heap) (locs : List Loc) (ls : Array Slot), va_P D vwCl (mdW cI z g) H → va_D A (mdW cI z g) → va_S A s.heap H locs → lv_has ls 3 [(0, .ref (z 0)), (1, .int x1)] → W p l e (headSpec wsX6_accepts rm_X6_accepts).room s m args below meth c H locs 0 0 Q (F0 m 53 ls [.int v4, .int (g.1 1), .ref (z 0)]) := by
    intro H locs ls hP hD hS hl
    refine lv_iadd hx hb dX6_accepts_53 ?_
    obtain ⟨w5, hw5, hf⟩ := it_j hf
    rw [hw5]
    refine gput (D := D) (ci := 6) (v := .int w5) (ty := .int) (C := RX6) (T := TX6) (N := 12) (wf := (mdW cI z (setF g 1 w5))) hx hb hts inX6 tyX6 tyX6_ok nmX6 hown hK.1 hP hD hS 0 rfl rfl 1 (by decide) (hts (.fieldLink RX6 102 "ClosExchangeModel" "states" "I") (List.mem_of_getElem? (i := 1) rfl)) (fun _ h9 => h9) rfl (by decide +kernel) rfl rfl (Nat.le_of_ble_eq_true rfl) dX6_accepts_54 rfl (fun H locs hP hD hS => ?_)
    refine lv_aload_n hx hb dX6_accepts_57 rfl (lv_at hl 0 rfl) ?_
    refine lv_iconst (v := (0 : Int32)) hx hb dX6_accepts_58 kc_iconst_0 ?_
    refine lv_aload_n hx hb dX6_accepts_59 rfl (lv_at hl 0 rfl) ?_
    refine va_get (D := D) (ci := 6) (v := .int w5) (C := RX6) (T := TX6) (N := 12) hx hb hts inX6 hown hK.1 hP 0 rfl rfl 1 (by decide) (hts (.fieldLink RX6 102 "ClosExchangeModel" "states" "I") (List.mem_of_getElem? (i := 1) rfl)) (fun _ h9 => h9) rfl dX6_accepts_60 ?_
    obtain ⟨v6, hv6, hf⟩ := it_b hf
    refine cBv (As := [.int (0 : Int32), .int w5]) (rest := []) (q0 := 0) (ci := 6) [(true, (mdW cI z (setF g 1 w5)), (mdW cI z v6))] ⟨ad_mod, (fun h => Bool.noConfusion h), trivial⟩ S (c_X6_copies l D cI cN z _ (setF g 1 w5) (0 : Int32) w5 v6 hv6) (cwV 2 hts gX6_accepts_X6_copies rfl rfl rfl (by decide +kernel) ⟨Nat.le_of_ble_eq_true rfl, Nat.le_of_ble_eq_true rfl⟩) hK hP hD hS hA rfl rfl rfl hl.1 rfl (Nat.le_of_ble_eq_true rfl) dX6_accepts_63 ⟨Nat.zero_le _, Nat.zero_le _⟩ (fun H locs hP hD hS => ?_)
    refine lv_aload_n hx hb dX6_accepts_66 rfl (lv_at hl 0 rfl) ?_
    refine lv_bipush (v := (6 : Int32)) hx hb dX6_accepts_67 kc_bipush_6 ?_
    refine lv_iconst (v := (0 : Int32)) hx hb dX6_accepts_69 kc_iconst_0 ?_
    obtain ⟨v7, hv7, hf⟩ := it_b hf
    refine cBv (As := [.int (6 : Int32), .int (0 : Int32)]) (rest := []) (q0 := 0) (ci := 6) [(true, (mdW cI z v6), (mdW cI z v7))] ⟨ad_mod, (fun h => Bool.noConfusion h), trivial⟩ S (c_X6_copies l D cI cN z _ v6 (6 : Int32) (0 : Int32) v7 hv7) (cwV 2 hts gX6_accepts_X6_copies rfl rfl rfl (by decide +kernel) ⟨Nat.le_of_ble_eq_true rfl, Nat.le_of_ble_eq_true rfl⟩) hK hP hD hS hA rfl rfl rfl hl.1 rfl (Nat.le_of_ble_eq_true rfl) dX6_accepts_70 ⟨Nat.zero_le _, Nat.zero_le _⟩ (fun H locs hP hD hS => ?_)
    refine lv_iload_n hx hb dX6_accepts_73 rfl (lv_at hl 1 rfl) ?_
    have e0 : x1 = r0 := congrArg (fun z => z.1) (Option.some.inj hf)
    have e1 : v7 = g' := congrArg (fun z => z.2) (Option.some.inj hf)
    subst e0
    subst e1
    exact hret H locs ls _ dX6_accepts_74 rfl hP hD hS
  have hf := hg
  refine lv_icmp_ge (tgt := 52) hx hb dX6_accepts_45 (by decide) (fun c3 => ?_) (fun c3 => ?_)
  · have hf := it_t hf c3
    refine lv_iconst (v := (0 : Int32)) hx hb dX6_accepts_52 kc_iconst_0 ?_
    have e0 := hf
    subst e0
    exact hj H locs ls hP hD hS (lv_sub hl [0, 1] rfl)
  · have hf := it_f hf c3
    refine lv_iconst (v := (1 : Int32)) hx hb dX6_accepts_48 kc_iconst_1 ?_
    refine lv_goto (tgt := 53) hx hb dX6_accepts_49 (by decide) ?_
    have e0 := hf
    subst e0
    exact hj H locs ls hP hD hS (lv_sub hl [0, 1] rfl)
set_option maxRecDepth 100000 in
set_option maxHeartbeats 4000000 in
theorem w_X6_accepts_8 {p : Program} {l : Launch} {e : Env} {s : State} {m : MethodId} {args : Array Value} {below : List Frame} {meth : Method} {c : Code} {Q : State → Prop} {D : va_G} {cI cN : ClassId} {A : Nat → Prop} {z : Nat → Nat} (S : CallFix p m c cX6_accepts 3 s args wsX6_accepts RX6) (hK : KN D cI cN s) (hA : ∀ q : Nat, s.heap.size ≤ q → A q) {x1 : Int32} {r0 : Int32} {g' : OS} (hret : ∀ (H : Heap) (locs : List Loc) (ls : Array Slot) (pc : Nat), decode cX6_accepts pc = .ok (.ireturn, 1) → narrow .int (.int r0) = .int r0 → va_P D vwCl (mdW cI z g') H → va_D A (mdW cI z g') → va_S A s.heap H locs → W p l e (headSpec wsX6_accepts rm_X6_accepts).room s m args below meth c H locs 0 0 Q (F0 m pc ls [.int r0])) : ∀ (k : Nat) (x2 : Int32) (g : OS), fX6_accepts_8 x1 k x2 g = some (r0, g') → ∀ (H : Heap) (locs : List Loc) (ls : Array Slot), va_P D vwCl (mdW cI z g) H → va_D A (mdW cI z g) → va_S A s.heap H locs → lv_has ls 3 [(0, .ref (z 0)), (1, .int x1), (2, .int x2)] → W p l e (headSpec wsX6_accepts rm_X6_accepts).room s m args below meth c H locs 0 0 Q (F0 m 8 ls []) := by
  obtain ⟨hx, hb, hml, hown, hts⟩ := id S
  have inX6 := in_X6_accepts_X6
  intro k
  induction k with
  | zero => intro x2 g hf; rw [fX6_accepts_8_z] at hf; cases hf
  | succ k ih =>
    intro x2 g hf H locs ls hP hD hS hl
    rw [fX6_accepts_8_s] at hf
    refine lv_iload_n hx hb dX6_accepts_8 rfl (lv_at hl 2 rfl) ?_
    refine lv_iconst (v := (4 : Int32)) hx hb dX6_accepts_9 kc_iconst_4 ?_
    refine lv_icmp_ge (tgt := 35) hx hb dX6_accepts_10 (by decide) (fun c2 => ?_) (fun c2 => ?_)
    · have hf := it_t hf c2
      exact w_X6_accepts_35 S hK hA hret hf H locs ls hP hD hS (lv_sub hl [0, 1] rfl)
    · have hf := it_f hf c2
      refine lv_aload_n hx hb dX6_accepts_13 rfl (lv_at hl 0 rfl) ?_
      refine va_get (D := D) (ci := 6) (v := .int (g.1 1)) (C := RX6) (T := TX6) (N := 12) hx hb hts inX6 hown hK.1 hP 0 rfl rfl 1 (by decide) (hts (.fieldLink RX6 102 "ClosExchangeModel" "states" "I") (List.mem_of_getElem? (i := 1) rfl)) (fun _ h9 => h9) rfl dX6_accepts_14 ?_
      refine lv_iconst (v := (4 : Int32)) hx hb dX6_accepts_17 kc_iconst_4 ?_
      refine lv_icmp_ne (tgt := 35) hx hb dX6_accepts_18 (by decide) (fun c8 => ?_) (fun c8 => ?_)
      · have hf := it_f hf c8
        exact w_X6_accepts_35 S hK hA hret hf H locs ls hP hD hS (lv_sub hl [0, 1] rfl)
      · have hf := it_t hf c8
        refine lv_aload_n hx hb dX6_accepts_21 rfl (lv_at hl 0 rfl) ?_
        refine lv_iload_n hx hb dX6_accepts_22 rfl (lv_at hl 2 rfl) ?_
        refine lv_iconst (v := (1 : Int32)) hx hb dX6_accepts_23 kc_iconst_1 ?_
        refine lv_iadd hx hb dX6_accepts_24 ?_
        refine lv_iload_n hx hb dX6_accepts_25 rfl (lv_at hl 2 rfl) ?_
        obtain ⟨v9, hv9, hf⟩ := it_b hf
        refine cBv (As := [.int (x2 + (1 : Int32)), .int x2]) (rest := []) (q0 := 0) (ci := 6) [(true, (mdW cI z g), (mdW cI z v9))] ⟨ad_mod, (fun h => Bool.noConfusion h), trivial⟩ S (c_X6_copies l D cI cN z _ g (x2 + (1 : Int32)) x2 v9 hv9) (cwV 2 hts gX6_accepts_X6_copies rfl rfl rfl (by decide +kernel) ⟨Nat.le_of_ble_eq_true rfl, Nat.le_of_ble_eq_true rfl⟩) hK hP hD hS hA rfl rfl rfl hl.1 rfl (Nat.le_of_ble_eq_true rfl) dX6_accepts_26 ⟨Nat.zero_le _, Nat.zero_le _⟩ (fun H locs hP hD hS => ?_)
        refine lv_iinc (v := (x2 + (1 : Int32))) (lv' := [(2, .int (x2 + (1 : Int32))), (0, .ref (z 0)), (1, .int x1)]) hx hb dX6_accepts_29 hl (k := 2) rfl rfl (by decide) rfl (fun ls hl => ?_)
        refine lv_goto (tgt := 8) hx hb dX6_accepts_32 (by decide) ?_
        exact ih _ _ hf H locs ls hP hD hS (lv_sub hl [1, 2, 0] rfl)
set_option maxRecDepth 100000 in
set_option maxHeartbeats 4000000 in
theorem w_X6_accepts_0 {p : Program} {l : Launch} {e : Env} {s : State} {m : MethodId} {args : Array Value} {below : List Frame} {meth : Method} {c : Code} {Q : State → Prop} {D : va_G} {cI cN : ClassId} {A : Nat → Prop} {z : Nat → Nat} (S : CallFix p m c cX6_accepts 3 s args wsX6_accepts RX6) (hK : KN D cI cN s) (hA : ∀ q : Nat, s.heap.size ≤ q → A q) {g : OS} {x1 : Int32} {r0 : Int32} {g' : OS} (hret : ∀ (H : Heap) (locs : List Loc) (ls : Array Slot) (pc : Nat), decode cX6_accepts pc = .ok (.ireturn, 1) → narrow .int (.int r0) = .int r0 → va_P D vwCl (mdW cI z g') H → va_D A (mdW cI z g') → va_S A s.heap H locs → W p l e (headSpec wsX6_accepts rm_X6_accepts).room s m args below meth c H locs 0 0 Q (F0 m pc ls [.int r0])) (hf : fX6_accepts g x1 = some (r0, g')) (H : Heap) (locs : List Loc) (ls : Array Slot) (hP : va_P D vwCl (mdW cI z g) H) (hD : va_D A (mdW cI z g)) (hS : va_S A s.heap H locs) (hl : lv_has ls 3 [(0, .ref (z 0)), (1, .int x1)]) : W p l e (headSpec wsX6_accepts rm_X6_accepts).room s m args below meth c H locs 0 0 Q (F0 m 0 ls []) := by
  obtain ⟨hx, hb, hml, hown, hts⟩ := id S
  have inX6 := in_X6_accepts_X6
  unfold fX6_accepts at hf
  refine lv_iload_n hx hb dX6_accepts_0 rfl (lv_at hl 1 rfl) ?_
  refine lv_if_ge (tgt := 6) hx hb dX6_accepts_1 (by decide) (fun c1 => ?_) (fun c1 => ?_)
  · have hf := it_t hf c1
    refine lv_iconst (v := (1 : Int32)) hx hb dX6_accepts_6 kc_iconst_1 ?_
    refine lv_istore_n (lv' := [(2, .int (1 : Int32)), (0, .ref (z 0)), (1, .int x1)]) hx hb dX6_accepts_7 rfl hl (by decide) rfl (fun ls hl => ?_)
    exact w_X6_accepts_8 S hK hA hret _ _ _ hf H locs ls hP hD hS (lv_sub hl [1, 2, 0] rfl)
  · have hf := it_f hf c1
    refine lv_iload_n hx hb dX6_accepts_4 rfl (lv_at hl 1 rfl) ?_
    have e0 : x1 = r0 := congrArg (fun z => z.1) (Option.some.inj hf)
    have e1 : g = g' := congrArg (fun z => z.2) (Option.some.inj hf)
    subst e0
    subst e1
    exact hret H locs ls _ dX6_accepts_5 rfl hP hD hS
set_option maxRecDepth 100000 in
theorem c_X6_accepts (l : Launch) (D : va_G) (cI cN : ClassId) (z : Nat → Nat) (sz : Nat) (g : OS) (x1 : Int32) (r0 : Int32) (g' : OS) (hf : fX6_accepts g x1 = some (r0, g')) : CtI l D cI cN yX6_accepts wsX6_accepts rm_X6_accepts 0 0 [.ref (z 0), .int x1] (mdW cI z g) sz r0 (mdW cI z g') := by
  refine mW (cc := cX6_accepts) (maxL := 3) (ty := .int) (by decide) rfl rfl (Nat.le_of_ble_eq_true rfl) ?_
  intro p e s m args below meth c Q A S hK hP hD hS hA hret ls hl
  exact w_X6_accepts_0 S hK hA hret hf _ _ _ hP hD hS (lv_sub (show lv_has ls 3 [(0, .ref (z 0)), (1, .int x1)] from hl) [0, 1] rfl)
abbrev rm_X6_setUp : Room := { frames := 2, cells := 0, slots := 0, locals := 49 }
theorem in_X6_setUp_X6 : ∀ w ∈ u_ws RX6 TX6 12, w ∈ wsX6_setUp := fun w h => List.mem_cons_of_mem _ (List.mem_append_right _ h)
set_option maxRecDepth 100000 in
set_option maxHeartbeats 4000000 in
theorem w_X6_setUp_0 {p : Program} {l : Launch} {e : Env} {s : State} {m : MethodId} {args : Array Value} {below : List Frame} {meth : Method} {c : Code} {Q : State → Prop} {D : va_G} {cI cN : ClassId} {A : Nat → Prop} {z : Nat → Nat} (S : CallFix p m c cX6_setUp 5 s args wsX6_setUp RX6) (hK : KN D cI cN s) (hA : ∀ q : Nat, s.heap.size ≤ q → A q) {g : OS} {x1 : Int32} {x2 : Int32} {x3 : Int32} {r0 : Int32} {g' : OS} (hret : ∀ (H : Heap) (locs : List Loc) (ls : Array Slot) (pc : Nat), decode cX6_setUp pc = .ok (.ireturn, 1) → narrow .int (.int r0) = .int r0 → va_P D vwCl (mdW cI z g') H → va_D A (mdW cI z g') → va_S A s.heap H locs → W p l e (headSpec wsX6_setUp rm_X6_setUp).room s m args below meth c H locs 0 0 Q (F0 m pc ls [.int r0])) (hf : fX6_setUp g x1 x2 x3 = some (r0, g')) (H : Heap) (locs : List Loc) (ls : Array Slot) (hP : va_P D vwCl (mdW cI z g) H) (hD : va_D A (mdW cI z g)) (hS : va_S A s.heap H locs) (hl : lv_has ls 5 [(0, .ref (z 0)), (1, .int x1), (2, .int x2), (3, .int x3)]) : W p l e (headSpec wsX6_setUp rm_X6_setUp).room s m args below meth c H locs 0 0 Q (F0 m 0 ls []) := by
  obtain ⟨hx, hb, hml, hown, hts⟩ := id S
  have inX6 := in_X6_setUp_X6
  unfold fX6_setUp at hf
  refine lv_iload_n hx hb dX6_setUp_0 rfl (lv_at hl 1 rfl) ?_
  refine lv_iconst (v := (2 : Int32)) hx hb dX6_setUp_1 kc_iconst_2 ?_
  refine lv_bipush (v := (8 : Int32)) hx hb dX6_setUp_2 kc_bipush_8 ?_
  refine cSi (As := [.int x1, .int (2 : Int32), .int (8 : Int32)]) (rest := []) S (c_X6_in l D cI cN _ x1 (2 : Int32) (8 : Int32) (fX6_in x1 (2 : Int32) (8 : Int32)) rfl) (va_cwS 3 hts gX6_setUp_X6_in rfl rfl rfl (by decide +kernel) ⟨Nat.le_of_ble_eq_true rfl, Nat.le_of_ble_eq_true rfl⟩) hK hP hS hA [] rfl rfl hl.1 rfl (Nat.le_of_ble_eq_true rfl) dX6_setUp_4 ⟨Nat.zero_le _, Nat.zero_le _⟩ (fun H locs hP hS => ?_)
  refine lv_if_eq (tgt := 30) hx hb dX6_setUp_7 (by decide) (fun c1 => ?_) (fun c1 => ?_)
  · have hf := it_t hf c1
    refine lv_bipush (v := (-2 : Int32)) hx hb dX6_setUp_30 kc_bipush_m2 ?_
    have e0 : (-2 : Int32) = r0 := congrArg (fun z => z.1) (Option.some.inj hf)
    have e1 : g = g' := congrArg (fun z => z.2) (Option.some.inj hf)
    subst e0
    subst e1
    exact hret H locs ls _ dX6_setUp_32 rfl hP hD hS
  · have hf := it_f hf c1
    refine lv_iload_n hx hb dX6_setUp_10 rfl (lv_at hl 2 rfl) ?_
    refine lv_iconst (v := (1 : Int32)) hx hb dX6_setUp_11 kc_iconst_1 ?_
    refine lv_bipush (v := (6 : Int32)) hx hb dX6_setUp_12 kc_bipush_6 ?_
    refine cSi (As := [.int x2, .int (1 : Int32), .int (6 : Int32)]) (rest := []) S (c_X6_in l D cI cN _ x2 (1 : Int32) (6 : Int32) (fX6_in x2 (1 : Int32) (6 : Int32)) rfl) (va_cwS 3 hts gX6_setUp_X6_in rfl rfl rfl (by decide +kernel) ⟨Nat.le_of_ble_eq_true rfl, Nat.le_of_ble_eq_true rfl⟩) hK hP hS hA [] rfl rfl hl.1 rfl (Nat.le_of_ble_eq_true rfl) dX6_setUp_14 ⟨Nat.zero_le _, Nat.zero_le _⟩ (fun H locs hP hS => ?_)
    refine lv_if_eq (tgt := 30) hx hb dX6_setUp_17 (by decide) (fun c2 => ?_) (fun c2 => ?_)
    · have hf := it_t hf c2
      refine lv_bipush (v := (-2 : Int32)) hx hb dX6_setUp_30 kc_bipush_m2 ?_
      have e0 : (-2 : Int32) = r0 := congrArg (fun z => z.1) (Option.some.inj hf)
      have e1 : g = g' := congrArg (fun z => z.2) (Option.some.inj hf)
      subst e0
      subst e1
      exact hret H locs ls _ dX6_setUp_32 rfl hP hD hS
    · have hf := it_f hf c2
      refine lv_iload_n hx hb dX6_setUp_20 rfl (lv_at hl 3 rfl) ?_
      refine lv_iconst (v := (1 : Int32)) hx hb dX6_setUp_21 kc_iconst_1 ?_
      refine lv_bipush (v := (8 : Int32)) hx hb dX6_setUp_22 kc_bipush_8 ?_
      refine cSi (As := [.int x3, .int (1 : Int32), .int (8 : Int32)]) (rest := []) S (c_X6_in l D cI cN _ x3 (1 : Int32) (8 : Int32) (fX6_in x3 (1 : Int32) (8 : Int32)) rfl) (va_cwS 3 hts gX6_setUp_X6_in rfl rfl rfl (by decide +kernel) ⟨Nat.le_of_ble_eq_true rfl, Nat.le_of_ble_eq_true rfl⟩) hK hP hS hA [] rfl rfl hl.1 rfl (Nat.le_of_ble_eq_true rfl) dX6_setUp_24 ⟨Nat.zero_le _, Nat.zero_le _⟩ (fun H locs hP hS => ?_)
      refine lv_if_ne (tgt := 33) hx hb dX6_setUp_27 (by decide) (fun c3 => ?_) (fun c3 => ?_)
      · have hf := it_f hf c3
        refine lv_aload_n hx hb dX6_setUp_33 rfl (lv_at hl 0 rfl) ?_
        refine lv_iconst (v := (0 : Int32)) hx hb dX6_setUp_34 kc_iconst_0 ?_
        refine lv_bipush (v := (6 : Int32)) hx hb dX6_setUp_35 kc_bipush_6 ?_
        obtain ⟨v4, hv4, hf⟩ := it_b hf
        refine cBv (As := [.int (0 : Int32), .int (6 : Int32)]) (rest := []) (q0 := 0) (ci := 6) [(true, (mdW cI z g), (mdW cI z v4))] ⟨ad_mod, (fun h => Bool.noConfusion h), trivial⟩ S (c_X6_copies l D cI cN z _ g (0 : Int32) (6 : Int32) v4 hv4) (cwV 2 hts gX6_setUp_X6_copies rfl rfl rfl (by decide +kernel) ⟨Nat.le_of_ble_eq_true rfl, Nat.le_of_ble_eq_true rfl⟩) hK hP hD hS hA rfl rfl rfl hl.1 rfl (Nat.le_of_ble_eq_true rfl) dX6_setUp_37 ⟨Nat.zero_le _, Nat.zero_le _⟩ (fun H locs hP hD hS => ?_)
        refine lv_aload_n hx hb dX6_setUp_40 rfl (lv_at hl 0 rfl) ?_
        refine lv_iconst (v := (0 : Int32)) hx hb dX6_setUp_41 kc_iconst_0 ?_
        obtain ⟨v5, hv5, hf⟩ := it_b hf
        refine cQi (As := [.int (0 : Int32)]) (rest := []) (q0 := 0) (ci := 6) S (c_X6_calls l D cI cN z _ v4 (0 : Int32) v5 hv5) (cwV 1 hts gX6_setUp_X6_calls rfl rfl rfl (by decide +kernel) ⟨Nat.le_of_ble_eq_true rfl, Nat.le_of_ble_eq_true rfl⟩) hK hP hS hA hP rfl rfl rfl hl.1 rfl (Nat.le_of_ble_eq_true rfl) dX6_setUp_42 ⟨Nat.zero_le _, Nat.zero_le _⟩ (fun H locs hP hS => ?_)
        refine lv_istore (lv' := [(4, .int v5), (0, .ref (z 0)), (1, .int x1), (2, .int x2), (3, .int x3)]) hx hb dX6_setUp_45 hl (by decide) rfl (fun ls hl => ?_)
        refine lv_aload_n hx hb dX6_setUp_47 rfl (lv_at hl 1 rfl) ?_
        refine va_get (D := D) (ci := 6) (v := .ref (z 1)) (C := RX6) (T := TX6) (N := 12) hx hb hts inX6 hown hK.1 hP 0 rfl rfl 0 (by decide) (hts (.fieldLink RX6 7 "ClosExchangeModel" "s" "[I") (List.mem_of_getElem? (i := 1) rfl)) (fun _ h9 => h9) rfl dX6_setUp_48 ?_
        refine lv_sipush (v := (930 : Int32)) hx hb dX6_setUp_51 kc_sipush_930 ?_
        refine lv_dup2_11 hx hb dX6_setUp_54 rfl rfl ?_
        obtain ⟨c6, hf⟩ := it_g hf
        refine va_iald hx hb hK.1 hP 1 0 rfl rfl (inb_in c6) dX6_setUp_55 ?_
        refine lv_iload hx hb dX6_setUp_56 (lv_at hl 0 rfl) ?_
        refine lv_iadd hx hb dX6_setUp_58 ?_
        obtain ⟨c7, hf⟩ := it_g hf
        obtain ⟨w8, hw8, hf⟩ := it_j hf
        refine giastw (wf := (mdW cI z (setR v4 0 w8))) hw8 hx hb hK.1 hP hD hS 1 0 rfl rfl (inb_in c7) dX6_setUp_59 rfl (fun H locs hP hD hS => ?_)
        refine lv_aload_n hx hb dX6_setUp_60 rfl (lv_at hl 1 rfl) ?_
        refine lv_sipush (v := (924 : Int32)) hx hb dX6_setUp_61 kc_sipush_924 ?_
        refine lv_iload_n hx hb dX6_setUp_64 rfl (lv_at hl 2 rfl) ?_
        refine lv_iload_n hx hb dX6_setUp_65 rfl (lv_at hl 3 rfl) ?_
        refine lv_iload_n hx hb dX6_setUp_66 rfl (lv_at hl 4 rfl) ?_
        obtain ⟨v9, hv9, hf⟩ := it_b hf
        refine cBv (As := [.int (924 : Int32), .int x1, .int x2, .int x3]) (rest := []) (q0 := 0) (ci := 6) [(true, (mdW cI z (setR v4 0 w8)), (mdW cI z v9))] ⟨ad_mod, (fun h => Bool.noConfusion h), trivial⟩ S (c_X6_builds l D cI cN z _ (setR v4 0 w8) (924 : Int32) x1 x2 x3 v9 hv9) (cwV 4 hts gX6_setUp_X6_builds rfl rfl rfl (by decide +kernel) ⟨Nat.le_of_ble_eq_true rfl, Nat.le_of_ble_eq_true rfl⟩) hK hP hD hS hA rfl rfl rfl hl.1 rfl (Nat.le_of_ble_eq_true rfl) dX6_setUp_67 ⟨Nat.zero_le _, Nat.zero_le _⟩ (fun H locs hP hD hS => ?_)
        refine lv_aload_n hx hb dX6_setUp_70 rfl (lv_at hl 1 rfl) ?_
        refine lv_iload hx hb dX6_setUp_71 (lv_at hl 0 rfl) ?_
        obtain ⟨v10, hv10, hf⟩ := it_b hf
        refine cBi (As := [.int v5]) (rest := []) (q0 := 0) (ci := 6) [(true, (mdW cI z v9), (mdW cI z v10.2))] ⟨ad_mod, (fun h => Bool.noConfusion h), trivial⟩ S (c_X6_accepts l D cI cN z _ v9 v5 v10.1 v10.2 hv10) (cwV 1 hts gX6_setUp_X6_accepts rfl rfl rfl (by decide +kernel) ⟨Nat.le_of_ble_eq_true rfl, Nat.le_of_ble_eq_true rfl⟩) hK hP hD hS hA rfl rfl rfl hl.1 rfl (Nat.le_of_ble_eq_true rfl) dX6_setUp_73 ⟨Nat.zero_le _, Nat.zero_le _⟩ (fun H locs hP hD hS => ?_)
        have e0 : v10.1 = r0 := congrArg (fun z => z.1) (Option.some.inj hf)
        have e1 : v10.2 = g' := congrArg (fun z => z.2) (Option.some.inj hf)
        subst e0
        subst e1
        exact hret H locs ls _ dX6_setUp_76 rfl hP hD hS
      · have hf := it_t hf c3
        refine lv_bipush (v := (-2 : Int32)) hx hb dX6_setUp_30 kc_bipush_m2 ?_
        have e0 : (-2 : Int32) = r0 := congrArg (fun z => z.1) (Option.some.inj hf)
        have e1 : g = g' := congrArg (fun z => z.2) (Option.some.inj hf)
        subst e0
        subst e1
        exact hret H locs ls _ dX6_setUp_32 rfl hP hD hS
set_option maxRecDepth 100000 in
theorem c_X6_setUp (l : Launch) (D : va_G) (cI cN : ClassId) (z : Nat → Nat) (sz : Nat) (g : OS) (x1 : Int32) (x2 : Int32) (x3 : Int32) (r0 : Int32) (g' : OS) (hf : fX6_setUp g x1 x2 x3 = some (r0, g')) : CtI l D cI cN yX6_setUp wsX6_setUp rm_X6_setUp 0 0 [.ref (z 0), .int x1, .int x2, .int x3] (mdW cI z g) sz r0 (mdW cI z g') := by
  refine mW (cc := cX6_setUp) (maxL := 5) (ty := .int) (by decide) rfl rfl (Nat.le_of_ble_eq_true rfl) ?_
  intro p e s m args below meth c Q A S hK hP hD hS hA hret ls hl
  exact w_X6_setUp_0 S hK hA hret hf _ _ _ hP hD hS (lv_sub (show lv_has ls 5 [(0, .ref (z 0)), (1, .int x1), (2, .int x2), (3, .int x3)] from hl) [0, 1, 2, 3] rfl)
abbrev rm_X6_rules : Room := { frames := 2, cells := 0, slots := 0, locals := 45 }
theorem in_X6_rules_X6 : ∀ w ∈ u_ws RX6 TX6 12, w ∈ wsX6_rules := fun w h => List.mem_cons_of_mem _ (List.mem_append_right _ h)
set_option maxRecDepth 100000 in
set_option maxHeartbeats 4000000 in
theorem w_X6_rules_0 {p : Program} {l : Launch} {e : Env} {s : State} {m : MethodId} {args : Array Value} {below : List Frame} {meth : Method} {c : Code} {Q : State → Prop} {D : va_G} {cI cN : ClassId} {A : Nat → Prop} {z : Nat → Nat} (S : CallFix p m c cX6_rules 5 s args wsX6_rules RX6) (hK : KN D cI cN s) (hA : ∀ q : Nat, s.heap.size ≤ q → A q) {g : OS} {x1 : Int32} {x2 : Int32} {x3 : Int32} {r0 : Int32} {g' : OS} (hret : ∀ (H : Heap) (locs : List Loc) (ls : Array Slot) (pc : Nat), decode cX6_rules pc = .ok (.ireturn, 1) → narrow .int (.int r0) = .int r0 → va_P D vwCl (mdW cI z g') H → va_D A (mdW cI z g') → va_S A s.heap H locs → W p l e (headSpec wsX6_rules rm_X6_rules).room s m args below meth c H locs 0 0 Q (F0 m pc ls [.int r0])) (hf : fX6_rules g x1 x2 x3 = some (r0, g')) (H : Heap) (locs : List Loc) (ls : Array Slot) (hP : va_P D vwCl (mdW cI z g) H) (hD : va_D A (mdW cI z g)) (hS : va_S A s.heap H locs) (hl : lv_has ls 5 [(0, .ref (z 0)), (1, .int x1), (2, .int x2), (3, .int x3)]) : W p l e (headSpec wsX6_rules rm_X6_rules).room s m args below meth c H locs 0 0 Q (F0 m 0 ls []) := by
  obtain ⟨hx, hb, hml, hown, hts⟩ := id S
  have inX6 := in_X6_rules_X6
  unfold fX6_rules at hf
  refine lv_iload_n hx hb dX6_rules_0 rfl (lv_at hl 2 rfl) ?_
  refine lv_iconst (v := (0 : Int32)) hx hb dX6_rules_1 kc_iconst_0 ?_
  refine lv_iload_n hx hb dX6_rules_2 rfl (lv_at hl 3 rfl) ?_
  refine cSi (As := [.int x2, .int (0 : Int32), .int x3]) (rest := []) S (c_X6_in l D cI cN _ x2 (0 : Int32) x3 (fX6_in x2 (0 : Int32) x3) rfl) (va_cwS 3 hts gX6_rules_X6_in rfl rfl rfl (by decide +kernel) ⟨Nat.le_of_ble_eq_true rfl, Nat.le_of_ble_eq_true rfl⟩) hK hP hS hA [] rfl rfl hl.1 rfl (Nat.le_of_ble_eq_true rfl) dX6_rules_3 ⟨Nat.zero_le _, Nat.zero_le _⟩ (fun H locs hP hS => ?_)
  refine lv_if_ne (tgt := 12) hx hb dX6_rules_6 (by decide) (fun c1 => ?_) (fun c1 => ?_)
  · have hf := it_f hf c1
    refine lv_aload_n hx hb dX6_rules_12 rfl (lv_at hl 0 rfl) ?_
    refine va_get (D := D) (ci := 6) (v := .ref (z 1)) (C := RX6) (T := TX6) (N := 12) hx hb hts inX6 hown hK.1 hP 0 rfl rfl 0 (by decide) (hts (.fieldLink RX6 7 "ClosExchangeModel" "s" "[I") (List.mem_of_getElem? (i := 1) rfl)) (fun _ h9 => h9) rfl dX6_rules_13 ?_
    refine lv_iload_n hx hb dX6_rules_16 rfl (lv_at hl 1 rfl) ?_
    obtain ⟨c2, hf⟩ := it_g hf
    refine va_iald hx hb hK.1 hP 1 0 rfl rfl (inb_in c2) dX6_rules_17 ?_
    refine lv_istore (lv' := [(4, .int ((g.2 0) x1.toNatClampNeg)), (0, .ref (z 0)), (1, .int x1), (2, .int x2), (3, .int x3)]) hx hb dX6_rules_18 hl (by decide) rfl (fun ls hl => ?_)
    refine lv_iload hx hb dX6_rules_20 (lv_at hl 0 rfl) ?_
    refine lv_iload_n hx hb dX6_rules_22 rfl (lv_at hl 3 rfl) ?_
    refine lv_icmp_ne (tgt := 29) hx hb dX6_rules_23 (by decide) (fun c3 => ?_) (fun c3 => ?_)
    · have hf := it_f hf c3
      refine lv_aload_n hx hb dX6_rules_29 rfl (lv_at hl 1 rfl) ?_
      refine lv_iconst (v := (0 : Int32)) hx hb dX6_rules_30 kc_iconst_0 ?_
      refine lv_bipush (v := (6 : Int32)) hx hb dX6_rules_31 kc_bipush_6 ?_
      obtain ⟨v4, hv4, hf⟩ := it_b hf
      refine cBv (As := [.int (0 : Int32), .int (6 : Int32)]) (rest := []) (q0 := 0) (ci := 6) [(true, (mdW cI z g), (mdW cI z v4))] ⟨ad_mod, (fun h => Bool.noConfusion h), trivial⟩ S (c_X6_copies l D cI cN z _ g (0 : Int32) (6 : Int32) v4 hv4) (cwV 2 hts gX6_rules_X6_copies rfl rfl rfl (by decide +kernel) ⟨Nat.le_of_ble_eq_true rfl, Nat.le_of_ble_eq_true rfl⟩) hK hP hD hS hA rfl rfl rfl hl.1 rfl (Nat.le_of_ble_eq_true rfl) dX6_rules_33 ⟨Nat.zero_le _, Nat.zero_le _⟩ (fun H locs hP hD hS => ?_)
      refine lv_aload_n hx hb dX6_rules_36 rfl (lv_at hl 1 rfl) ?_
      refine va_get (D := D) (ci := 6) (v := .ref (z 1)) (C := RX6) (T := TX6) (N := 12) hx hb hts inX6 hown hK.1 hP 0 rfl rfl 0 (by decide) (hts (.fieldLink RX6 7 "ClosExchangeModel" "s" "[I") (List.mem_of_getElem? (i := 1) rfl)) (fun _ h9 => h9) rfl dX6_rules_37 ?_
      refine lv_sipush (v := (924 : Int32)) hx hb dX6_rules_40 kc_sipush_924 ?_
      refine lv_iload_n hx hb dX6_rules_43 rfl (lv_at hl 2 rfl) ?_
      refine lv_iadd hx hb dX6_rules_44 ?_
      refine lv_iload_n hx hb dX6_rules_45 rfl (lv_at hl 3 rfl) ?_
      obtain ⟨c5, hf⟩ := it_g hf
      obtain ⟨w6, hw6, hf⟩ := it_j hf
      refine giastw (wf := (mdW cI z (setR v4 0 w6))) hw6 hx hb hK.1 hP hD hS 1 0 rfl rfl (inb_in c5) dX6_rules_46 rfl (fun H locs hP hD hS => ?_)
      refine lv_aload_n hx hb dX6_rules_47 rfl (lv_at hl 1 rfl) ?_
      refine lv_iload hx hb dX6_rules_48 (lv_at hl 0 rfl) ?_
      obtain ⟨v7, hv7, hf⟩ := it_b hf
      refine cBi (As := [.int ((g.2 0) x1.toNatClampNeg)]) (rest := []) (q0 := 0) (ci := 6) [(true, (mdW cI z (setR v4 0 w6)), (mdW cI z v7.2))] ⟨ad_mod, (fun h => Bool.noConfusion h), trivial⟩ S (c_X6_accepts l D cI cN z _ (setR v4 0 w6) ((g.2 0) x1.toNatClampNeg) v7.1 v7.2 hv7) (cwV 1 hts gX6_rules_X6_accepts rfl rfl rfl (by decide +kernel) ⟨Nat.le_of_ble_eq_true rfl, Nat.le_of_ble_eq_true rfl⟩) hK hP hD hS hA rfl rfl rfl hl.1 rfl (Nat.le_of_ble_eq_true rfl) dX6_rules_50 ⟨Nat.zero_le _, Nat.zero_le _⟩ (fun H locs hP hD hS => ?_)
      have e0 : v7.1 = r0 := congrArg (fun z => z.1) (Option.some.inj hf)
      have e1 : v7.2 = g' := congrArg (fun z => z.2) (Option.some.inj hf)
      subst e0
      subst e1
      exact hret H locs ls _ dX6_rules_53 rfl hP hD hS
    · have hf := it_t hf c3
      refine lv_bipush (v := (-6 : Int32)) hx hb dX6_rules_26 kc_bipush_m6 ?_
      have e0 : (-6 : Int32) = r0 := congrArg (fun z => z.1) (Option.some.inj hf)
      have e1 : g = g' := congrArg (fun z => z.2) (Option.some.inj hf)
      subst e0
      subst e1
      exact hret H locs ls _ dX6_rules_28 rfl hP hD hS
  · have hf := it_t hf c1
    refine lv_bipush (v := (-2 : Int32)) hx hb dX6_rules_9 kc_bipush_m2 ?_
    have e0 : (-2 : Int32) = r0 := congrArg (fun z => z.1) (Option.some.inj hf)
    have e1 : g = g' := congrArg (fun z => z.2) (Option.some.inj hf)
    subst e0
    subst e1
    exact hret H locs ls _ dX6_rules_11 rfl hP hD hS
set_option maxRecDepth 100000 in
theorem c_X6_rules (l : Launch) (D : va_G) (cI cN : ClassId) (z : Nat → Nat) (sz : Nat) (g : OS) (x1 : Int32) (x2 : Int32) (x3 : Int32) (r0 : Int32) (g' : OS) (hf : fX6_rules g x1 x2 x3 = some (r0, g')) : CtI l D cI cN yX6_rules wsX6_rules rm_X6_rules 0 0 [.ref (z 0), .int x1, .int x2, .int x3] (mdW cI z g) sz r0 (mdW cI z g') := by
  refine mW (cc := cX6_rules) (maxL := 5) (ty := .int) (by decide) rfl rfl (Nat.le_of_ble_eq_true rfl) ?_
  intro p e s m args below meth c Q A S hK hP hD hS hA hret ls hl
  exact w_X6_rules_0 S hK hA hret hf _ _ _ hP hD hS (lv_sub (show lv_has ls 5 [(0, .ref (z 0)), (1, .int x1), (2, .int x2), (3, .int x3)] from hl) [0, 1, 2, 3] rfl)
abbrev rm_X6_setChoiceRule : Room := { frames := 3, cells := 0, slots := 0, locals := 69 }
set_option maxRecDepth 100000 in
set_option maxHeartbeats 4000000 in
theorem w_X6_setChoiceRule_0 {p : Program} {l : Launch} {e : Env} {s : State} {m : MethodId} {args : Array Value} {below : List Frame} {meth : Method} {c : Code} {Q : State → Prop} {D : va_G} {cI cN : ClassId} {A : Nat → Prop} {z : Nat → Nat} (S : CallFix p m c cX6_setChoiceRule 2 s args wsX6_setChoiceRule RX6) (hK : KN D cI cN s) (hA : ∀ q : Nat, s.heap.size ≤ q → A q) {g : OS} {x1 : Int32} {r0 : Int32} {g' : OS} (hret : ∀ (H : Heap) (locs : List Loc) (ls : Array Slot) (pc : Nat), decode cX6_setChoiceRule pc = .ok (.ireturn, 1) → narrow .int (.int r0) = .int r0 → va_P D vwCl (mdW cI z g') H → va_D A (mdW cI z g') → va_S A s.heap H locs → W p l e (headSpec wsX6_setChoiceRule rm_X6_setChoiceRule).room s m args below meth c H locs 0 0 Q (F0 m pc ls [.int r0])) (hf : fX6_setChoiceRule g x1 = some (r0, g')) (H : Heap) (locs : List Loc) (ls : Array Slot) (hP : va_P D vwCl (mdW cI z g) H) (hD : va_D A (mdW cI z g)) (hS : va_S A s.heap H locs) (hl : lv_has ls 2 [(0, .ref (z 0)), (1, .int x1)]) : W p l e (headSpec wsX6_setChoiceRule rm_X6_setChoiceRule).room s m args below meth c H locs 0 0 Q (F0 m 0 ls []) := by
  obtain ⟨hx, hb, hml, hown, hts⟩ := id S
  unfold fX6_setChoiceRule at hf
  refine lv_aload_n hx hb dX6_setChoiceRule_0 rfl (lv_at hl 0 rfl) ?_
  refine lv_iconst (v := (3 : Int32)) hx hb dX6_setChoiceRule_1 kc_iconst_3 ?_
  refine lv_iload_n hx hb dX6_setChoiceRule_2 rfl (lv_at hl 1 rfl) ?_
  refine lv_iconst (v := (2 : Int32)) hx hb dX6_setChoiceRule_3 kc_iconst_2 ?_
  obtain ⟨v1, hv1, hf⟩ := it_b hf
  refine cBi (As := [.int (3 : Int32), .int x1, .int (2 : Int32)]) (rest := []) (q0 := 0) (ci := 6) [(true, (mdW cI z g), (mdW cI z v1.2))] ⟨ad_mod, (fun h => Bool.noConfusion h), trivial⟩ S (c_X6_rules l D cI cN z _ g (3 : Int32) x1 (2 : Int32) v1.1 v1.2 hv1) (cwV 3 hts gX6_setChoiceRule_X6_rules rfl rfl rfl (by decide +kernel) ⟨Nat.le_of_ble_eq_true rfl, Nat.le_of_ble_eq_true rfl⟩) hK hP hD hS hA rfl rfl rfl hl.1 rfl (Nat.le_of_ble_eq_true rfl) dX6_setChoiceRule_4 ⟨Nat.zero_le _, Nat.zero_le _⟩ (fun H locs hP hD hS => ?_)
  have e0 : v1.1 = r0 := congrArg (fun z => z.1) (Option.some.inj hf)
  have e1 : v1.2 = g' := congrArg (fun z => z.2) (Option.some.inj hf)
  subst e0
  subst e1
  exact hret H locs ls _ dX6_setChoiceRule_7 rfl hP hD hS
set_option maxRecDepth 100000 in
theorem c_X6_setChoiceRule (l : Launch) (D : va_G) (cI cN : ClassId) (z : Nat → Nat) (sz : Nat) (g : OS) (x1 : Int32) (r0 : Int32) (g' : OS) (hf : fX6_setChoiceRule g x1 = some (r0, g')) : CtI l D cI cN yX6_setChoiceRule wsX6_setChoiceRule rm_X6_setChoiceRule 0 0 [.ref (z 0), .int x1] (mdW cI z g) sz r0 (mdW cI z g') := by
  refine mW (cc := cX6_setChoiceRule) (maxL := 2) (ty := .int) (by decide) rfl rfl (Nat.le_of_ble_eq_true rfl) ?_
  intro p e s m args below meth c Q A S hK hP hD hS hA hret ls hl
  exact w_X6_setChoiceRule_0 S hK hA hret hf _ _ _ hP hD hS (lv_sub (show lv_has ls 2 [(0, .ref (z 0)), (1, .int x1)] from hl) [0, 1] rfl)
abbrev rm_X6_setPairRule : Room := { frames := 3, cells := 0, slots := 0, locals := 69 }
set_option maxRecDepth 100000 in
set_option maxHeartbeats 4000000 in
theorem w_X6_setPairRule_0 {p : Program} {l : Launch} {e : Env} {s : State} {m : MethodId} {args : Array Value} {below : List Frame} {meth : Method} {c : Code} {Q : State → Prop} {D : va_G} {cI cN : ClassId} {A : Nat → Prop} {z : Nat → Nat} (S : CallFix p m c cX6_setPairRule 2 s args wsX6_setPairRule RX6) (hK : KN D cI cN s) (hA : ∀ q : Nat, s.heap.size ≤ q → A q) {g : OS} {x1 : Int32} {r0 : Int32} {g' : OS} (hret : ∀ (H : Heap) (locs : List Loc) (ls : Array Slot) (pc : Nat), decode cX6_setPairRule pc = .ok (.ireturn, 1) → narrow .int (.int r0) = .int r0 → va_P D vwCl (mdW cI z g') H → va_D A (mdW cI z g') → va_S A s.heap H locs → W p l e (headSpec wsX6_setPairRule rm_X6_setPairRule).room s m args below meth c H locs 0 0 Q (F0 m pc ls [.int r0])) (hf : fX6_setPairRule g x1 = some (r0, g')) (H : Heap) (locs : List Loc) (ls : Array Slot) (hP : va_P D vwCl (mdW cI z g) H) (hD : va_D A (mdW cI z g)) (hS : va_S A s.heap H locs) (hl : lv_has ls 2 [(0, .ref (z 0)), (1, .int x1)]) : W p l e (headSpec wsX6_setPairRule rm_X6_setPairRule).room s m args below meth c H locs 0 0 Q (F0 m 0 ls []) := by
  obtain ⟨hx, hb, hml, hown, hts⟩ := id S
  unfold fX6_setPairRule at hf
  refine lv_aload_n hx hb dX6_setPairRule_0 rfl (lv_at hl 0 rfl) ?_
  refine lv_iconst (v := (4 : Int32)) hx hb dX6_setPairRule_1 kc_iconst_4 ?_
  refine lv_iload_n hx hb dX6_setPairRule_2 rfl (lv_at hl 1 rfl) ?_
  refine lv_iconst (v := (1 : Int32)) hx hb dX6_setPairRule_3 kc_iconst_1 ?_
  obtain ⟨v1, hv1, hf⟩ := it_b hf
  refine cBi (As := [.int (4 : Int32), .int x1, .int (1 : Int32)]) (rest := []) (q0 := 0) (ci := 6) [(true, (mdW cI z g), (mdW cI z v1.2))] ⟨ad_mod, (fun h => Bool.noConfusion h), trivial⟩ S (c_X6_rules l D cI cN z _ g (4 : Int32) x1 (1 : Int32) v1.1 v1.2 hv1) (cwV 3 hts gX6_setPairRule_X6_rules rfl rfl rfl (by decide +kernel) ⟨Nat.le_of_ble_eq_true rfl, Nat.le_of_ble_eq_true rfl⟩) hK hP hD hS hA rfl rfl rfl hl.1 rfl (Nat.le_of_ble_eq_true rfl) dX6_setPairRule_4 ⟨Nat.zero_le _, Nat.zero_le _⟩ (fun H locs hP hD hS => ?_)
  have e0 : v1.1 = r0 := congrArg (fun z => z.1) (Option.some.inj hf)
  have e1 : v1.2 = g' := congrArg (fun z => z.2) (Option.some.inj hf)
  subst e0
  subst e1
  exact hret H locs ls _ dX6_setPairRule_7 rfl hP hD hS
set_option maxRecDepth 100000 in
theorem c_X6_setPairRule (l : Launch) (D : va_G) (cI cN : ClassId) (z : Nat → Nat) (sz : Nat) (g : OS) (x1 : Int32) (r0 : Int32) (g' : OS) (hf : fX6_setPairRule g x1 = some (r0, g')) : CtI l D cI cN yX6_setPairRule wsX6_setPairRule rm_X6_setPairRule 0 0 [.ref (z 0), .int x1] (mdW cI z g) sz r0 (mdW cI z g') := by
  refine mW (cc := cX6_setPairRule) (maxL := 2) (ty := .int) (by decide) rfl rfl (Nat.le_of_ble_eq_true rfl) ?_
  intro p e s m args below meth c Q A S hK hP hD hS hA hret ls hl
  exact w_X6_setPairRule_0 S hK hA hret hf _ _ _ hP hD hS (lv_sub (show lv_has ls 2 [(0, .ref (z 0)), (1, .int x1)] from hl) [0, 1] rfl)
abbrev rm_X6_connect : Room := { frames := 6, cells := 0, slots := 0, locals := 154 }
set_option maxRecDepth 100000 in
set_option maxHeartbeats 4000000 in
theorem w_X6_connect_0 {p : Program} {l : Launch} {e : Env} {s : State} {m : MethodId} {args : Array Value} {below : List Frame} {meth : Method} {c : Code} {Q : State → Prop} {D : va_G} {cI cN : ClassId} {A : Nat → Prop} {z : Nat → Nat} (S : CallFix p m c cX6_connect 3 s args wsX6_connect RX6) (hK : KN D cI cN s) (hA : ∀ q : Nat, s.heap.size ≤ q → A q) {g : OS} {x1 : Int32} {x2 : Int32} {r0 : Int32} {g' : OS} (hret : ∀ (H : Heap) (locs : List Loc) (ls : Array Slot) (pc : Nat), decode cX6_connect pc = .ok (.ireturn, 1) → narrow .int (.int r0) = .int r0 → va_P D vwCl (mdW cI z g') H → va_D A (mdW cI z g') → va_S A s.heap H locs → W p l e (headSpec wsX6_connect rm_X6_connect).room s m args below meth c H locs 0 0 Q (F0 m pc ls [.int r0])) (hf : fX6_connect g x1 x2 = some (r0, g')) (H : Heap) (locs : List Loc) (ls : Array Slot) (hP : va_P D vwCl (mdW cI z g) H) (hD : va_D A (mdW cI z g)) (hS : va_S A s.heap H locs) (hl : lv_has ls 3 [(0, .ref (z 0)), (1, .int x1), (2, .int x2)]) : W p l e (headSpec wsX6_connect rm_X6_connect).room s m args below meth c H locs 0 0 Q (F0 m 0 ls []) := by
  obtain ⟨hx, hb, hml, hown, hts⟩ := id S
  unfold fX6_connect at hf
  refine lv_aload_n hx hb dX6_connect_0 rfl (lv_at hl 0 rfl) ?_
  refine lv_iconst (v := (0 : Int32)) hx hb dX6_connect_1 kc_iconst_0 ?_
  refine lv_bipush (v := (6 : Int32)) hx hb dX6_connect_2 kc_bipush_6 ?_
  obtain ⟨v1, hv1, hf⟩ := it_b hf
  refine cBv (As := [.int (0 : Int32), .int (6 : Int32)]) (rest := []) (q0 := 0) (ci := 6) [(true, (mdW cI z g), (mdW cI z v1))] ⟨ad_mod, (fun h => Bool.noConfusion h), trivial⟩ S (c_X6_copies l D cI cN z _ g (0 : Int32) (6 : Int32) v1 hv1) (cwV 2 hts gX6_connect_X6_copies rfl rfl rfl (by decide +kernel) ⟨Nat.le_of_ble_eq_true rfl, Nat.le_of_ble_eq_true rfl⟩) hK hP hD hS hA rfl rfl rfl hl.1 rfl (Nat.le_of_ble_eq_true rfl) dX6_connect_4 ⟨Nat.zero_le _, Nat.zero_le _⟩ (fun H locs hP hD hS => ?_)
  refine lv_aload_n hx hb dX6_connect_7 rfl (lv_at hl 0 rfl) ?_
  refine lv_aload_n hx hb dX6_connect_8 rfl (lv_at hl 0 rfl) ?_
  refine lv_sipush (v := (924 : Int32)) hx hb dX6_connect_9 kc_sipush_924 ?_
  refine lv_iload_n hx hb dX6_connect_12 rfl (lv_at hl 1 rfl) ?_
  refine lv_iload_n hx hb dX6_connect_13 rfl (lv_at hl 2 rfl) ?_
  obtain ⟨v2, hv2, hf⟩ := it_b hf
  refine cBi (As := [.int (924 : Int32), .int x1, .int x2]) (rest := [.ref (z 0)]) (q0 := 0) (ci := 6) [(true, (mdW cI z v1), (mdW cI z v2.2))] ⟨ad_mod, (fun h => Bool.noConfusion h), trivial⟩ S (c_X6_connects l D cI cN z _ v1 (924 : Int32) x1 x2 v2.1 v2.2 hv2) (cwV 3 hts gX6_connect_X6_connects rfl rfl rfl (by decide +kernel) ⟨Nat.le_of_ble_eq_true rfl, Nat.le_of_ble_eq_true rfl⟩) hK hP hD hS hA rfl rfl rfl hl.1 rfl (Nat.le_of_ble_eq_true rfl) dX6_connect_14 ⟨Nat.zero_le _, Nat.zero_le _⟩ (fun H locs hP hD hS => ?_)
  obtain ⟨v3, hv3, hf⟩ := it_b hf
  refine cBi (As := [.int v2.1]) (rest := []) (q0 := 0) (ci := 6) [(true, (mdW cI z v2.2), (mdW cI z v3.2))] ⟨ad_mod, (fun h => Bool.noConfusion h), trivial⟩ S (c_X6_accepts l D cI cN z _ v2.2 v2.1 v3.1 v3.2 hv3) (cwV 1 hts gX6_connect_X6_accepts rfl rfl rfl (by decide +kernel) ⟨Nat.le_of_ble_eq_true rfl, Nat.le_of_ble_eq_true rfl⟩) hK hP hD hS hA rfl rfl rfl hl.1 rfl (Nat.le_of_ble_eq_true rfl) dX6_connect_17 ⟨Nat.zero_le _, Nat.zero_le _⟩ (fun H locs hP hD hS => ?_)
  have e0 : v3.1 = r0 := congrArg (fun z => z.1) (Option.some.inj hf)
  have e1 : v3.2 = g' := congrArg (fun z => z.2) (Option.some.inj hf)
  subst e0
  subst e1
  exact hret H locs ls _ dX6_connect_20 rfl hP hD hS
set_option maxRecDepth 100000 in
theorem c_X6_connect (l : Launch) (D : va_G) (cI cN : ClassId) (z : Nat → Nat) (sz : Nat) (g : OS) (x1 : Int32) (x2 : Int32) (r0 : Int32) (g' : OS) (hf : fX6_connect g x1 x2 = some (r0, g')) : CtI l D cI cN yX6_connect wsX6_connect rm_X6_connect 0 0 [.ref (z 0), .int x1, .int x2] (mdW cI z g) sz r0 (mdW cI z g') := by
  refine mW (cc := cX6_connect) (maxL := 3) (ty := .int) (by decide) rfl rfl (Nat.le_of_ble_eq_true rfl) ?_
  intro p e s m args below meth c Q A S hK hP hD hS hA hret ls hl
  exact w_X6_connect_0 S hK hA hret hf _ _ _ hP hD hS (lv_sub (show lv_has ls 3 [(0, .ref (z 0)), (1, .int x1), (2, .int x2)] from hl) [0, 1, 2] rfl)
abbrev rm_X6_disconnect : Room := { frames := 3, cells := 0, slots := 0, locals := 67 }
set_option maxRecDepth 100000 in
set_option maxHeartbeats 4000000 in
theorem w_X6_disconnect_0 {p : Program} {l : Launch} {e : Env} {s : State} {m : MethodId} {args : Array Value} {below : List Frame} {meth : Method} {c : Code} {Q : State → Prop} {D : va_G} {cI cN : ClassId} {A : Nat → Prop} {z : Nat → Nat} (S : CallFix p m c cX6_disconnect 2 s args wsX6_disconnect RX6) (hK : KN D cI cN s) (hA : ∀ q : Nat, s.heap.size ≤ q → A q) {g : OS} {x1 : Int32} {r0 : Int32} {g' : OS} (hret : ∀ (H : Heap) (locs : List Loc) (ls : Array Slot) (pc : Nat), decode cX6_disconnect pc = .ok (.ireturn, 1) → narrow .int (.int r0) = .int r0 → va_P D vwCl (mdW cI z g') H → va_D A (mdW cI z g') → va_S A s.heap H locs → W p l e (headSpec wsX6_disconnect rm_X6_disconnect).room s m args below meth c H locs 0 0 Q (F0 m pc ls [.int r0])) (hf : fX6_disconnect g x1 = some (r0, g')) (H : Heap) (locs : List Loc) (ls : Array Slot) (hP : va_P D vwCl (mdW cI z g) H) (hD : va_D A (mdW cI z g)) (hS : va_S A s.heap H locs) (hl : lv_has ls 2 [(0, .ref (z 0)), (1, .int x1)]) : W p l e (headSpec wsX6_disconnect rm_X6_disconnect).room s m args below meth c H locs 0 0 Q (F0 m 0 ls []) := by
  obtain ⟨hx, hb, hml, hown, hts⟩ := id S
  unfold fX6_disconnect at hf
  refine lv_aload_n hx hb dX6_disconnect_0 rfl (lv_at hl 0 rfl) ?_
  refine lv_iconst (v := (0 : Int32)) hx hb dX6_disconnect_1 kc_iconst_0 ?_
  refine lv_bipush (v := (6 : Int32)) hx hb dX6_disconnect_2 kc_bipush_6 ?_
  obtain ⟨v1, hv1, hf⟩ := it_b hf
  refine cBv (As := [.int (0 : Int32), .int (6 : Int32)]) (rest := []) (q0 := 0) (ci := 6) [(true, (mdW cI z g), (mdW cI z v1))] ⟨ad_mod, (fun h => Bool.noConfusion h), trivial⟩ S (c_X6_copies l D cI cN z _ g (0 : Int32) (6 : Int32) v1 hv1) (cwV 2 hts gX6_disconnect_X6_copies rfl rfl rfl (by decide +kernel) ⟨Nat.le_of_ble_eq_true rfl, Nat.le_of_ble_eq_true rfl⟩) hK hP hD hS hA rfl rfl rfl hl.1 rfl (Nat.le_of_ble_eq_true rfl) dX6_disconnect_4 ⟨Nat.zero_le _, Nat.zero_le _⟩ (fun H locs hP hD hS => ?_)
  refine lv_aload_n hx hb dX6_disconnect_7 rfl (lv_at hl 0 rfl) ?_
  refine lv_aload_n hx hb dX6_disconnect_8 rfl (lv_at hl 0 rfl) ?_
  refine lv_sipush (v := (924 : Int32)) hx hb dX6_disconnect_9 kc_sipush_924 ?_
  refine lv_iload_n hx hb dX6_disconnect_12 rfl (lv_at hl 1 rfl) ?_
  obtain ⟨v2, hv2, hf⟩ := it_b hf
  refine cBi (As := [.int (924 : Int32), .int x1]) (rest := [.ref (z 0)]) (q0 := 0) (ci := 6) [(true, (mdW cI z v1), (mdW cI z v2.2))] ⟨ad_mod, (fun h => Bool.noConfusion h), trivial⟩ S (c_X6_disconnects l D cI cN z _ v1 (924 : Int32) x1 v2.1 v2.2 hv2) (cwV 2 hts gX6_disconnect_X6_disconnects rfl rfl rfl (by decide +kernel) ⟨Nat.le_of_ble_eq_true rfl, Nat.le_of_ble_eq_true rfl⟩) hK hP hD hS hA rfl rfl rfl hl.1 rfl (Nat.le_of_ble_eq_true rfl) dX6_disconnect_13 ⟨Nat.zero_le _, Nat.zero_le _⟩ (fun H locs hP hD hS => ?_)
  obtain ⟨v3, hv3, hf⟩ := it_b hf
  refine cBi (As := [.int v2.1]) (rest := []) (q0 := 0) (ci := 6) [(true, (mdW cI z v2.2), (mdW cI z v3.2))] ⟨ad_mod, (fun h => Bool.noConfusion h), trivial⟩ S (c_X6_accepts l D cI cN z _ v2.2 v2.1 v3.1 v3.2 hv3) (cwV 1 hts gX6_disconnect_X6_accepts rfl rfl rfl (by decide +kernel) ⟨Nat.le_of_ble_eq_true rfl, Nat.le_of_ble_eq_true rfl⟩) hK hP hD hS hA rfl rfl rfl hl.1 rfl (Nat.le_of_ble_eq_true rfl) dX6_disconnect_16 ⟨Nat.zero_le _, Nat.zero_le _⟩ (fun H locs hP hD hS => ?_)
  have e0 : v3.1 = r0 := congrArg (fun z => z.1) (Option.some.inj hf)
  have e1 : v3.2 = g' := congrArg (fun z => z.2) (Option.some.inj hf)
  subst e0
  subst e1
  exact hret H locs ls _ dX6_disconnect_19 rfl hP hD hS
set_option maxRecDepth 100000 in
theorem c_X6_disconnect (l : Launch) (D : va_G) (cI cN : ClassId) (z : Nat → Nat) (sz : Nat) (g : OS) (x1 : Int32) (r0 : Int32) (g' : OS) (hf : fX6_disconnect g x1 = some (r0, g')) : CtI l D cI cN yX6_disconnect wsX6_disconnect rm_X6_disconnect 0 0 [.ref (z 0), .int x1] (mdW cI z g) sz r0 (mdW cI z g') := by
  refine mW (cc := cX6_disconnect) (maxL := 2) (ty := .int) (by decide) rfl rfl (Nat.le_of_ble_eq_true rfl) ?_
  intro p e s m args below meth c Q A S hK hP hD hS hA hret ls hl
  exact w_X6_disconnect_0 S hK hA hret hf _ _ _ hP hD hS (lv_sub (show lv_has ls 2 [(0, .ref (z 0)), (1, .int x1)] from hl) [0, 1] rfl)
abbrev rm_X6_takeOut : Room := { frames := 6, cells := 0, slots := 0, locals := 155 }
set_option maxRecDepth 100000 in
set_option maxHeartbeats 4000000 in
theorem w_X6_takeOut_0 {p : Program} {l : Launch} {e : Env} {s : State} {m : MethodId} {args : Array Value} {below : List Frame} {meth : Method} {c : Code} {Q : State → Prop} {D : va_G} {cI cN : ClassId} {A : Nat → Prop} {z : Nat → Nat} (S : CallFix p m c cX6_takeOut 2 s args wsX6_takeOut RX6) (hK : KN D cI cN s) (hA : ∀ q : Nat, s.heap.size ≤ q → A q) {g : OS} {x1 : Int32} {r0 : Int32} {g' : OS} (hret : ∀ (H : Heap) (locs : List Loc) (ls : Array Slot) (pc : Nat), decode cX6_takeOut pc = .ok (.ireturn, 1) → narrow .int (.int r0) = .int r0 → va_P D vwCl (mdW cI z g') H → va_D A (mdW cI z g') → va_S A s.heap H locs → W p l e (headSpec wsX6_takeOut rm_X6_takeOut).room s m args below meth c H locs 0 0 Q (F0 m pc ls [.int r0])) (hf : fX6_takeOut g x1 = some (r0, g')) (H : Heap) (locs : List Loc) (ls : Array Slot) (hP : va_P D vwCl (mdW cI z g) H) (hD : va_D A (mdW cI z g)) (hS : va_S A s.heap H locs) (hl : lv_has ls 2 [(0, .ref (z 0)), (1, .int x1)]) : W p l e (headSpec wsX6_takeOut rm_X6_takeOut).room s m args below meth c H locs 0 0 Q (F0 m 0 ls []) := by
  obtain ⟨hx, hb, hml, hown, hts⟩ := id S
  unfold fX6_takeOut at hf
  refine lv_aload_n hx hb dX6_takeOut_0 rfl (lv_at hl 0 rfl) ?_
  refine lv_iconst (v := (0 : Int32)) hx hb dX6_takeOut_1 kc_iconst_0 ?_
  refine lv_bipush (v := (6 : Int32)) hx hb dX6_takeOut_2 kc_bipush_6 ?_
  obtain ⟨v1, hv1, hf⟩ := it_b hf
  refine cBv (As := [.int (0 : Int32), .int (6 : Int32)]) (rest := []) (q0 := 0) (ci := 6) [(true, (mdW cI z g), (mdW cI z v1))] ⟨ad_mod, (fun h => Bool.noConfusion h), trivial⟩ S (c_X6_copies l D cI cN z _ g (0 : Int32) (6 : Int32) v1 hv1) (cwV 2 hts gX6_takeOut_X6_copies rfl rfl rfl (by decide +kernel) ⟨Nat.le_of_ble_eq_true rfl, Nat.le_of_ble_eq_true rfl⟩) hK hP hD hS hA rfl rfl rfl hl.1 rfl (Nat.le_of_ble_eq_true rfl) dX6_takeOut_4 ⟨Nat.zero_le _, Nat.zero_le _⟩ (fun H locs hP hD hS => ?_)
  refine lv_aload_n hx hb dX6_takeOut_7 rfl (lv_at hl 0 rfl) ?_
  refine lv_aload_n hx hb dX6_takeOut_8 rfl (lv_at hl 0 rfl) ?_
  refine lv_sipush (v := (924 : Int32)) hx hb dX6_takeOut_9 kc_sipush_924 ?_
  refine lv_iload_n hx hb dX6_takeOut_12 rfl (lv_at hl 1 rfl) ?_
  obtain ⟨v2, hv2, hf⟩ := it_b hf
  refine cBi (As := [.int (924 : Int32), .int x1]) (rest := [.ref (z 0)]) (q0 := 0) (ci := 6) [(true, (mdW cI z v1), (mdW cI z v2.2))] ⟨ad_mod, (fun h => Bool.noConfusion h), trivial⟩ S (c_X6_takesOut l D cI cN z _ v1 (924 : Int32) x1 v2.1 v2.2 hv2) (cwV 2 hts gX6_takeOut_X6_takesOut rfl rfl rfl (by decide +kernel) ⟨Nat.le_of_ble_eq_true rfl, Nat.le_of_ble_eq_true rfl⟩) hK hP hD hS hA rfl rfl rfl hl.1 rfl (Nat.le_of_ble_eq_true rfl) dX6_takeOut_13 ⟨Nat.zero_le _, Nat.zero_le _⟩ (fun H locs hP hD hS => ?_)
  obtain ⟨v3, hv3, hf⟩ := it_b hf
  refine cBi (As := [.int v2.1]) (rest := []) (q0 := 0) (ci := 6) [(true, (mdW cI z v2.2), (mdW cI z v3.2))] ⟨ad_mod, (fun h => Bool.noConfusion h), trivial⟩ S (c_X6_accepts l D cI cN z _ v2.2 v2.1 v3.1 v3.2 hv3) (cwV 1 hts gX6_takeOut_X6_accepts rfl rfl rfl (by decide +kernel) ⟨Nat.le_of_ble_eq_true rfl, Nat.le_of_ble_eq_true rfl⟩) hK hP hD hS hA rfl rfl rfl hl.1 rfl (Nat.le_of_ble_eq_true rfl) dX6_takeOut_16 ⟨Nat.zero_le _, Nat.zero_le _⟩ (fun H locs hP hD hS => ?_)
  have e0 : v3.1 = r0 := congrArg (fun z => z.1) (Option.some.inj hf)
  have e1 : v3.2 = g' := congrArg (fun z => z.2) (Option.some.inj hf)
  subst e0
  subst e1
  exact hret H locs ls _ dX6_takeOut_19 rfl hP hD hS
set_option maxRecDepth 100000 in
theorem c_X6_takeOut (l : Launch) (D : va_G) (cI cN : ClassId) (z : Nat → Nat) (sz : Nat) (g : OS) (x1 : Int32) (r0 : Int32) (g' : OS) (hf : fX6_takeOut g x1 = some (r0, g')) : CtI l D cI cN yX6_takeOut wsX6_takeOut rm_X6_takeOut 0 0 [.ref (z 0), .int x1] (mdW cI z g) sz r0 (mdW cI z g') := by
  refine mW (cc := cX6_takeOut) (maxL := 2) (ty := .int) (by decide) rfl rfl (Nat.le_of_ble_eq_true rfl) ?_
  intro p e s m args below meth c Q A S hK hP hD hS hA hret ls hl
  exact w_X6_takeOut_0 S hK hA hret hf _ _ _ hP hD hS (lv_sub (show lv_has ls 2 [(0, .ref (z 0)), (1, .int x1)] from hl) [0, 1] rfl)
abbrev rm_X6_putBack : Room := { frames := 3, cells := 0, slots := 0, locals := 66 }
set_option maxRecDepth 100000 in
set_option maxHeartbeats 4000000 in
theorem w_X6_putBack_0 {p : Program} {l : Launch} {e : Env} {s : State} {m : MethodId} {args : Array Value} {below : List Frame} {meth : Method} {c : Code} {Q : State → Prop} {D : va_G} {cI cN : ClassId} {A : Nat → Prop} {z : Nat → Nat} (S : CallFix p m c cX6_putBack 2 s args wsX6_putBack RX6) (hK : KN D cI cN s) (hA : ∀ q : Nat, s.heap.size ≤ q → A q) {g : OS} {x1 : Int32} {r0 : Int32} {g' : OS} (hret : ∀ (H : Heap) (locs : List Loc) (ls : Array Slot) (pc : Nat), decode cX6_putBack pc = .ok (.ireturn, 1) → narrow .int (.int r0) = .int r0 → va_P D vwCl (mdW cI z g') H → va_D A (mdW cI z g') → va_S A s.heap H locs → W p l e (headSpec wsX6_putBack rm_X6_putBack).room s m args below meth c H locs 0 0 Q (F0 m pc ls [.int r0])) (hf : fX6_putBack g x1 = some (r0, g')) (H : Heap) (locs : List Loc) (ls : Array Slot) (hP : va_P D vwCl (mdW cI z g) H) (hD : va_D A (mdW cI z g)) (hS : va_S A s.heap H locs) (hl : lv_has ls 2 [(0, .ref (z 0)), (1, .int x1)]) : W p l e (headSpec wsX6_putBack rm_X6_putBack).room s m args below meth c H locs 0 0 Q (F0 m 0 ls []) := by
  obtain ⟨hx, hb, hml, hown, hts⟩ := id S
  unfold fX6_putBack at hf
  refine lv_aload_n hx hb dX6_putBack_0 rfl (lv_at hl 0 rfl) ?_
  refine lv_iconst (v := (0 : Int32)) hx hb dX6_putBack_1 kc_iconst_0 ?_
  refine lv_bipush (v := (6 : Int32)) hx hb dX6_putBack_2 kc_bipush_6 ?_
  obtain ⟨v1, hv1, hf⟩ := it_b hf
  refine cBv (As := [.int (0 : Int32), .int (6 : Int32)]) (rest := []) (q0 := 0) (ci := 6) [(true, (mdW cI z g), (mdW cI z v1))] ⟨ad_mod, (fun h => Bool.noConfusion h), trivial⟩ S (c_X6_copies l D cI cN z _ g (0 : Int32) (6 : Int32) v1 hv1) (cwV 2 hts gX6_putBack_X6_copies rfl rfl rfl (by decide +kernel) ⟨Nat.le_of_ble_eq_true rfl, Nat.le_of_ble_eq_true rfl⟩) hK hP hD hS hA rfl rfl rfl hl.1 rfl (Nat.le_of_ble_eq_true rfl) dX6_putBack_4 ⟨Nat.zero_le _, Nat.zero_le _⟩ (fun H locs hP hD hS => ?_)
  refine lv_aload_n hx hb dX6_putBack_7 rfl (lv_at hl 0 rfl) ?_
  refine lv_aload_n hx hb dX6_putBack_8 rfl (lv_at hl 0 rfl) ?_
  refine lv_sipush (v := (924 : Int32)) hx hb dX6_putBack_9 kc_sipush_924 ?_
  refine lv_iload_n hx hb dX6_putBack_12 rfl (lv_at hl 1 rfl) ?_
  obtain ⟨v2, hv2, hf⟩ := it_b hf
  refine cBi (As := [.int (924 : Int32), .int x1]) (rest := [.ref (z 0)]) (q0 := 0) (ci := 6) [(true, (mdW cI z v1), (mdW cI z v2.2))] ⟨ad_mod, (fun h => Bool.noConfusion h), trivial⟩ S (c_X6_putsBack l D cI cN z _ v1 (924 : Int32) x1 v2.1 v2.2 hv2) (cwV 2 hts gX6_putBack_X6_putsBack rfl rfl rfl (by decide +kernel) ⟨Nat.le_of_ble_eq_true rfl, Nat.le_of_ble_eq_true rfl⟩) hK hP hD hS hA rfl rfl rfl hl.1 rfl (Nat.le_of_ble_eq_true rfl) dX6_putBack_13 ⟨Nat.zero_le _, Nat.zero_le _⟩ (fun H locs hP hD hS => ?_)
  obtain ⟨v3, hv3, hf⟩ := it_b hf
  refine cBi (As := [.int v2.1]) (rest := []) (q0 := 0) (ci := 6) [(true, (mdW cI z v2.2), (mdW cI z v3.2))] ⟨ad_mod, (fun h => Bool.noConfusion h), trivial⟩ S (c_X6_accepts l D cI cN z _ v2.2 v2.1 v3.1 v3.2 hv3) (cwV 1 hts gX6_putBack_X6_accepts rfl rfl rfl (by decide +kernel) ⟨Nat.le_of_ble_eq_true rfl, Nat.le_of_ble_eq_true rfl⟩) hK hP hD hS hA rfl rfl rfl hl.1 rfl (Nat.le_of_ble_eq_true rfl) dX6_putBack_16 ⟨Nat.zero_le _, Nat.zero_le _⟩ (fun H locs hP hD hS => ?_)
  have e0 : v3.1 = r0 := congrArg (fun z => z.1) (Option.some.inj hf)
  have e1 : v3.2 = g' := congrArg (fun z => z.2) (Option.some.inj hf)
  subst e0
  subst e1
  exact hret H locs ls _ dX6_putBack_19 rfl hP hD hS
set_option maxRecDepth 100000 in
theorem c_X6_putBack (l : Launch) (D : va_G) (cI cN : ClassId) (z : Nat → Nat) (sz : Nat) (g : OS) (x1 : Int32) (r0 : Int32) (g' : OS) (hf : fX6_putBack g x1 = some (r0, g')) : CtI l D cI cN yX6_putBack wsX6_putBack rm_X6_putBack 0 0 [.ref (z 0), .int x1] (mdW cI z g) sz r0 (mdW cI z g') := by
  refine mW (cc := cX6_putBack) (maxL := 2) (ty := .int) (by decide) rfl rfl (Nat.le_of_ble_eq_true rfl) ?_
  intro p e s m args below meth c Q A S hK hP hD hS hA hret ls hl
  exact w_X6_putBack_0 S hK hA hret hf _ _ _ hP hD hS (lv_sub (show lv_has ls 2 [(0, .ref (z 0)), (1, .int x1)] from hl) [0, 1] rfl)
abbrev rm_X6_pack : Room := { frames := 6, cells := 0, slots := 0, locals := 158 }
set_option maxRecDepth 100000 in
set_option maxHeartbeats 4000000 in
theorem w_X6_pack_0 {p : Program} {l : Launch} {e : Env} {s : State} {m : MethodId} {args : Array Value} {below : List Frame} {meth : Method} {c : Code} {Q : State → Prop} {D : va_G} {cI cN : ClassId} {A : Nat → Prop} {z : Nat → Nat} (S : CallFix p m c cX6_pack 1 s args wsX6_pack RX6) (hK : KN D cI cN s) (hA : ∀ q : Nat, s.heap.size ≤ q → A q) {g : OS} {r0 : Int32} {g' : OS} (hret : ∀ (H : Heap) (locs : List Loc) (ls : Array Slot) (pc : Nat), decode cX6_pack pc = .ok (.ireturn, 1) → narrow .int (.int r0) = .int r0 → va_P D vwCl (mdW cI z g') H → va_D A (mdW cI z g') → va_S A s.heap H locs → W p l e (headSpec wsX6_pack rm_X6_pack).room s m args below meth c H locs 0 0 Q (F0 m pc ls [.int r0])) (hf : fX6_pack g = some (r0, g')) (H : Heap) (locs : List Loc) (ls : Array Slot) (hP : va_P D vwCl (mdW cI z g) H) (hD : va_D A (mdW cI z g)) (hS : va_S A s.heap H locs) (hl : lv_has ls 1 [(0, .ref (z 0))]) : W p l e (headSpec wsX6_pack rm_X6_pack).room s m args below meth c H locs 0 0 Q (F0 m 0 ls []) := by
  obtain ⟨hx, hb, hml, hown, hts⟩ := id S
  unfold fX6_pack at hf
  refine lv_aload_n hx hb dX6_pack_0 rfl (lv_at hl 0 rfl) ?_
  refine lv_iconst (v := (0 : Int32)) hx hb dX6_pack_1 kc_iconst_0 ?_
  refine lv_bipush (v := (6 : Int32)) hx hb dX6_pack_2 kc_bipush_6 ?_
  obtain ⟨v1, hv1, hf⟩ := it_b hf
  refine cBv (As := [.int (0 : Int32), .int (6 : Int32)]) (rest := []) (q0 := 0) (ci := 6) [(true, (mdW cI z g), (mdW cI z v1))] ⟨ad_mod, (fun h => Bool.noConfusion h), trivial⟩ S (c_X6_copies l D cI cN z _ g (0 : Int32) (6 : Int32) v1 hv1) (cwV 2 hts gX6_pack_X6_copies rfl rfl rfl (by decide +kernel) ⟨Nat.le_of_ble_eq_true rfl, Nat.le_of_ble_eq_true rfl⟩) hK hP hD hS hA rfl rfl rfl hl.1 rfl (Nat.le_of_ble_eq_true rfl) dX6_pack_4 ⟨Nat.zero_le _, Nat.zero_le _⟩ (fun H locs hP hD hS => ?_)
  refine lv_aload_n hx hb dX6_pack_7 rfl (lv_at hl 0 rfl) ?_
  refine lv_aload_n hx hb dX6_pack_8 rfl (lv_at hl 0 rfl) ?_
  refine lv_sipush (v := (924 : Int32)) hx hb dX6_pack_9 kc_sipush_924 ?_
  obtain ⟨v2, hv2, hf⟩ := it_b hf
  refine cBi (As := [.int (924 : Int32)]) (rest := [.ref (z 0)]) (q0 := 0) (ci := 6) [(true, (mdW cI z v1), (mdW cI z v2.2))] ⟨ad_mod, (fun h => Bool.noConfusion h), trivial⟩ S (c_X6_packs l D cI cN z _ v1 (924 : Int32) v2.1 v2.2 hv2) (cwV 1 hts gX6_pack_X6_packs rfl rfl rfl (by decide +kernel) ⟨Nat.le_of_ble_eq_true rfl, Nat.le_of_ble_eq_true rfl⟩) hK hP hD hS hA rfl rfl rfl hl.1 rfl (Nat.le_of_ble_eq_true rfl) dX6_pack_12 ⟨Nat.zero_le _, Nat.zero_le _⟩ (fun H locs hP hD hS => ?_)
  obtain ⟨v3, hv3, hf⟩ := it_b hf
  refine cBi (As := [.int v2.1]) (rest := []) (q0 := 0) (ci := 6) [(true, (mdW cI z v2.2), (mdW cI z v3.2))] ⟨ad_mod, (fun h => Bool.noConfusion h), trivial⟩ S (c_X6_accepts l D cI cN z _ v2.2 v2.1 v3.1 v3.2 hv3) (cwV 1 hts gX6_pack_X6_accepts rfl rfl rfl (by decide +kernel) ⟨Nat.le_of_ble_eq_true rfl, Nat.le_of_ble_eq_true rfl⟩) hK hP hD hS hA rfl rfl rfl hl.1 rfl (Nat.le_of_ble_eq_true rfl) dX6_pack_15 ⟨Nat.zero_le _, Nat.zero_le _⟩ (fun H locs hP hD hS => ?_)
  have e0 : v3.1 = r0 := congrArg (fun z => z.1) (Option.some.inj hf)
  have e1 : v3.2 = g' := congrArg (fun z => z.2) (Option.some.inj hf)
  subst e0
  subst e1
  exact hret H locs ls _ dX6_pack_18 rfl hP hD hS
set_option maxRecDepth 100000 in
theorem c_X6_pack (l : Launch) (D : va_G) (cI cN : ClassId) (z : Nat → Nat) (sz : Nat) (g : OS) (r0 : Int32) (g' : OS) (hf : fX6_pack g = some (r0, g')) : CtI l D cI cN yX6_pack wsX6_pack rm_X6_pack 0 0 [.ref (z 0)] (mdW cI z g) sz r0 (mdW cI z g') := by
  refine mW (cc := cX6_pack) (maxL := 1) (ty := .int) (by decide) rfl rfl (Nat.le_of_ble_eq_true rfl) ?_
  intro p e s m args below meth c Q A S hK hP hD hS hA hret ls hl
  exact w_X6_pack_0 S hK hA hret hf _ _ _ hP hD hS (lv_sub (show lv_has ls 1 [(0, .ref (z 0))] from hl) [0] rfl)
abbrev rm_X6_type : Room := { frames := 0, cells := 0, slots := 0, locals := 0 }
theorem in_X6_type_X6 : ∀ w ∈ u_ws RX6 TX6 12, w ∈ wsX6_type := fun w h => List.mem_cons_of_mem _ (List.mem_append_right _ h)
set_option maxRecDepth 100000 in
set_option maxHeartbeats 4000000 in
theorem w_X6_type_0 {p : Program} {l : Launch} {e : Env} {s : State} {m : MethodId} {args : Array Value} {below : List Frame} {meth : Method} {c : Code} {Q : State → Prop} {D : va_G} {cI cN : ClassId} {A : Nat → Prop} {z : Nat → Nat} (S : CallFix p m c cX6_type 2 s args wsX6_type RX6) (hK : KN D cI cN s) (hA : ∀ q : Nat, s.heap.size ≤ q → A q) {g : OS} {x1 : Int32} {r0 : Int32} {g' : OS} (hret : ∀ (H : Heap) (locs : List Loc) (ls : Array Slot) (pc : Nat), decode cX6_type pc = .ok (.ireturn, 1) → narrow .int (.int r0) = .int r0 → va_P D vwCl (mdW cI z g') H → va_D A (mdW cI z g') → va_S A s.heap H locs → W p l e (headSpec wsX6_type rm_X6_type).room s m args below meth c H locs 0 0 Q (F0 m pc ls [.int r0])) (hf : fX6_type g x1 = some (r0, g')) (H : Heap) (locs : List Loc) (ls : Array Slot) (hP : va_P D vwCl (mdW cI z g) H) (hD : va_D A (mdW cI z g)) (hS : va_S A s.heap H locs) (hl : lv_has ls 2 [(0, .ref (z 0)), (1, .int x1)]) : W p l e (headSpec wsX6_type rm_X6_type).room s m args below meth c H locs 0 0 Q (F0 m 0 ls []) := by
  obtain ⟨hx, hb, hml, hown, hts⟩ := id S
  have inX6 := in_X6_type_X6
  unfold fX6_type at hf
  refine lv_aload_n hx hb dX6_type_0 rfl (lv_at hl 0 rfl) ?_
  refine va_get (D := D) (ci := 6) (v := .int (g.1 4)) (C := RX6) (T := TX6) (N := 12) hx hb hts inX6 hown hK.1 hP 0 rfl rfl 4 (by decide) (hts (.fieldLink RX6 130 "ClosExchangeModel" "typed" "I") (List.mem_of_getElem? (i := 1) rfl)) (fun _ h9 => h9) rfl dX6_type_1 ?_
  refine lv_bipush (v := (60 : Int32)) hx hb dX6_type_4 kc_bipush_60 ?_
  refine lv_icmp_ne (tgt := 12) hx hb dX6_type_6 (by decide) (fun c1 => ?_) (fun c1 => ?_)
  · have hf := it_f hf c1
    refine lv_aload_n hx hb dX6_type_12 rfl (lv_at hl 0 rfl) ?_
    refine va_get (D := D) (ci := 6) (v := .ref (z 2)) (C := RX6) (T := TX6) (N := 12) hx hb hts inX6 hown hK.1 hP 0 rfl rfl 3 (by decide) (hts (.fieldLink RX6 13 "ClosExchangeModel" "text" "[I") (List.mem_of_getElem? (i := 2) rfl)) (fun _ h9 => h9) rfl dX6_type_13 ?_
    refine lv_aload_n hx hb dX6_type_16 rfl (lv_at hl 0 rfl) ?_
    refine va_get (D := D) (ci := 6) (v := .int (g.1 4)) (C := RX6) (T := TX6) (N := 12) hx hb hts inX6 hown hK.1 hP 0 rfl rfl 4 (by decide) (hts (.fieldLink RX6 130 "ClosExchangeModel" "typed" "I") (List.mem_of_getElem? (i := 1) rfl)) (fun _ h9 => h9) rfl dX6_type_17 ?_
    refine lv_iload_n hx hb dX6_type_20 rfl (lv_at hl 1 rfl) ?_
    obtain ⟨c2, hf⟩ := it_g hf
    obtain ⟨w3, hw3, hf⟩ := it_j hf
    refine giastw (wf := (mdW cI z (setR g 1 w3))) hw3 hx hb hK.1 hP hD hS 2 0 rfl rfl (inb_in c2) dX6_type_21 rfl (fun H locs hP hD hS => ?_)
    refine lv_aload_n hx hb dX6_type_22 rfl (lv_at hl 0 rfl) ?_
    refine lv_dup hx hb dX6_type_23 rfl ?_
    refine va_get (D := D) (ci := 6) (v := .int (g.1 4)) (C := RX6) (T := TX6) (N := 12) hx hb hts inX6 hown hK.1 hP 0 rfl rfl 4 (by decide) (hts (.fieldLink RX6 130 "ClosExchangeModel" "typed" "I") (List.mem_of_getElem? (i := 1) rfl)) (fun _ h9 => h9) rfl dX6_type_24 ?_
    refine lv_iconst (v := (1 : Int32)) hx hb dX6_type_27 kc_iconst_1 ?_
    refine lv_iadd hx hb dX6_type_28 ?_
    obtain ⟨w4, hw4, hf⟩ := it_j hf
    rw [hw4]
    refine gput (D := D) (ci := 6) (v := .int w4) (ty := .int) (C := RX6) (T := TX6) (N := 12) (wf := (mdW cI z (setF (setR g 1 w3) 4 w4))) hx hb hts inX6 tyX6 tyX6_ok nmX6 hown hK.1 hP hD hS 0 rfl rfl 4 (by decide) (hts (.fieldLink RX6 130 "ClosExchangeModel" "typed" "I") (List.mem_of_getElem? (i := 1) rfl)) (fun _ h9 => h9) rfl (by decide +kernel) rfl rfl (Nat.le_of_ble_eq_true rfl) dX6_type_29 rfl (fun H locs hP hD hS => ?_)
    refine lv_aload_n hx hb dX6_type_32 rfl (lv_at hl 0 rfl) ?_
    refine va_get (D := D) (ci := 6) (v := .int w4) (C := RX6) (T := TX6) (N := 12) hx hb hts inX6 hown hK.1 hP 0 rfl rfl 4 (by decide) (hts (.fieldLink RX6 130 "ClosExchangeModel" "typed" "I") (List.mem_of_getElem? (i := 1) rfl)) (fun _ h9 => h9) rfl dX6_type_33 ?_
    have e0 : w4 = r0 := congrArg (fun z => z.1) (Option.some.inj hf)
    have e1 : (setF (setR g 1 w3) 4 w4) = g' := congrArg (fun z => z.2) (Option.some.inj hf)
    subst e0
    subst e1
    exact hret H locs ls _ dX6_type_36 rfl hP hD hS
  · have hf := it_t hf c1
    refine lv_bipush (v := (-5 : Int32)) hx hb dX6_type_9 kc_bipush_m5 ?_
    have e0 : (-5 : Int32) = r0 := congrArg (fun z => z.1) (Option.some.inj hf)
    have e1 : g = g' := congrArg (fun z => z.2) (Option.some.inj hf)
    subst e0
    subst e1
    exact hret H locs ls _ dX6_type_11 rfl hP hD hS
set_option maxRecDepth 100000 in
theorem c_X6_type (l : Launch) (D : va_G) (cI cN : ClassId) (z : Nat → Nat) (sz : Nat) (g : OS) (x1 : Int32) (r0 : Int32) (g' : OS) (hf : fX6_type g x1 = some (r0, g')) : CtI l D cI cN yX6_type wsX6_type rm_X6_type 0 0 [.ref (z 0), .int x1] (mdW cI z g) sz r0 (mdW cI z g') := by
  refine mW (cc := cX6_type) (maxL := 2) (ty := .int) (by decide) rfl rfl (Nat.le_of_ble_eq_true rfl) ?_
  intro p e s m args below meth c Q A S hK hP hD hS hA hret ls hl
  exact w_X6_type_0 S hK hA hret hf _ _ _ hP hD hS (lv_sub (show lv_has ls 2 [(0, .ref (z 0)), (1, .int x1)] from hl) [0, 1] rfl)
abbrev rm_X6_clearText : Room := { frames := 0, cells := 0, slots := 0, locals := 0 }
theorem in_X6_clearText_X6 : ∀ w ∈ u_ws RX6 TX6 12, w ∈ wsX6_clearText := fun w h => List.mem_cons_of_mem _ (List.mem_append_right _ h)
set_option maxRecDepth 100000 in
set_option maxHeartbeats 4000000 in
theorem w_X6_clearText_0 {p : Program} {l : Launch} {e : Env} {s : State} {m : MethodId} {args : Array Value} {below : List Frame} {meth : Method} {c : Code} {Q : State → Prop} {D : va_G} {cI cN : ClassId} {A : Nat → Prop} {z : Nat → Nat} (S : CallFix p m c cX6_clearText 2 s args wsX6_clearText RX6) (hK : KN D cI cN s) (hA : ∀ q : Nat, s.heap.size ≤ q → A q) {g : OS} {r0 : Int32} {g' : OS} (hret : ∀ (H : Heap) (locs : List Loc) (ls : Array Slot) (pc : Nat), decode cX6_clearText pc = .ok (.ireturn, 1) → narrow .int (.int r0) = .int r0 → va_P D vwCl (mdW cI z g') H → va_D A (mdW cI z g') → va_S A s.heap H locs → W p l e (headSpec wsX6_clearText rm_X6_clearText).room s m args below meth c H locs 0 0 Q (F0 m pc ls [.int r0])) (hf : fX6_clearText g = (r0, g')) (H : Heap) (locs : List Loc) (ls : Array Slot) (hP : va_P D vwCl (mdW cI z g) H) (hD : va_D A (mdW cI z g)) (hS : va_S A s.heap H locs) (hl : lv_has ls 2 [(0, .ref (z 0))]) : W p l e (headSpec wsX6_clearText rm_X6_clearText).room s m args below meth c H locs 0 0 Q (F0 m 0 ls []) := by
  obtain ⟨hx, hb, hml, hown, hts⟩ := id S
  have inX6 := in_X6_clearText_X6
  unfold fX6_clearText at hf
  refine lv_aload_n hx hb dX6_clearText_0 rfl (lv_at hl 0 rfl) ?_
  refine va_get (D := D) (ci := 6) (v := .int (g.1 4)) (C := RX6) (T := TX6) (N := 12) hx hb hts inX6 hown hK.1 hP 0 rfl rfl 4 (by decide) (hts (.fieldLink RX6 130 "ClosExchangeModel" "typed" "I") (List.mem_of_getElem? (i := 1) rfl)) (fun _ h9 => h9) rfl dX6_clearText_1 ?_
  refine lv_istore_n (lv' := [(1, .int (g.1 4)), (0, .ref (z 0))]) hx hb dX6_clearText_4 rfl hl (by decide) rfl (fun ls hl => ?_)
  refine lv_aload_n hx hb dX6_clearText_5 rfl (lv_at hl 1 rfl) ?_
  refine lv_iconst (v := (0 : Int32)) hx hb dX6_clearText_6 kc_iconst_0 ?_
  refine gput (D := D) (ci := 6) (v := .int (0 : Int32)) (ty := .int) (C := RX6) (T := TX6) (N := 12) (wf := (mdW cI z (setF g 4 (0 : Int32)))) hx hb hts inX6 tyX6 tyX6_ok nmX6 hown hK.1 hP hD hS 0 rfl rfl 4 (by decide) (hts (.fieldLink RX6 130 "ClosExchangeModel" "typed" "I") (List.mem_of_getElem? (i := 1) rfl)) (fun _ h9 => h9) rfl (by decide +kernel) rfl rfl (Nat.le_of_ble_eq_true rfl) dX6_clearText_7 rfl (fun H locs hP hD hS => ?_)
  refine lv_iload_n hx hb dX6_clearText_10 rfl (lv_at hl 0 rfl) ?_
  have e0 : (g.1 4) = r0 := congrArg (fun z => z.1) hf
  have e1 : (setF g 4 (0 : Int32)) = g' := congrArg (fun z => z.2) hf
  subst e0
  subst e1
  exact hret H locs ls _ dX6_clearText_11 rfl hP hD hS
set_option maxRecDepth 100000 in
theorem c_X6_clearText (l : Launch) (D : va_G) (cI cN : ClassId) (z : Nat → Nat) (sz : Nat) (g : OS) (r0 : Int32) (g' : OS) (hf : fX6_clearText g = (r0, g')) : CtI l D cI cN yX6_clearText wsX6_clearText rm_X6_clearText 0 0 [.ref (z 0)] (mdW cI z g) sz r0 (mdW cI z g') := by
  refine mW (cc := cX6_clearText) (maxL := 2) (ty := .int) (by decide) rfl rfl (Nat.le_of_ble_eq_true rfl) ?_
  intro p e s m args below meth c Q A S hK hP hD hS hA hret ls hl
  exact w_X6_clearText_0 S hK hA hret hf _ _ _ hP hD hS (lv_sub (show lv_has ls 2 [(0, .ref (z 0))] from hl) [0] rfl)
abbrev rm_X6_isHere : Room := { frames := 1, cells := 0, slots := 0, locals := 22 }
theorem in_X6_isHere_X6 : ∀ w ∈ u_ws RX6 TX6 12, w ∈ wsX6_isHere := fun w h => List.mem_cons_of_mem _ (List.mem_append_right _ h)
set_option maxRecDepth 100000 in
set_option maxHeartbeats 4000000 in
theorem w_X6_isHere_0 {p : Program} {l : Launch} {e : Env} {s : State} {m : MethodId} {args : Array Value} {below : List Frame} {meth : Method} {c : Code} {Q : State → Prop} {D : va_G} {cI cN : ClassId} {z : Nat → Nat} (S : CallFix p m c cX6_isHere 3 s args wsX6_isHere RX6) (hK : KN D cI cN s) {g : OS} {x1 : Int32} {x2 : Int32} {r0 : Int32} (hret : ∀ (H : Heap) (locs : List Loc) (ls : Array Slot) (pc : Nat), decode cX6_isHere pc = .ok (.ireturn, 1) → narrow .boolean (.int r0) = .int r0 → va_S (nwA s.heap.size) s.heap H locs → W p l e (headSpec wsX6_isHere rm_X6_isHere).room s m args below meth c H locs 0 0 Q (F0 m pc ls [.int r0])) (hf : fX6_isHere g x1 x2 = some r0) (H : Heap) (locs : List Loc) (ls : Array Slot) (hP : va_P D vwCl (mdW cI z g) H) (hS : va_S (nwA s.heap.size) s.heap H locs) (hl : lv_has ls 3 [(0, .ref (z 0)), (1, .int x1), (2, .int x2)]) : W p l e (headSpec wsX6_isHere rm_X6_isHere).room s m args below meth c H locs 0 0 Q (F0 m 0 ls []) := by
  obtain ⟨hx, hb, hml, hown, hts⟩ := id S
  have inX6 := in_X6_isHere_X6
  have hA : ∀ q : Nat, s.heap.size ≤ q → nwA s.heap.size q := fun _ h => h
  unfold fX6_isHere at hf
  refine lv_aload_n hx hb dX6_isHere_0 rfl (lv_at hl 0 rfl) ?_
  refine va_get (D := D) (ci := 6) (v := .int (g.1 5)) (C := RX6) (T := TX6) (N := 12) hx hb hts inX6 hown hK.1 hP 0 rfl rfl 5 (by decide) (hts (.fieldLink RX6 133 "ClosExchangeModel" "at" "I") (List.mem_of_getElem? (i := 1) rfl)) (fun _ h9 => h9) rfl dX6_isHere_1 ?_
  refine lv_aload_n hx hb dX6_isHere_4 rfl (lv_at hl 0 rfl) ?_
  refine va_get (D := D) (ci := 6) (v := .int (g.1 4)) (C := RX6) (T := TX6) (N := 12) hx hb hts inX6 hown hK.1 hP 0 rfl rfl 4 (by decide) (hts (.fieldLink RX6 130 "ClosExchangeModel" "typed" "I") (List.mem_of_getElem? (i := 2) rfl)) (fun _ h9 => h9) rfl dX6_isHere_5 ?_
  refine lv_icmp_ge (tgt := 32) hx hb dX6_isHere_8 (by decide) (fun c1 => ?_) (fun c1 => ?_)
  · have hf := it_t hf c1
    refine lv_iconst (v := (0 : Int32)) hx hb dX6_isHere_32 kc_iconst_0 ?_
    have e0 : (0 : Int32) = r0 := (Option.some.inj hf)
    subst e0
    exact hret H locs ls _ dX6_isHere_33 (by first | rfl | exact bo_in | (exact bo_isHere (by assumption))) hS
  · have hf := it_f hf c1
    refine lv_aload_n hx hb dX6_isHere_11 rfl (lv_at hl 0 rfl) ?_
    refine va_get (D := D) (ci := 6) (v := .ref (z 2)) (C := RX6) (T := TX6) (N := 12) hx hb hts inX6 hown hK.1 hP 0 rfl rfl 3 (by decide) (hts (.fieldLink RX6 13 "ClosExchangeModel" "text" "[I") (List.mem_of_getElem? (i := 3) rfl)) (fun _ h9 => h9) rfl dX6_isHere_12 ?_
    refine lv_aload_n hx hb dX6_isHere_15 rfl (lv_at hl 0 rfl) ?_
    refine va_get (D := D) (ci := 6) (v := .int (g.1 5)) (C := RX6) (T := TX6) (N := 12) hx hb hts inX6 hown hK.1 hP 0 rfl rfl 5 (by decide) (hts (.fieldLink RX6 133 "ClosExchangeModel" "at" "I") (List.mem_of_getElem? (i := 1) rfl)) (fun _ h9 => h9) rfl dX6_isHere_16 ?_
    obtain ⟨c2, hf⟩ := it_g hf
    refine va_iald hx hb hK.1 hP 2 0 rfl rfl (inb_in c2) dX6_isHere_19 ?_
    refine lv_iload_n hx hb dX6_isHere_20 rfl (lv_at hl 1 rfl) ?_
    refine lv_iload_n hx hb dX6_isHere_21 rfl (lv_at hl 2 rfl) ?_
    refine cSi (As := [.int ((g.2 1) (g.1 5).toNatClampNeg), .int x1, .int x2]) (rest := []) S (c_X6_in l D cI cN _ ((g.2 1) (g.1 5).toNatClampNeg) x1 x2 (fX6_in ((g.2 1) (g.1 5).toNatClampNeg) x1 x2) rfl) (va_cwS 3 hts gX6_isHere_X6_in rfl rfl rfl (by decide +kernel) ⟨Nat.le_of_ble_eq_true rfl, Nat.le_of_ble_eq_true rfl⟩) hK hP hS hA [] rfl rfl hl.1 rfl (Nat.le_of_ble_eq_true rfl) dX6_isHere_22 ⟨Nat.zero_le _, Nat.zero_le _⟩ (fun H locs hP hS => ?_)
    refine lv_if_eq (tgt := 32) hx hb dX6_isHere_25 (by decide) (fun c3 => ?_) (fun c3 => ?_)
    · have hf := it_t hf c3
      refine lv_iconst (v := (0 : Int32)) hx hb dX6_isHere_32 kc_iconst_0 ?_
      have e0 : (0 : Int32) = r0 := (Option.some.inj hf)
      subst e0
      exact hret H locs ls _ dX6_isHere_33 (by first | rfl | exact bo_in | (exact bo_isHere (by assumption))) hS
    · have hf := it_f hf c3
      refine lv_iconst (v := (1 : Int32)) hx hb dX6_isHere_28 kc_iconst_1 ?_
      refine lv_goto (tgt := 33) hx hb dX6_isHere_29 (by decide) ?_
      have e0 : (1 : Int32) = r0 := (Option.some.inj hf)
      subst e0
      exact hret H locs ls _ dX6_isHere_33 (by first | rfl | exact bo_in | (exact bo_isHere (by assumption))) hS
set_option maxRecDepth 100000 in
theorem c_X6_isHere (l : Launch) (D : va_G) (cI cN : ClassId) (z : Nat → Nat) (sz : Nat) (g : OS) (x1 : Int32) (x2 : Int32) (r0 : Int32) (hf : fX6_isHere g x1 x2 = some r0) : CtP l D cI cN yX6_isHere wsX6_isHere rm_X6_isHere [.ref (z 0), .int x1, .int x2] (mdW cI z g) sz r0 := by
  refine mP (cc := cX6_isHere) (maxL := 3) (ty := .boolean) (by decide) rfl rfl (Nat.le_of_ble_eq_true rfl) ?_
  intro p e s m args below meth c Q S hK hP hS hret ls hl
  exact w_X6_isHere_0 S hK hret hf _ _ _ hP hS (lv_sub (show lv_has ls 3 [(0, .ref (z 0)), (1, .int x1), (2, .int x2)] from hl) [0, 1, 2] rfl)
abbrev rm_X6_takes : Room := { frames := 2, cells := 0, slots := 0, locals := 44 }
theorem in_X6_takes_X6 : ∀ w ∈ u_ws RX6 TX6 12, w ∈ wsX6_takes := fun w h => List.mem_cons_of_mem _ (List.mem_append_right _ h)
set_option maxRecDepth 100000 in
set_option maxHeartbeats 4000000 in
theorem w_X6_takes_0 {p : Program} {l : Launch} {e : Env} {s : State} {m : MethodId} {args : Array Value} {below : List Frame} {meth : Method} {c : Code} {Q : State → Prop} {D : va_G} {cI cN : ClassId} {A : Nat → Prop} {z : Nat → Nat} (S : CallFix p m c cX6_takes 3 s args wsX6_takes RX6) (hK : KN D cI cN s) (hA : ∀ q : Nat, s.heap.size ≤ q → A q) {g : OS} {x1 : Int32} {r0 : Int32} {g' : OS} (hret : ∀ (H : Heap) (locs : List Loc) (ls : Array Slot) (pc : Nat), decode cX6_takes pc = .ok (.ireturn, 1) → narrow .boolean (.int r0) = .int r0 → va_P D vwCl (mdW cI z g') H → va_D A (mdW cI z g') → va_S A s.heap H locs → W p l e (headSpec wsX6_takes rm_X6_takes).room s m args below meth c H locs 0 0 Q (F0 m pc ls [.int r0])) (hf : fX6_takes g x1 = some (r0, g')) (H : Heap) (locs : List Loc) (ls : Array Slot) (hP : va_P D vwCl (mdW cI z g) H) (hD : va_D A (mdW cI z g)) (hS : va_S A s.heap H locs) (hl : lv_has ls 3 [(0, .ref (z 0)), (1, .int x1)]) : W p l e (headSpec wsX6_takes rm_X6_takes).room s m args below meth c H locs 0 0 Q (F0 m 0 ls []) := by
  obtain ⟨hx, hb, hml, hown, hts⟩ := id S
  have inX6 := in_X6_takes_X6
  unfold fX6_takes at hf
  refine lv_aload_n hx hb dX6_takes_0 rfl (lv_at hl 0 rfl) ?_
  refine lv_iload_n hx hb dX6_takes_1 rfl (lv_at hl 1 rfl) ?_
  refine lv_iload_n hx hb dX6_takes_2 rfl (lv_at hl 1 rfl) ?_
  obtain ⟨v1, hv1, hf⟩ := it_b hf
  refine cQi (As := [.int x1, .int x1]) (rest := []) (q0 := 0) (ci := 6) S (c_X6_isHere l D cI cN z _ g x1 x1 v1 hv1) (cwV 2 hts gX6_takes_X6_isHere rfl rfl rfl (by decide +kernel) ⟨Nat.le_of_ble_eq_true rfl, Nat.le_of_ble_eq_true rfl⟩) hK hP hS hA hP rfl rfl rfl hl.1 rfl (Nat.le_of_ble_eq_true rfl) dX6_takes_3 ⟨Nat.zero_le _, Nat.zero_le _⟩ (fun H locs hP hS => ?_)
  refine lv_istore_n (lv' := [(2, .int v1), (0, .ref (z 0)), (1, .int x1)]) hx hb dX6_takes_6 rfl hl (by decide) rfl (fun ls hl => ?_)
  refine lv_aload_n hx hb dX6_takes_7 rfl (lv_at hl 1 rfl) ?_
  refine lv_dup hx hb dX6_takes_8 rfl ?_
  refine va_get (D := D) (ci := 6) (v := .int (g.1 5)) (C := RX6) (T := TX6) (N := 12) hx hb hts inX6 hown hK.1 hP 0 rfl rfl 5 (by decide) (hts (.fieldLink RX6 133 "ClosExchangeModel" "at" "I") (List.mem_of_getElem? (i := 1) rfl)) (fun _ h9 => h9) rfl dX6_takes_9 ?_
  refine lv_iload_n hx hb dX6_takes_12 rfl (lv_at hl 0 rfl) ?_
  refine lv_if_eq (tgt := 20) hx hb dX6_takes_13 (by decide) (fun c2 => ?_) (fun c2 => ?_)
  · have hf := it_t hf c2
    refine lv_iconst (v := (0 : Int32)) hx hb dX6_takes_20 kc_iconst_0 ?_
    refine lv_iadd hx hb dX6_takes_21 ?_
    obtain ⟨w3, hw3, hf⟩ := it_j hf
    rw [hw3]
    refine gput (D := D) (ci := 6) (v := .int w3) (ty := .int) (C := RX6) (T := TX6) (N := 12) (wf := (mdW cI z (setF g 5 w3))) hx hb hts inX6 tyX6 tyX6_ok nmX6 hown hK.1 hP hD hS 0 rfl rfl 5 (by decide) (hts (.fieldLink RX6 133 "ClosExchangeModel" "at" "I") (List.mem_of_getElem? (i := 1) rfl)) (fun _ h9 => h9) rfl (by decide +kernel) rfl rfl (Nat.le_of_ble_eq_true rfl) dX6_takes_22 rfl (fun H locs hP hD hS => ?_)
    refine lv_iload_n hx hb dX6_takes_25 rfl (lv_at hl 0 rfl) ?_
    have e0 : v1 = r0 := congrArg (fun z => z.1) (Option.some.inj hf)
    have e1 : (setF g 5 w3) = g' := congrArg (fun z => z.2) (Option.some.inj hf)
    subst e0
    subst e1
    exact hret H locs ls _ dX6_takes_26 (by first | rfl | exact bo_in | (exact bo_isHere (by assumption))) hP hD hS
  · have hf := it_f hf c2
    refine lv_iconst (v := (1 : Int32)) hx hb dX6_takes_16 kc_iconst_1 ?_
    refine lv_goto (tgt := 21) hx hb dX6_takes_17 (by decide) ?_
    refine lv_iadd hx hb dX6_takes_21 ?_
    obtain ⟨w4, hw4, hf⟩ := it_j hf
    rw [hw4]
    refine gput (D := D) (ci := 6) (v := .int w4) (ty := .int) (C := RX6) (T := TX6) (N := 12) (wf := (mdW cI z (setF g 5 w4))) hx hb hts inX6 tyX6 tyX6_ok nmX6 hown hK.1 hP hD hS 0 rfl rfl 5 (by decide) (hts (.fieldLink RX6 133 "ClosExchangeModel" "at" "I") (List.mem_of_getElem? (i := 1) rfl)) (fun _ h9 => h9) rfl (by decide +kernel) rfl rfl (Nat.le_of_ble_eq_true rfl) dX6_takes_22 rfl (fun H locs hP hD hS => ?_)
    refine lv_iload_n hx hb dX6_takes_25 rfl (lv_at hl 0 rfl) ?_
    have e0 : v1 = r0 := congrArg (fun z => z.1) (Option.some.inj hf)
    have e1 : (setF g 5 w4) = g' := congrArg (fun z => z.2) (Option.some.inj hf)
    subst e0
    subst e1
    exact hret H locs ls _ dX6_takes_26 (by first | rfl | exact bo_in | (exact bo_isHere (by assumption))) hP hD hS
set_option maxRecDepth 100000 in
theorem c_X6_takes (l : Launch) (D : va_G) (cI cN : ClassId) (z : Nat → Nat) (sz : Nat) (g : OS) (x1 : Int32) (r0 : Int32) (g' : OS) (hf : fX6_takes g x1 = some (r0, g')) : CtI l D cI cN yX6_takes wsX6_takes rm_X6_takes 0 0 [.ref (z 0), .int x1] (mdW cI z g) sz r0 (mdW cI z g') := by
  refine mW (cc := cX6_takes) (maxL := 3) (ty := .boolean) (by decide) rfl rfl (Nat.le_of_ble_eq_true rfl) ?_
  intro p e s m args below meth c Q A S hK hP hD hS hA hret ls hl
  exact w_X6_takes_0 S hK hA hret hf _ _ _ hP hD hS (lv_sub (show lv_has ls 3 [(0, .ref (z 0)), (1, .int x1)] from hl) [0, 1] rfl)
abbrev rm_X6_number : Room := { frames := 2, cells := 0, slots := 0, locals := 44 }
theorem in_X6_number_X6 : ∀ w ∈ u_ws RX6 TX6 12, w ∈ wsX6_number := fun w h => List.mem_cons_of_mem _ (List.mem_append_right _ h)
set_option maxRecDepth 100000 in
set_option maxHeartbeats 4000000 in
theorem w_X6_number_0 {p : Program} {l : Launch} {e : Env} {s : State} {m : MethodId} {args : Array Value} {below : List Frame} {meth : Method} {c : Code} {Q : State → Prop} {D : va_G} {cI cN : ClassId} {A : Nat → Prop} {z : Nat → Nat} (S : CallFix p m c cX6_number 2 s args wsX6_number RX6) (hK : KN D cI cN s) (hA : ∀ q : Nat, s.heap.size ≤ q → A q) {g : OS} {r0 : Int32} {g' : OS} (hret : ∀ (H : Heap) (locs : List Loc) (ls : Array Slot) (pc : Nat), decode cX6_number pc = .ok (.ireturn, 1) → narrow .int (.int r0) = .int r0 → va_P D vwCl (mdW cI z g') H → va_D A (mdW cI z g') → va_S A s.heap H locs → W p l e (headSpec wsX6_number rm_X6_number).room s m args below meth c H locs 0 0 Q (F0 m pc ls [.int r0])) (hf : fX6_number g = some (r0, g')) (H : Heap) (locs : List Loc) (ls : Array Slot) (hP : va_P D vwCl (mdW cI z g) H) (hD : va_D A (mdW cI z g)) (hS : va_S A s.heap H locs) (hl : lv_has ls 2 [(0, .ref (z 0))]) : W p l e (headSpec wsX6_number rm_X6_number).room s m args below meth c H locs 0 0 Q (F0 m 0 ls []) := by
  obtain ⟨hx, hb, hml, hown, hts⟩ := id S
  have inX6 := in_X6_number_X6
  unfold fX6_number at hf
  refine lv_aload_n hx hb dX6_number_0 rfl (lv_at hl 0 rfl) ?_
  refine lv_bipush (v := (48 : Int32)) hx hb dX6_number_1 kc_bipush_48 ?_
  refine lv_bipush (v := (57 : Int32)) hx hb dX6_number_3 kc_bipush_57 ?_
  obtain ⟨v1, hv1, hf⟩ := it_b hf
  refine cQi (As := [.int (48 : Int32), .int (57 : Int32)]) (rest := []) (q0 := 0) (ci := 6) S (c_X6_isHere l D cI cN z _ g (48 : Int32) (57 : Int32) v1 hv1) (cwV 2 hts gX6_number_X6_isHere rfl rfl rfl (by decide +kernel) ⟨Nat.le_of_ble_eq_true rfl, Nat.le_of_ble_eq_true rfl⟩) hK hP hS hA hP rfl rfl rfl hl.1 rfl (Nat.le_of_ble_eq_true rfl) dX6_number_5 ⟨Nat.zero_le _, Nat.zero_le _⟩ (fun H locs hP hS => ?_)
  refine lv_if_ne (tgt := 13) hx hb dX6_number_8 (by decide) (fun c2 => ?_) (fun c2 => ?_)
  · have hf := it_f hf c2
    refine lv_aload_n hx hb dX6_number_13 rfl (lv_at hl 0 rfl) ?_
    refine va_get (D := D) (ci := 6) (v := .ref (z 2)) (C := RX6) (T := TX6) (N := 12) hx hb hts inX6 hown hK.1 hP 0 rfl rfl 3 (by decide) (hts (.fieldLink RX6 13 "ClosExchangeModel" "text" "[I") (List.mem_of_getElem? (i := 1) rfl)) (fun _ h9 => h9) rfl dX6_number_14 ?_
    refine lv_aload_n hx hb dX6_number_17 rfl (lv_at hl 0 rfl) ?_
    refine va_get (D := D) (ci := 6) (v := .int (g.1 5)) (C := RX6) (T := TX6) (N := 12) hx hb hts inX6 hown hK.1 hP 0 rfl rfl 5 (by decide) (hts (.fieldLink RX6 133 "ClosExchangeModel" "at" "I") (List.mem_of_getElem? (i := 2) rfl)) (fun _ h9 => h9) rfl dX6_number_18 ?_
    obtain ⟨c3, hf⟩ := it_g hf
    refine va_iald hx hb hK.1 hP 2 0 rfl rfl (inb_in c3) dX6_number_21 ?_
    refine lv_bipush (v := (48 : Int32)) hx hb dX6_number_22 kc_bipush_48 ?_
    refine lv_isub hx hb dX6_number_24 ?_
    refine lv_istore_n (lv' := [(1, .int (((g.2 1) (g.1 5).toNatClampNeg) - (48 : Int32))), (0, .ref (z 0))]) hx hb dX6_number_25 rfl hl (by decide) rfl (fun ls hl => ?_)
    refine lv_aload_n hx hb dX6_number_26 rfl (lv_at hl 1 rfl) ?_
    refine lv_dup hx hb dX6_number_27 rfl ?_
    refine va_get (D := D) (ci := 6) (v := .int (g.1 5)) (C := RX6) (T := TX6) (N := 12) hx hb hts inX6 hown hK.1 hP 0 rfl rfl 5 (by decide) (hts (.fieldLink RX6 133 "ClosExchangeModel" "at" "I") (List.mem_of_getElem? (i := 2) rfl)) (fun _ h9 => h9) rfl dX6_number_28 ?_
    refine lv_iconst (v := (1 : Int32)) hx hb dX6_number_31 kc_iconst_1 ?_
    refine lv_iadd hx hb dX6_number_32 ?_
    obtain ⟨w4, hw4, hf⟩ := it_j hf
    rw [hw4]
    refine gput (D := D) (ci := 6) (v := .int w4) (ty := .int) (C := RX6) (T := TX6) (N := 12) (wf := (mdW cI z (setF g 5 w4))) hx hb hts inX6 tyX6 tyX6_ok nmX6 hown hK.1 hP hD hS 0 rfl rfl 5 (by decide) (hts (.fieldLink RX6 133 "ClosExchangeModel" "at" "I") (List.mem_of_getElem? (i := 2) rfl)) (fun _ h9 => h9) rfl (by decide +kernel) rfl rfl (Nat.le_of_ble_eq_true rfl) dX6_number_33 rfl (fun H locs hP hD hS => ?_)
    refine lv_iload_n hx hb dX6_number_36 rfl (lv_at hl 0 rfl) ?_
    refine lv_if_le (tgt := 101) hx hb dX6_number_37 (by decide) (fun c5 => ?_) (fun c5 => ?_)
    · have hf := it_t hf c5
      refine lv_iload_n hx hb dX6_number_101 rfl (lv_at hl 0 rfl) ?_
      have e0 : (((g.2 1) (g.1 5).toNatClampNeg) - (48 : Int32)) = r0 := congrArg (fun z => z.1) (Option.some.inj hf)
      have e1 : (setF g 5 w4) = g' := congrArg (fun z => z.2) (Option.some.inj hf)
      subst e0
      subst e1
      exact hret H locs ls _ dX6_number_102 rfl hP hD hS
    · have hf := it_f hf c5
      refine lv_aload_n hx hb dX6_number_40 rfl (lv_at hl 1 rfl) ?_
      refine lv_bipush (v := (48 : Int32)) hx hb dX6_number_41 kc_bipush_48 ?_
      refine lv_bipush (v := (57 : Int32)) hx hb dX6_number_43 kc_bipush_57 ?_
      obtain ⟨v6, hv6, hf⟩ := it_b hf
      refine cQi (As := [.int (48 : Int32), .int (57 : Int32)]) (rest := []) (q0 := 0) (ci := 6) S (c_X6_isHere l D cI cN z _ (setF g 5 w4) (48 : Int32) (57 : Int32) v6 hv6) (cwV 2 hts gX6_number_X6_isHere rfl rfl rfl (by decide +kernel) ⟨Nat.le_of_ble_eq_true rfl, Nat.le_of_ble_eq_true rfl⟩) hK hP hS hA hP rfl rfl rfl hl.1 rfl (Nat.le_of_ble_eq_true rfl) dX6_number_45 ⟨Nat.zero_le _, Nat.zero_le _⟩ (fun H locs hP hS => ?_)
      refine lv_if_eq (tgt := 101) hx hb dX6_number_48 (by decide) (fun c7 => ?_) (fun c7 => ?_)
      · have hf := it_t hf c7
        refine lv_iload_n hx hb dX6_number_101 rfl (lv_at hl 0 rfl) ?_
        have e0 : (((g.2 1) (g.1 5).toNatClampNeg) - (48 : Int32)) = r0 := congrArg (fun z => z.1) (Option.some.inj hf)
        have e1 : (setF g 5 w4) = g' := congrArg (fun z => z.2) (Option.some.inj hf)
        subst e0
        subst e1
        exact hret H locs ls _ dX6_number_102 rfl hP hD hS
      · have hf := it_f hf c7
        refine lv_bipush (v := (10 : Int32)) hx hb dX6_number_51 kc_bipush_10 ?_
        refine lv_iload_n hx hb dX6_number_53 rfl (lv_at hl 0 rfl) ?_
        refine lv_imul hx hb dX6_number_54 ?_
        refine lv_aload_n hx hb dX6_number_55 rfl (lv_at hl 1 rfl) ?_
        refine va_get (D := D) (ci := 6) (v := .ref (z 2)) (C := RX6) (T := TX6) (N := 12) hx hb hts inX6 hown hK.1 hP 0 rfl rfl 3 (by decide) (hts (.fieldLink RX6 13 "ClosExchangeModel" "text" "[I") (List.mem_of_getElem? (i := 1) rfl)) (fun _ h9 => h9) rfl dX6_number_56 ?_
        refine lv_aload_n hx hb dX6_number_59 rfl (lv_at hl 1 rfl) ?_
        refine va_get (D := D) (ci := 6) (v := .int w4) (C := RX6) (T := TX6) (N := 12) hx hb hts inX6 hown hK.1 hP 0 rfl rfl 5 (by decide) (hts (.fieldLink RX6 133 "ClosExchangeModel" "at" "I") (List.mem_of_getElem? (i := 2) rfl)) (fun _ h9 => h9) rfl dX6_number_60 ?_
        obtain ⟨c8, hf⟩ := it_g hf
        refine va_iald hx hb hK.1 hP 2 0 rfl rfl (inb_in c8) dX6_number_63 ?_
        refine lv_iadd hx hb dX6_number_64 ?_
        refine lv_bipush (v := (48 : Int32)) hx hb dX6_number_65 kc_bipush_48 ?_
        refine lv_isub hx hb dX6_number_67 ?_
        refine lv_bipush (v := (47 : Int32)) hx hb dX6_number_68 kc_bipush_47 ?_
        refine lv_icmp_gt (tgt := 101) hx hb dX6_number_70 (by decide) (fun c9 => ?_) (fun c9 => ?_)
        · have hf := it_t hf c9
          refine lv_iload_n hx hb dX6_number_101 rfl (lv_at hl 0 rfl) ?_
          have e0 : (((g.2 1) (g.1 5).toNatClampNeg) - (48 : Int32)) = r0 := congrArg (fun z => z.1) (Option.some.inj hf)
          have e1 : (setF g 5 w4) = g' := congrArg (fun z => z.2) (Option.some.inj hf)
          subst e0
          subst e1
          exact hret H locs ls _ dX6_number_102 rfl hP hD hS
        · have hf := it_f hf c9
          refine lv_bipush (v := (10 : Int32)) hx hb dX6_number_73 kc_bipush_10 ?_
          refine lv_iload_n hx hb dX6_number_75 rfl (lv_at hl 0 rfl) ?_
          refine lv_imul hx hb dX6_number_76 ?_
          refine lv_aload_n hx hb dX6_number_77 rfl (lv_at hl 1 rfl) ?_
          refine va_get (D := D) (ci := 6) (v := .ref (z 2)) (C := RX6) (T := TX6) (N := 12) hx hb hts inX6 hown hK.1 hP 0 rfl rfl 3 (by decide) (hts (.fieldLink RX6 13 "ClosExchangeModel" "text" "[I") (List.mem_of_getElem? (i := 1) rfl)) (fun _ h9 => h9) rfl dX6_number_78 ?_
          refine lv_aload_n hx hb dX6_number_81 rfl (lv_at hl 1 rfl) ?_
          refine va_get (D := D) (ci := 6) (v := .int w4) (C := RX6) (T := TX6) (N := 12) hx hb hts inX6 hown hK.1 hP 0 rfl rfl 5 (by decide) (hts (.fieldLink RX6 133 "ClosExchangeModel" "at" "I") (List.mem_of_getElem? (i := 2) rfl)) (fun _ h9 => h9) rfl dX6_number_82 ?_
          obtain ⟨c10, hf⟩ := it_g hf
          refine va_iald hx hb hK.1 hP 2 0 rfl rfl (inb_in c10) dX6_number_85 ?_
          refine lv_iadd hx hb dX6_number_86 ?_
          refine lv_bipush (v := (48 : Int32)) hx hb dX6_number_87 kc_bipush_48 ?_
          refine lv_isub hx hb dX6_number_89 ?_
          refine lv_istore_n (lv' := [(1, .int ((((10 : Int32) * (((g.2 1) (g.1 5).toNatClampNeg) - (48 : Int32))) + ((g.2 1) w4.toNatClampNeg)) - (48 : Int32))), (0, .ref (z 0))]) hx hb dX6_number_90 rfl hl (by decide) rfl (fun ls hl => ?_)
          refine lv_aload_n hx hb dX6_number_91 rfl (lv_at hl 1 rfl) ?_
          refine lv_dup hx hb dX6_number_92 rfl ?_
          refine va_get (D := D) (ci := 6) (v := .int w4) (C := RX6) (T := TX6) (N := 12) hx hb hts inX6 hown hK.1 hP 0 rfl rfl 5 (by decide) (hts (.fieldLink RX6 133 "ClosExchangeModel" "at" "I") (List.mem_of_getElem? (i := 2) rfl)) (fun _ h9 => h9) rfl dX6_number_93 ?_
          refine lv_iconst (v := (1 : Int32)) hx hb dX6_number_96 kc_iconst_1 ?_
          refine lv_iadd hx hb dX6_number_97 ?_
          obtain ⟨w11, hw11, hf⟩ := it_j hf
          rw [hw11]
          refine gput (D := D) (ci := 6) (v := .int w11) (ty := .int) (C := RX6) (T := TX6) (N := 12) (wf := (mdW cI z (setF g 5 w11))) hx hb hts inX6 tyX6 tyX6_ok nmX6 hown hK.1 hP hD hS 0 rfl rfl 5 (by decide) (hts (.fieldLink RX6 133 "ClosExchangeModel" "at" "I") (List.mem_of_getElem? (i := 2) rfl)) (fun _ h9 => h9) rfl (by decide +kernel) rfl rfl (Nat.le_of_ble_eq_true rfl) dX6_number_98 rfl (fun H locs hP hD hS => ?_)
          refine lv_iload_n hx hb dX6_number_101 rfl (lv_at hl 0 rfl) ?_
          have e0 : ((((10 : Int32) * (((g.2 1) (g.1 5).toNatClampNeg) - (48 : Int32))) + ((g.2 1) w4.toNatClampNeg)) - (48 : Int32)) = r0 := congrArg (fun z => z.1) (Option.some.inj hf)
          have e1 : (setF g 5 w11) = g' := congrArg (fun z => z.2) (Option.some.inj hf)
          subst e0
          subst e1
          exact hret H locs ls _ dX6_number_102 rfl hP hD hS
  · have hf := it_t hf c2
    refine lv_iconst (v := (-1 : Int32)) hx hb dX6_number_11 kc_iconst_m1 ?_
    have e0 : (-1 : Int32) = r0 := congrArg (fun z => z.1) (Option.some.inj hf)
    have e1 : g = g' := congrArg (fun z => z.2) (Option.some.inj hf)
    subst e0
    subst e1
    exact hret H locs ls _ dX6_number_12 rfl hP hD hS
set_option maxRecDepth 100000 in
theorem c_X6_number (l : Launch) (D : va_G) (cI cN : ClassId) (z : Nat → Nat) (sz : Nat) (g : OS) (r0 : Int32) (g' : OS) (hf : fX6_number g = some (r0, g')) : CtI l D cI cN yX6_number wsX6_number rm_X6_number 0 0 [.ref (z 0)] (mdW cI z g) sz r0 (mdW cI z g') := by
  refine mW (cc := cX6_number) (maxL := 2) (ty := .int) (by decide) rfl rfl (Nat.le_of_ble_eq_true rfl) ?_
  intro p e s m args below meth c Q A S hK hP hD hS hA hret ls hl
  exact w_X6_number_0 S hK hA hret hf _ _ _ hP hD hS (lv_sub (show lv_has ls 2 [(0, .ref (z 0))] from hl) [0] rfl)
abbrev rm_X6_digit : Room := { frames := 2, cells := 0, slots := 0, locals := 44 }
theorem in_X6_digit_X6 : ∀ w ∈ u_ws RX6 TX6 12, w ∈ wsX6_digit := fun w h => List.mem_cons_of_mem _ (List.mem_append_right _ h)
set_option maxRecDepth 100000 in
set_option maxHeartbeats 4000000 in
theorem w_X6_digit_0 {p : Program} {l : Launch} {e : Env} {s : State} {m : MethodId} {args : Array Value} {below : List Frame} {meth : Method} {c : Code} {Q : State → Prop} {D : va_G} {cI cN : ClassId} {A : Nat → Prop} {z : Nat → Nat} (S : CallFix p m c cX6_digit 1 s args wsX6_digit RX6) (hK : KN D cI cN s) (hA : ∀ q : Nat, s.heap.size ≤ q → A q) {g : OS} {r0 : Int32} {g' : OS} (hret : ∀ (H : Heap) (locs : List Loc) (ls : Array Slot) (pc : Nat), decode cX6_digit pc = .ok (.ireturn, 1) → narrow .int (.int r0) = .int r0 → va_P D vwCl (mdW cI z g') H → va_D A (mdW cI z g') → va_S A s.heap H locs → W p l e (headSpec wsX6_digit rm_X6_digit).room s m args below meth c H locs 0 0 Q (F0 m pc ls [.int r0])) (hf : fX6_digit g = some (r0, g')) (H : Heap) (locs : List Loc) (ls : Array Slot) (hP : va_P D vwCl (mdW cI z g) H) (hD : va_D A (mdW cI z g)) (hS : va_S A s.heap H locs) (hl : lv_has ls 1 [(0, .ref (z 0))]) : W p l e (headSpec wsX6_digit rm_X6_digit).room s m args below meth c H locs 0 0 Q (F0 m 0 ls []) := by
  obtain ⟨hx, hb, hml, hown, hts⟩ := id S
  have inX6 := in_X6_digit_X6
  unfold fX6_digit at hf
  refine lv_aload_n hx hb dX6_digit_0 rfl (lv_at hl 0 rfl) ?_
  refine lv_bipush (v := (48 : Int32)) hx hb dX6_digit_1 kc_bipush_48 ?_
  refine lv_bipush (v := (55 : Int32)) hx hb dX6_digit_3 kc_bipush_55 ?_
  obtain ⟨v1, hv1, hf⟩ := it_b hf
  refine cQi (As := [.int (48 : Int32), .int (55 : Int32)]) (rest := []) (q0 := 0) (ci := 6) S (c_X6_isHere l D cI cN z _ g (48 : Int32) (55 : Int32) v1 hv1) (cwV 2 hts gX6_digit_X6_isHere rfl rfl rfl (by decide +kernel) ⟨Nat.le_of_ble_eq_true rfl, Nat.le_of_ble_eq_true rfl⟩) hK hP hS hA hP rfl rfl rfl hl.1 rfl (Nat.le_of_ble_eq_true rfl) dX6_digit_5 ⟨Nat.zero_le _, Nat.zero_le _⟩ (fun H locs hP hS => ?_)
  refine lv_if_ne (tgt := 13) hx hb dX6_digit_8 (by decide) (fun c2 => ?_) (fun c2 => ?_)
  · have hf := it_f hf c2
    refine lv_aload_n hx hb dX6_digit_13 rfl (lv_at hl 0 rfl) ?_
    refine lv_dup hx hb dX6_digit_14 rfl ?_
    refine va_get (D := D) (ci := 6) (v := .int (g.1 5)) (C := RX6) (T := TX6) (N := 12) hx hb hts inX6 hown hK.1 hP 0 rfl rfl 5 (by decide) (hts (.fieldLink RX6 133 "ClosExchangeModel" "at" "I") (List.mem_of_getElem? (i := 1) rfl)) (fun _ h9 => h9) rfl dX6_digit_15 ?_
    refine lv_iconst (v := (1 : Int32)) hx hb dX6_digit_18 kc_iconst_1 ?_
    refine lv_iadd hx hb dX6_digit_19 ?_
    obtain ⟨w3, hw3, hf⟩ := it_j hf
    rw [hw3]
    refine gput (D := D) (ci := 6) (v := .int w3) (ty := .int) (C := RX6) (T := TX6) (N := 12) (wf := (mdW cI z (setF g 5 w3))) hx hb hts inX6 tyX6 tyX6_ok nmX6 hown hK.1 hP hD hS 0 rfl rfl 5 (by decide) (hts (.fieldLink RX6 133 "ClosExchangeModel" "at" "I") (List.mem_of_getElem? (i := 1) rfl)) (fun _ h9 => h9) rfl (by decide +kernel) rfl rfl (Nat.le_of_ble_eq_true rfl) dX6_digit_20 rfl (fun H locs hP hD hS => ?_)
    refine lv_aload_n hx hb dX6_digit_23 rfl (lv_at hl 0 rfl) ?_
    refine va_get (D := D) (ci := 6) (v := .ref (z 2)) (C := RX6) (T := TX6) (N := 12) hx hb hts inX6 hown hK.1 hP 0 rfl rfl 3 (by decide) (hts (.fieldLink RX6 13 "ClosExchangeModel" "text" "[I") (List.mem_of_getElem? (i := 2) rfl)) (fun _ h9 => h9) rfl dX6_digit_24 ?_
    refine lv_aload_n hx hb dX6_digit_27 rfl (lv_at hl 0 rfl) ?_
    refine va_get (D := D) (ci := 6) (v := .int w3) (C := RX6) (T := TX6) (N := 12) hx hb hts inX6 hown hK.1 hP 0 rfl rfl 5 (by decide) (hts (.fieldLink RX6 133 "ClosExchangeModel" "at" "I") (List.mem_of_getElem? (i := 1) rfl)) (fun _ h9 => h9) rfl dX6_digit_28 ?_
    refine lv_iconst (v := (1 : Int32)) hx hb dX6_digit_31 kc_iconst_1 ?_
    refine lv_isub hx hb dX6_digit_32 ?_
    obtain ⟨c4, hf⟩ := it_g hf
    refine va_iald hx hb hK.1 hP 2 0 rfl rfl (inb_in c4) dX6_digit_33 ?_
    refine lv_bipush (v := (48 : Int32)) hx hb dX6_digit_34 kc_bipush_48 ?_
    refine lv_isub hx hb dX6_digit_36 ?_
    have e0 : (((g.2 1) (w3 - (1 : Int32)).toNatClampNeg) - (48 : Int32)) = r0 := congrArg (fun z => z.1) (Option.some.inj hf)
    have e1 : (setF g 5 w3) = g' := congrArg (fun z => z.2) (Option.some.inj hf)
    subst e0
    subst e1
    exact hret H locs ls _ dX6_digit_37 rfl hP hD hS
  · have hf := it_t hf c2
    refine lv_iconst (v := (-1 : Int32)) hx hb dX6_digit_11 kc_iconst_m1 ?_
    have e0 : (-1 : Int32) = r0 := congrArg (fun z => z.1) (Option.some.inj hf)
    have e1 : g = g' := congrArg (fun z => z.2) (Option.some.inj hf)
    subst e0
    subst e1
    exact hret H locs ls _ dX6_digit_12 rfl hP hD hS
set_option maxRecDepth 100000 in
theorem c_X6_digit (l : Launch) (D : va_G) (cI cN : ClassId) (z : Nat → Nat) (sz : Nat) (g : OS) (r0 : Int32) (g' : OS) (hf : fX6_digit g = some (r0, g')) : CtI l D cI cN yX6_digit wsX6_digit rm_X6_digit 0 0 [.ref (z 0)] (mdW cI z g) sz r0 (mdW cI z g') := by
  refine mW (cc := cX6_digit) (maxL := 1) (ty := .int) (by decide) rfl rfl (Nat.le_of_ble_eq_true rfl) ?_
  intro p e s m args below meth c Q A S hK hP hD hS hA hret ls hl
  exact w_X6_digit_0 S hK hA hret hf _ _ _ hP hD hS (lv_sub (show lv_has ls 1 [(0, .ref (z 0))] from hl) [0] rfl)
abbrev rm_X6_reads : Room := { frames := 3, cells := 0, slots := 0, locals := 66 }
theorem in_X6_reads_X6 : ∀ w ∈ u_ws RX6 TX6 12, w ∈ wsX6_reads := fun w h => List.mem_cons_of_mem _ (List.mem_append_right _ h)
set_option maxRecDepth 100000 in
set_option maxHeartbeats 4000000 in
theorem w_X6_reads_0 {p : Program} {l : Launch} {e : Env} {s : State} {m : MethodId} {args : Array Value} {below : List Frame} {meth : Method} {c : Code} {Q : State → Prop} {D : va_G} {cI cN : ClassId} {A : Nat → Prop} {z : Nat → Nat} (S : CallFix p m c cX6_reads 1 s args wsX6_reads RX6) (hK : KN D cI cN s) (hA : ∀ q : Nat, s.heap.size ≤ q → A q) {g : OS} {r0 : Int32} {g' : OS} (hret : ∀ (H : Heap) (locs : List Loc) (ls : Array Slot) (pc : Nat), decode cX6_reads pc = .ok (.ireturn, 1) → narrow .boolean (.int r0) = .int r0 → va_P D vwCl (mdW cI z g') H → va_D A (mdW cI z g') → va_S A s.heap H locs → W p l e (headSpec wsX6_reads rm_X6_reads).room s m args below meth c H locs 0 0 Q (F0 m pc ls [.int r0])) (hf : fX6_reads g = some (r0, g')) (H : Heap) (locs : List Loc) (ls : Array Slot) (hP : va_P D vwCl (mdW cI z g) H) (hD : va_D A (mdW cI z g)) (hS : va_S A s.heap H locs) (hl : lv_has ls 1 [(0, .ref (z 0))]) : W p l e (headSpec wsX6_reads rm_X6_reads).room s m args below meth c H locs 0 0 Q (F0 m 0 ls []) := by
  obtain ⟨hx, hb, hml, hown, hts⟩ := id S
  have inX6 := in_X6_reads_X6
  unfold fX6_reads at hf
  refine lv_aload_n hx hb dX6_reads_0 rfl (lv_at hl 0 rfl) ?_
  refine lv_bipush (v := (99 : Int32)) hx hb dX6_reads_1 kc_bipush_99 ?_
  obtain ⟨v1, hv1, hf⟩ := it_b hf
  refine cBi (As := [.int (99 : Int32)]) (rest := []) (q0 := 0) (ci := 6) [(true, (mdW cI z g), (mdW cI z v1.2))] ⟨ad_mod, (fun h => Bool.noConfusion h), trivial⟩ S (c_X6_takes l D cI cN z _ g (99 : Int32) v1.1 v1.2 hv1) (cwV 1 hts gX6_reads_X6_takes rfl rfl rfl (by decide +kernel) ⟨Nat.le_of_ble_eq_true rfl, Nat.le_of_ble_eq_true rfl⟩) hK hP hD hS hA rfl rfl rfl hl.1 rfl (Nat.le_of_ble_eq_true rfl) dX6_reads_3 ⟨Nat.zero_le _, Nat.zero_le _⟩ (fun H locs hP hD hS => ?_)
  refine lv_if_eq (tgt := 63) hx hb dX6_reads_6 (by decide) (fun c2 => ?_) (fun c2 => ?_)
  · have hf := it_t hf c2
    refine lv_aload_n hx hb dX6_reads_63 rfl (lv_at hl 0 rfl) ?_
    refine lv_bipush (v := (100 : Int32)) hx hb dX6_reads_64 kc_bipush_100 ?_
    obtain ⟨v3, hv3, hf⟩ := it_b hf
    refine cBi (As := [.int (100 : Int32)]) (rest := []) (q0 := 0) (ci := 6) [(true, (mdW cI z v1.2), (mdW cI z v3.2))] ⟨ad_mod, (fun h => Bool.noConfusion h), trivial⟩ S (c_X6_takes l D cI cN z _ v1.2 (100 : Int32) v3.1 v3.2 hv3) (cwV 1 hts gX6_reads_X6_takes rfl rfl rfl (by decide +kernel) ⟨Nat.le_of_ble_eq_true rfl, Nat.le_of_ble_eq_true rfl⟩) hK hP hD hS hA rfl rfl rfl hl.1 rfl (Nat.le_of_ble_eq_true rfl) dX6_reads_66 ⟨Nat.zero_le _, Nat.zero_le _⟩ (fun H locs hP hD hS => ?_)
    refine lv_if_eq (tgt := 99) hx hb dX6_reads_69 (by decide) (fun c4 => ?_) (fun c4 => ?_)
    · have hf := it_t hf c4
      refine lv_aload_n hx hb dX6_reads_99 rfl (lv_at hl 0 rfl) ?_
      refine lv_aload_n hx hb dX6_reads_100 rfl (lv_at hl 0 rfl) ?_
      refine lv_bipush (v := (111 : Int32)) hx hb dX6_reads_101 kc_bipush_111 ?_
      obtain ⟨v5, hv5, hf⟩ := it_b hf
      refine cBi (As := [.int (111 : Int32)]) (rest := [.ref (z 0)]) (q0 := 0) (ci := 6) [(true, (mdW cI z v3.2), (mdW cI z v5.2))] ⟨ad_mod, (fun h => Bool.noConfusion h), trivial⟩ S (c_X6_takes l D cI cN z _ v3.2 (111 : Int32) v5.1 v5.2 hv5) (cwV 1 hts gX6_reads_X6_takes rfl rfl rfl (by decide +kernel) ⟨Nat.le_of_ble_eq_true rfl, Nat.le_of_ble_eq_true rfl⟩) hK hP hD hS hA rfl rfl rfl hl.1 rfl (Nat.le_of_ble_eq_true rfl) dX6_reads_103 ⟨Nat.zero_le _, Nat.zero_le _⟩ (fun H locs hP hD hS => ?_)
      obtain ⟨v11, hg, hf⟩ := it_b hf
      have hj : ∀ (H : Heap) (locs : List Loc) (ls : Array Slot), va_P D vwCl (mdW cI z v11.2) H → va_D A (mdW cI z v11.2) → va_S A s.heap H locs → lv_has ls 1 [(0, .ref (z 0))] → W p l e (headSpec wsX6_reads rm_X6_reads).room s m args below meth c H locs 0 0 Q (F0 m 140 ls [.int v11.1, .ref (z 0)]) := by
        intro H locs ls hP hD hS hl
        refine gput (D := D) (ci := 6) (v := .int v11.1) (ty := .int) (C := RX6) (T := TX6) (N := 12) (wf := (mdW cI z (setF v11.2 6 v11.1))) hx hb hts inX6 tyX6 tyX6_ok nmX6 hown hK.1 hP hD hS 0 rfl rfl 6 (by decide) (hts (.fieldLink RX6 143 "ClosExchangeModel" "order" "I") (List.mem_of_getElem? (i := 1) rfl)) (fun _ h9 => h9) rfl (by decide +kernel) rfl rfl (Nat.le_of_ble_eq_true rfl) dX6_reads_140 rfl (fun H locs hP hD hS => ?_)
        refine lv_aload_n hx hb dX6_reads_143 rfl (lv_at hl 0 rfl) ?_
        refine lv_aload_n hx hb dX6_reads_144 rfl (lv_at hl 0 rfl) ?_
        refine va_get (D := D) (ci := 6) (v := .int v11.1) (C := RX6) (T := TX6) (N := 12) hx hb hts inX6 hown hK.1 hP 0 rfl rfl 6 (by decide) (hts (.fieldLink RX6 143 "ClosExchangeModel" "order" "I") (List.mem_of_getElem? (i := 1) rfl)) (fun _ h9 => h9) rfl dX6_reads_145 ?_
        refine lv_iconst (v := (2 : Int32)) hx hb dX6_reads_148 kc_iconst_2 ?_
        obtain ⟨v16, hg, hf⟩ := it_b hf
        have hj : ∀ (H : Heap) (locs : List Loc) (ls : Array Slot), va_P D vwCl (mdW cI z v16.2) H → va_D A (mdW cI z v16.2) → va_S A s.heap H locs → lv_has ls 1 [(0, .ref (z 0))] → W p l e (headSpec wsX6_reads rm_X6_reads).room s m args below meth c H locs 0 0 Q (F0 m 168 ls [.int v16.1, .ref (z 0)]) := by
          intro H locs ls hP hD hS hl
          refine gput (D := D) (ci := 6) (v := .int v16.1) (ty := .int) (C := RX6) (T := TX6) (N := 12) (wf := (mdW cI z (setF v16.2 7 v16.1))) hx hb hts inX6 tyX6 tyX6_ok nmX6 hown hK.1 hP hD hS 0 rfl rfl 7 (by decide) (hts (.fieldLink RX6 150 "ClosExchangeModel" "first" "I") (List.mem_of_getElem? (i := 2) rfl)) (fun _ h9 => h9) rfl (by decide +kernel) rfl rfl (Nat.le_of_ble_eq_true rfl) dX6_reads_168 rfl (fun H locs hP hD hS => ?_)
          refine lv_aload_n hx hb dX6_reads_171 rfl (lv_at hl 0 rfl) ?_
          refine va_get (D := D) (ci := 6) (v := .int (v16.2.1 6)) (C := RX6) (T := TX6) (N := 12) hx hb hts inX6 hown hK.1 hP 0 rfl rfl 6 (by decide) (hts (.fieldLink RX6 143 "ClosExchangeModel" "order" "I") (List.mem_of_getElem? (i := 1) rfl)) (fun _ h9 => h9) rfl dX6_reads_172 ?_
          refine lv_iconst (v := (-1 : Int32)) hx hb dX6_reads_175 kc_iconst_m1 ?_
          refine lv_icmp_eq (tgt := 191) hx hb dX6_reads_176 (by decide) (fun c17 => ?_) (fun c17 => ?_)
          · have hf := it_t hf c17
            refine lv_iconst (v := (0 : Int32)) hx hb dX6_reads_191 kc_iconst_0 ?_
            have e0 : (0 : Int32) = r0 := congrArg (fun z => z.1) (Option.some.inj hf)
            have e1 : (setF v16.2 7 v16.1) = g' := congrArg (fun z => z.2) (Option.some.inj hf)
            subst e0
            subst e1
            exact hret H locs ls _ dX6_reads_192 (by first | rfl | exact bo_in | (exact bo_isHere (by assumption))) hP hD hS
          · have hf := it_f hf c17
            refine lv_aload_n hx hb dX6_reads_179 rfl (lv_at hl 0 rfl) ?_
            refine va_get (D := D) (ci := 6) (v := .int v16.1) (C := RX6) (T := TX6) (N := 12) hx hb hts inX6 hown hK.1 hP 0 rfl rfl 7 (by decide) (hts (.fieldLink RX6 150 "ClosExchangeModel" "first" "I") (List.mem_of_getElem? (i := 2) rfl)) (fun _ h9 => h9) rfl dX6_reads_180 ?_
            refine lv_iconst (v := (-1 : Int32)) hx hb dX6_reads_183 kc_iconst_m1 ?_
            refine lv_icmp_eq (tgt := 191) hx hb dX6_reads_184 (by decide) (fun c18 => ?_) (fun c18 => ?_)
            · have hf := it_t hf c18
              refine lv_iconst (v := (0 : Int32)) hx hb dX6_reads_191 kc_iconst_0 ?_
              have e0 : (0 : Int32) = r0 := congrArg (fun z => z.1) (Option.some.inj hf)
              have e1 : (setF v16.2 7 v16.1) = g' := congrArg (fun z => z.2) (Option.some.inj hf)
              subst e0
              subst e1
              exact hret H locs ls _ dX6_reads_192 (by first | rfl | exact bo_in | (exact bo_isHere (by assumption))) hP hD hS
            · have hf := it_f hf c18
              refine lv_iconst (v := (1 : Int32)) hx hb dX6_reads_187 kc_iconst_1 ?_
              refine lv_goto (tgt := 192) hx hb dX6_reads_188 (by decide) ?_
              have e0 : (1 : Int32) = r0 := congrArg (fun z => z.1) (Option.some.inj hf)
              have e1 : (setF v16.2 7 v16.1) = g' := congrArg (fun z => z.2) (Option.some.inj hf)
              subst e0
              subst e1
              exact hret H locs ls _ dX6_reads_192 (by first | rfl | exact bo_in | (exact bo_isHere (by assumption))) hP hD hS
        have hf := hg
        refine lv_icmp_eq (tgt := 160) hx hb dX6_reads_149 (by decide) (fun c12 => ?_) (fun c12 => ?_)
        · have hf := it_t hf c12
          refine lv_aload_n hx hb dX6_reads_160 rfl (lv_at hl 0 rfl) ?_
          obtain ⟨v13, hv13, hf⟩ := it_b hf
          refine cBi (As := []) (rest := [.ref (z 0)]) (q0 := 0) (ci := 6) [(true, (mdW cI z (setF v11.2 6 v11.1)), (mdW cI z v13.2))] ⟨ad_mod, (fun h => Bool.noConfusion h), trivial⟩ S (c_X6_digit l D cI cN z _ (setF v11.2 6 v11.1) v13.1 v13.2 hv13) (cwV 0 hts gX6_reads_X6_digit rfl rfl rfl (by decide +kernel) ⟨Nat.le_of_ble_eq_true rfl, Nat.le_of_ble_eq_true rfl⟩) hK hP hD hS hA rfl rfl rfl hl.1 rfl (Nat.le_of_ble_eq_true rfl) dX6_reads_161 ⟨Nat.zero_le _, Nat.zero_le _⟩ (fun H locs hP hD hS => ?_)
          refine lv_goto (tgt := 168) hx hb dX6_reads_164 (by decide) ?_
          have e0 := Option.some.inj hf
          subst e0
          exact hj H locs ls hP hD hS (lv_sub hl [0] rfl)
        · have hf := it_f hf c12
          refine lv_aload_n hx hb dX6_reads_152 rfl (lv_at hl 0 rfl) ?_
          refine va_get (D := D) (ci := 6) (v := .int v11.1) (C := RX6) (T := TX6) (N := 12) hx hb hts inX6 hown hK.1 hP 0 rfl rfl 6 (by decide) (hts (.fieldLink RX6 143 "ClosExchangeModel" "order" "I") (List.mem_of_getElem? (i := 1) rfl)) (fun _ h9 => h9) rfl dX6_reads_153 ?_
          refine lv_iconst (v := (3 : Int32)) hx hb dX6_reads_156 kc_iconst_3 ?_
          refine lv_icmp_ne (tgt := 167) hx hb dX6_reads_157 (by decide) (fun c14 => ?_) (fun c14 => ?_)
          · have hf := it_f hf c14
            refine lv_iconst (v := (0 : Int32)) hx hb dX6_reads_167 kc_iconst_0 ?_
            have e0 := Option.some.inj hf
            subst e0
            exact hj H locs ls hP hD hS (lv_sub hl [0] rfl)
          · have hf := it_t hf c14
            refine lv_aload_n hx hb dX6_reads_160 rfl (lv_at hl 0 rfl) ?_
            obtain ⟨v15, hv15, hf⟩ := it_b hf
            refine cBi (As := []) (rest := [.ref (z 0)]) (q0 := 0) (ci := 6) [(true, (mdW cI z (setF v11.2 6 v11.1)), (mdW cI z v15.2))] ⟨ad_mod, (fun h => Bool.noConfusion h), trivial⟩ S (c_X6_digit l D cI cN z _ (setF v11.2 6 v11.1) v15.1 v15.2 hv15) (cwV 0 hts gX6_reads_X6_digit rfl rfl rfl (by decide +kernel) ⟨Nat.le_of_ble_eq_true rfl, Nat.le_of_ble_eq_true rfl⟩) hK hP hD hS hA rfl rfl rfl hl.1 rfl (Nat.le_of_ble_eq_true rfl) dX6_reads_161 ⟨Nat.zero_le _, Nat.zero_le _⟩ (fun H locs hP hD hS => ?_)
            refine lv_goto (tgt := 168) hx hb dX6_reads_164 (by decide) ?_
            have e0 := Option.some.inj hf
            subst e0
            exact hj H locs ls hP hD hS (lv_sub hl [0] rfl)
      have hf := hg
      refine lv_if_eq (tgt := 113) hx hb dX6_reads_106 (by decide) (fun c6 => ?_) (fun c6 => ?_)
      · have hf := it_t hf c6
        refine lv_aload_n hx hb dX6_reads_113 rfl (lv_at hl 0 rfl) ?_
        refine lv_bipush (v := (105 : Int32)) hx hb dX6_reads_114 kc_bipush_105 ?_
        obtain ⟨v7, hv7, hf⟩ := it_b hf
        refine cBi (As := [.int (105 : Int32)]) (rest := [.ref (z 0)]) (q0 := 0) (ci := 6) [(true, (mdW cI z v5.2), (mdW cI z v7.2))] ⟨ad_mod, (fun h => Bool.noConfusion h), trivial⟩ S (c_X6_takes l D cI cN z _ v5.2 (105 : Int32) v7.1 v7.2 hv7) (cwV 1 hts gX6_reads_X6_takes rfl rfl rfl (by decide +kernel) ⟨Nat.le_of_ble_eq_true rfl, Nat.le_of_ble_eq_true rfl⟩) hK hP hD hS hA rfl rfl rfl hl.1 rfl (Nat.le_of_ble_eq_true rfl) dX6_reads_116 ⟨Nat.zero_le _, Nat.zero_le _⟩ (fun H locs hP hD hS => ?_)
        refine lv_if_eq (tgt := 126) hx hb dX6_reads_119 (by decide) (fun c8 => ?_) (fun c8 => ?_)
        · have hf := it_t hf c8
          refine lv_aload_n hx hb dX6_reads_126 rfl (lv_at hl 0 rfl) ?_
          refine lv_bipush (v := (112 : Int32)) hx hb dX6_reads_127 kc_bipush_112 ?_
          obtain ⟨v9, hv9, hf⟩ := it_b hf
          refine cBi (As := [.int (112 : Int32)]) (rest := [.ref (z 0)]) (q0 := 0) (ci := 6) [(true, (mdW cI z v7.2), (mdW cI z v9.2))] ⟨ad_mod, (fun h => Bool.noConfusion h), trivial⟩ S (c_X6_takes l D cI cN z _ v7.2 (112 : Int32) v9.1 v9.2 hv9) (cwV 1 hts gX6_reads_X6_takes rfl rfl rfl (by decide +kernel) ⟨Nat.le_of_ble_eq_true rfl, Nat.le_of_ble_eq_true rfl⟩) hK hP hD hS hA rfl rfl rfl hl.1 rfl (Nat.le_of_ble_eq_true rfl) dX6_reads_129 ⟨Nat.zero_le _, Nat.zero_le _⟩ (fun H locs hP hD hS => ?_)
          refine lv_if_eq (tgt := 139) hx hb dX6_reads_132 (by decide) (fun c10 => ?_) (fun c10 => ?_)
          · have hf := it_t hf c10
            refine lv_iconst (v := (-1 : Int32)) hx hb dX6_reads_139 kc_iconst_m1 ?_
            have e0 := Option.some.inj hf
            subst e0
            exact hj H locs ls hP hD hS (lv_sub hl [0] rfl)
          · have hf := it_f hf c10
            refine lv_iconst (v := (4 : Int32)) hx hb dX6_reads_135 kc_iconst_4 ?_
            refine lv_goto (tgt := 140) hx hb dX6_reads_136 (by decide) ?_
            have e0 := Option.some.inj hf
            subst e0
            exact hj H locs ls hP hD hS (lv_sub hl [0] rfl)
        · have hf := it_f hf c8
          refine lv_iconst (v := (3 : Int32)) hx hb dX6_reads_122 kc_iconst_3 ?_
          refine lv_goto (tgt := 140) hx hb dX6_reads_123 (by decide) ?_
          have e0 := Option.some.inj hf
          subst e0
          exact hj H locs ls hP hD hS (lv_sub hl [0] rfl)
      · have hf := it_f hf c6
        refine lv_iconst (v := (2 : Int32)) hx hb dX6_reads_109 kc_iconst_2 ?_
        refine lv_goto (tgt := 140) hx hb dX6_reads_110 (by decide) ?_
        have e0 := Option.some.inj hf
        subst e0
        exact hj H locs ls hP hD hS (lv_sub hl [0] rfl)
    · have hf := it_f hf c4
      refine lv_aload_n hx hb dX6_reads_72 rfl (lv_at hl 0 rfl) ?_
      refine lv_iconst (v := (1 : Int32)) hx hb dX6_reads_73 kc_iconst_1 ?_
      refine gput (D := D) (ci := 6) (v := .int (1 : Int32)) (ty := .int) (C := RX6) (T := TX6) (N := 12) (wf := (mdW cI z (setF v3.2 6 (1 : Int32)))) hx hb hts inX6 tyX6 tyX6_ok nmX6 hown hK.1 hP hD hS 0 rfl rfl 6 (by decide) (hts (.fieldLink RX6 143 "ClosExchangeModel" "order" "I") (List.mem_of_getElem? (i := 1) rfl)) (fun _ h9 => h9) rfl (by decide +kernel) rfl rfl (Nat.le_of_ble_eq_true rfl) dX6_reads_74 rfl (fun H locs hP hD hS => ?_)
      refine lv_aload_n hx hb dX6_reads_77 rfl (lv_at hl 0 rfl) ?_
      refine lv_aload_n hx hb dX6_reads_78 rfl (lv_at hl 0 rfl) ?_
      obtain ⟨v19, hv19, hf⟩ := it_b hf
      refine cBi (As := []) (rest := [.ref (z 0)]) (q0 := 0) (ci := 6) [(true, (mdW cI z (setF v3.2 6 (1 : Int32))), (mdW cI z v19.2))] ⟨ad_mod, (fun h => Bool.noConfusion h), trivial⟩ S (c_X6_number l D cI cN z _ (setF v3.2 6 (1 : Int32)) v19.1 v19.2 hv19) (cwV 0 hts gX6_reads_X6_number rfl rfl rfl (by decide +kernel) ⟨Nat.le_of_ble_eq_true rfl, Nat.le_of_ble_eq_true rfl⟩) hK hP hD hS hA rfl rfl rfl hl.1 rfl (Nat.le_of_ble_eq_true rfl) dX6_reads_79 ⟨Nat.zero_le _, Nat.zero_le _⟩ (fun H locs hP hD hS => ?_)
      refine gput (D := D) (ci := 6) (v := .int v19.1) (ty := .int) (C := RX6) (T := TX6) (N := 12) (wf := (mdW cI z (setF v19.2 7 v19.1))) hx hb hts inX6 tyX6 tyX6_ok nmX6 hown hK.1 hP hD hS 0 rfl rfl 7 (by decide) (hts (.fieldLink RX6 150 "ClosExchangeModel" "first" "I") (List.mem_of_getElem? (i := 2) rfl)) (fun _ h9 => h9) rfl (by decide +kernel) rfl rfl (Nat.le_of_ble_eq_true rfl) dX6_reads_82 rfl (fun H locs hP hD hS => ?_)
      refine lv_aload_n hx hb dX6_reads_85 rfl (lv_at hl 0 rfl) ?_
      refine va_get (D := D) (ci := 6) (v := .int v19.1) (C := RX6) (T := TX6) (N := 12) hx hb hts inX6 hown hK.1 hP 0 rfl rfl 7 (by decide) (hts (.fieldLink RX6 150 "ClosExchangeModel" "first" "I") (List.mem_of_getElem? (i := 2) rfl)) (fun _ h9 => h9) rfl dX6_reads_86 ?_
      refine lv_iconst (v := (-1 : Int32)) hx hb dX6_reads_89 kc_iconst_m1 ?_
      refine lv_icmp_eq (tgt := 97) hx hb dX6_reads_90 (by decide) (fun c20 => ?_) (fun c20 => ?_)
      · have hf := it_t hf c20
        refine lv_iconst (v := (0 : Int32)) hx hb dX6_reads_97 kc_iconst_0 ?_
        have e0 : (0 : Int32) = r0 := congrArg (fun z => z.1) (Option.some.inj hf)
        have e1 : (setF v19.2 7 v19.1) = g' := congrArg (fun z => z.2) (Option.some.inj hf)
        subst e0
        subst e1
        exact hret H locs ls _ dX6_reads_98 (by first | rfl | exact bo_in | (exact bo_isHere (by assumption))) hP hD hS
      · have hf := it_f hf c20
        refine lv_iconst (v := (1 : Int32)) hx hb dX6_reads_93 kc_iconst_1 ?_
        refine lv_goto (tgt := 98) hx hb dX6_reads_94 (by decide) ?_
        have e0 : (1 : Int32) = r0 := congrArg (fun z => z.1) (Option.some.inj hf)
        have e1 : (setF v19.2 7 v19.1) = g' := congrArg (fun z => z.2) (Option.some.inj hf)
        subst e0
        subst e1
        exact hret H locs ls _ dX6_reads_98 (by first | rfl | exact bo_in | (exact bo_isHere (by assumption))) hP hD hS
  · have hf := it_f hf c2
    refine lv_aload_n hx hb dX6_reads_9 rfl (lv_at hl 0 rfl) ?_
    refine lv_iconst (v := (0 : Int32)) hx hb dX6_reads_10 kc_iconst_0 ?_
    refine gput (D := D) (ci := 6) (v := .int (0 : Int32)) (ty := .int) (C := RX6) (T := TX6) (N := 12) (wf := (mdW cI z (setF v1.2 6 (0 : Int32)))) hx hb hts inX6 tyX6 tyX6_ok nmX6 hown hK.1 hP hD hS 0 rfl rfl 6 (by decide) (hts (.fieldLink RX6 143 "ClosExchangeModel" "order" "I") (List.mem_of_getElem? (i := 1) rfl)) (fun _ h9 => h9) rfl (by decide +kernel) rfl rfl (Nat.le_of_ble_eq_true rfl) dX6_reads_11 rfl (fun H locs hP hD hS => ?_)
    refine lv_aload_n hx hb dX6_reads_14 rfl (lv_at hl 0 rfl) ?_
    refine lv_aload_n hx hb dX6_reads_15 rfl (lv_at hl 0 rfl) ?_
    obtain ⟨v21, hv21, hf⟩ := it_b hf
    refine cBi (As := []) (rest := [.ref (z 0)]) (q0 := 0) (ci := 6) [(true, (mdW cI z (setF v1.2 6 (0 : Int32))), (mdW cI z v21.2))] ⟨ad_mod, (fun h => Bool.noConfusion h), trivial⟩ S (c_X6_number l D cI cN z _ (setF v1.2 6 (0 : Int32)) v21.1 v21.2 hv21) (cwV 0 hts gX6_reads_X6_number rfl rfl rfl (by decide +kernel) ⟨Nat.le_of_ble_eq_true rfl, Nat.le_of_ble_eq_true rfl⟩) hK hP hD hS hA rfl rfl rfl hl.1 rfl (Nat.le_of_ble_eq_true rfl) dX6_reads_16 ⟨Nat.zero_le _, Nat.zero_le _⟩ (fun H locs hP hD hS => ?_)
    refine gput (D := D) (ci := 6) (v := .int v21.1) (ty := .int) (C := RX6) (T := TX6) (N := 12) (wf := (mdW cI z (setF v21.2 7 v21.1))) hx hb hts inX6 tyX6 tyX6_ok nmX6 hown hK.1 hP hD hS 0 rfl rfl 7 (by decide) (hts (.fieldLink RX6 150 "ClosExchangeModel" "first" "I") (List.mem_of_getElem? (i := 2) rfl)) (fun _ h9 => h9) rfl (by decide +kernel) rfl rfl (Nat.le_of_ble_eq_true rfl) dX6_reads_19 rfl (fun H locs hP hD hS => ?_)
    refine lv_aload_n hx hb dX6_reads_22 rfl (lv_at hl 0 rfl) ?_
    refine va_get (D := D) (ci := 6) (v := .int v21.1) (C := RX6) (T := TX6) (N := 12) hx hb hts inX6 hown hK.1 hP 0 rfl rfl 7 (by decide) (hts (.fieldLink RX6 150 "ClosExchangeModel" "first" "I") (List.mem_of_getElem? (i := 2) rfl)) (fun _ h9 => h9) rfl dX6_reads_23 ?_
    refine lv_iconst (v := (-1 : Int32)) hx hb dX6_reads_26 kc_iconst_m1 ?_
    refine lv_icmp_eq (tgt := 39) hx hb dX6_reads_27 (by decide) (fun c22 => ?_) (fun c22 => ?_)
    · have hf := it_t hf c22
      refine lv_iconst (v := (0 : Int32)) hx hb dX6_reads_39 kc_iconst_0 ?_
      have e0 : (0 : Int32) = r0 := congrArg (fun z => z.1) (Option.some.inj hf)
      have e1 : (setF v21.2 7 v21.1) = g' := congrArg (fun z => z.2) (Option.some.inj hf)
      subst e0
      subst e1
      exact hret H locs ls _ dX6_reads_40 (by first | rfl | exact bo_in | (exact bo_isHere (by assumption))) hP hD hS
    · have hf := it_f hf c22
      refine lv_aload_n hx hb dX6_reads_30 rfl (lv_at hl 0 rfl) ?_
      refine lv_bipush (v := (45 : Int32)) hx hb dX6_reads_31 kc_bipush_45 ?_
      obtain ⟨v23, hv23, hf⟩ := it_b hf
      refine cBi (As := [.int (45 : Int32)]) (rest := []) (q0 := 0) (ci := 6) [(true, (mdW cI z (setF v21.2 7 v21.1)), (mdW cI z v23.2))] ⟨ad_mod, (fun h => Bool.noConfusion h), trivial⟩ S (c_X6_takes l D cI cN z _ (setF v21.2 7 v21.1) (45 : Int32) v23.1 v23.2 hv23) (cwV 1 hts gX6_reads_X6_takes rfl rfl rfl (by decide +kernel) ⟨Nat.le_of_ble_eq_true rfl, Nat.le_of_ble_eq_true rfl⟩) hK hP hD hS hA rfl rfl rfl hl.1 rfl (Nat.le_of_ble_eq_true rfl) dX6_reads_33 ⟨Nat.zero_le _, Nat.zero_le _⟩ (fun H locs hP hD hS => ?_)
      refine lv_if_ne (tgt := 41) hx hb dX6_reads_36 (by decide) (fun c24 => ?_) (fun c24 => ?_)
      · have hf := it_f hf c24
        refine lv_aload_n hx hb dX6_reads_41 rfl (lv_at hl 0 rfl) ?_
        refine lv_aload_n hx hb dX6_reads_42 rfl (lv_at hl 0 rfl) ?_
        obtain ⟨v25, hv25, hf⟩ := it_b hf
        refine cBi (As := []) (rest := [.ref (z 0)]) (q0 := 0) (ci := 6) [(true, (mdW cI z v23.2), (mdW cI z v25.2))] ⟨ad_mod, (fun h => Bool.noConfusion h), trivial⟩ S (c_X6_number l D cI cN z _ v23.2 v25.1 v25.2 hv25) (cwV 0 hts gX6_reads_X6_number rfl rfl rfl (by decide +kernel) ⟨Nat.le_of_ble_eq_true rfl, Nat.le_of_ble_eq_true rfl⟩) hK hP hD hS hA rfl rfl rfl hl.1 rfl (Nat.le_of_ble_eq_true rfl) dX6_reads_43 ⟨Nat.zero_le _, Nat.zero_le _⟩ (fun H locs hP hD hS => ?_)
        refine gput (D := D) (ci := 6) (v := .int v25.1) (ty := .int) (C := RX6) (T := TX6) (N := 12) (wf := (mdW cI z (setF v25.2 8 v25.1))) hx hb hts inX6 tyX6 tyX6_ok nmX6 hown hK.1 hP hD hS 0 rfl rfl 8 (by decide) (hts (.fieldLink RX6 153 "ClosExchangeModel" "second" "I") (List.mem_of_getElem? (i := 3) rfl)) (fun _ h9 => h9) rfl (by decide +kernel) rfl rfl (Nat.le_of_ble_eq_true rfl) dX6_reads_46 rfl (fun H locs hP hD hS => ?_)
        refine lv_aload_n hx hb dX6_reads_49 rfl (lv_at hl 0 rfl) ?_
        refine va_get (D := D) (ci := 6) (v := .int v25.1) (C := RX6) (T := TX6) (N := 12) hx hb hts inX6 hown hK.1 hP 0 rfl rfl 8 (by decide) (hts (.fieldLink RX6 153 "ClosExchangeModel" "second" "I") (List.mem_of_getElem? (i := 3) rfl)) (fun _ h9 => h9) rfl dX6_reads_50 ?_
        refine lv_iconst (v := (-1 : Int32)) hx hb dX6_reads_53 kc_iconst_m1 ?_
        refine lv_icmp_eq (tgt := 61) hx hb dX6_reads_54 (by decide) (fun c26 => ?_) (fun c26 => ?_)
        · have hf := it_t hf c26
          refine lv_iconst (v := (0 : Int32)) hx hb dX6_reads_61 kc_iconst_0 ?_
          have e0 : (0 : Int32) = r0 := congrArg (fun z => z.1) (Option.some.inj hf)
          have e1 : (setF v25.2 8 v25.1) = g' := congrArg (fun z => z.2) (Option.some.inj hf)
          subst e0
          subst e1
          exact hret H locs ls _ dX6_reads_62 (by first | rfl | exact bo_in | (exact bo_isHere (by assumption))) hP hD hS
        · have hf := it_f hf c26
          refine lv_iconst (v := (1 : Int32)) hx hb dX6_reads_57 kc_iconst_1 ?_
          refine lv_goto (tgt := 62) hx hb dX6_reads_58 (by decide) ?_
          have e0 : (1 : Int32) = r0 := congrArg (fun z => z.1) (Option.some.inj hf)
          have e1 : (setF v25.2 8 v25.1) = g' := congrArg (fun z => z.2) (Option.some.inj hf)
          subst e0
          subst e1
          exact hret H locs ls _ dX6_reads_62 (by first | rfl | exact bo_in | (exact bo_isHere (by assumption))) hP hD hS
      · have hf := it_t hf c24
        refine lv_iconst (v := (0 : Int32)) hx hb dX6_reads_39 kc_iconst_0 ?_
        have e0 : (0 : Int32) = r0 := congrArg (fun z => z.1) (Option.some.inj hf)
        have e1 : v23.2 = g' := congrArg (fun z => z.2) (Option.some.inj hf)
        subst e0
        subst e1
        exact hret H locs ls _ dX6_reads_40 (by first | rfl | exact bo_in | (exact bo_isHere (by assumption))) hP hD hS
set_option maxRecDepth 100000 in
theorem c_X6_reads (l : Launch) (D : va_G) (cI cN : ClassId) (z : Nat → Nat) (sz : Nat) (g : OS) (r0 : Int32) (g' : OS) (hf : fX6_reads g = some (r0, g')) : CtI l D cI cN yX6_reads wsX6_reads rm_X6_reads 0 0 [.ref (z 0)] (mdW cI z g) sz r0 (mdW cI z g') := by
  refine mW (cc := cX6_reads) (maxL := 1) (ty := .boolean) (by decide) rfl rfl (Nat.le_of_ble_eq_true rfl) ?_
  intro p e s m args below meth c Q A S hK hP hD hS hA hret ls hl
  exact w_X6_reads_0 S hK hA hret hf _ _ _ hP hD hS (lv_sub (show lv_has ls 1 [(0, .ref (z 0))] from hl) [0] rfl)
abbrev rm_X6_fault : Room := { frames := 4, cells := 0, slots := 0, locals := 86 }
theorem in_X6_fault_X6 : ∀ w ∈ u_ws RX6 TX6 12, w ∈ wsX6_fault := fun w h => List.mem_cons_of_mem _ (List.mem_append_right _ h)
set_option maxRecDepth 100000 in
set_option maxHeartbeats 4000000 in
theorem w_X6_fault_5 {p : Program} {l : Launch} {e : Env} {s : State} {m : MethodId} {args : Array Value} {below : List Frame} {meth : Method} {c : Code} {Q : State → Prop} {D : va_G} {cI cN : ClassId} {A : Nat → Prop} {z : Nat → Nat} (S : CallFix p m c cX6_fault 1 s args wsX6_fault RX6) (hK : KN D cI cN s) (hA : ∀ q : Nat, s.heap.size ≤ q → A q) {r0 : Int32} {g' : OS} (hret : ∀ (H : Heap) (locs : List Loc) (ls : Array Slot) (pc : Nat), decode cX6_fault pc = .ok (.ireturn, 1) → narrow .int (.int r0) = .int r0 → va_P D vwCl (mdW cI z g') H → va_D A (mdW cI z g') → va_S A s.heap H locs → W p l e (headSpec wsX6_fault rm_X6_fault).room s m args below meth c H locs 0 0 Q (F0 m pc ls [.int r0])) : ∀ (k : Nat) (g : OS), fX6_fault_5  k g = some (r0, g') → ∀ (H : Heap) (locs : List Loc) (ls : Array Slot), va_P D vwCl (mdW cI z g) H → va_D A (mdW cI z g) → va_S A s.heap H locs → lv_has ls 1 [(0, .ref (z 0))] → W p l e (headSpec wsX6_fault rm_X6_fault).room s m args below meth c H locs 0 0 Q (F0 m 5 ls []) := by
  obtain ⟨hx, hb, hml, hown, hts⟩ := id S
  have inX6 := in_X6_fault_X6
  intro k
  induction k with
  | zero => intro g hf; rw [fX6_fault_5_z] at hf; cases hf
  | succ k ih =>
    intro g hf H locs ls hP hD hS hl
    rw [fX6_fault_5_s] at hf
    refine lv_aload_n hx hb dX6_fault_5 rfl (lv_at hl 0 rfl) ?_
    obtain ⟨v1, hv1, hf⟩ := it_b hf
    refine cBi (As := []) (rest := []) (q0 := 0) (ci := 6) [(true, (mdW cI z g), (mdW cI z v1.2))] ⟨ad_mod, (fun h => Bool.noConfusion h), trivial⟩ S (c_X6_reads l D cI cN z _ g v1.1 v1.2 hv1) (cwV 0 hts gX6_fault_X6_reads rfl rfl rfl (by decide +kernel) ⟨Nat.le_of_ble_eq_true rfl, Nat.le_of_ble_eq_true rfl⟩) hK hP hD hS hA rfl rfl rfl hl.1 rfl (Nat.le_of_ble_eq_true rfl) dX6_fault_6 ⟨Nat.zero_le _, Nat.zero_le _⟩ (fun H locs hP hD hS => ?_)
    refine lv_if_eq (tgt := 39) hx hb dX6_fault_9 (by decide) (fun c2 => ?_) (fun c2 => ?_)
    · have hf := it_t hf c2
      refine lv_aload_n hx hb dX6_fault_39 rfl (lv_at hl 0 rfl) ?_
      refine va_get (D := D) (ci := 6) (v := .int (v1.2.1 5)) (C := RX6) (T := TX6) (N := 12) hx hb hts inX6 hown hK.1 hP 0 rfl rfl 5 (by decide) (hts (.fieldLink RX6 133 "ClosExchangeModel" "at" "I") (List.mem_of_getElem? (i := 1) rfl)) (fun _ h9 => h9) rfl dX6_fault_40 ?_
      have e0 : (v1.2.1 5) = r0 := congrArg (fun z => z.1) (Option.some.inj hf)
      have e1 : v1.2 = g' := congrArg (fun z => z.2) (Option.some.inj hf)
      subst e0
      subst e1
      exact hret H locs ls _ dX6_fault_43 rfl hP hD hS
    · have hf := it_f hf c2
      refine lv_aload_n hx hb dX6_fault_12 rfl (lv_at hl 0 rfl) ?_
      refine va_get (D := D) (ci := 6) (v := .int (v1.2.1 5)) (C := RX6) (T := TX6) (N := 12) hx hb hts inX6 hown hK.1 hP 0 rfl rfl 5 (by decide) (hts (.fieldLink RX6 133 "ClosExchangeModel" "at" "I") (List.mem_of_getElem? (i := 1) rfl)) (fun _ h9 => h9) rfl dX6_fault_13 ?_
      refine lv_aload_n hx hb dX6_fault_16 rfl (lv_at hl 0 rfl) ?_
      refine va_get (D := D) (ci := 6) (v := .int (v1.2.1 4)) (C := RX6) (T := TX6) (N := 12) hx hb hts inX6 hown hK.1 hP 0 rfl rfl 4 (by decide) (hts (.fieldLink RX6 130 "ClosExchangeModel" "typed" "I") (List.mem_of_getElem? (i := 2) rfl)) (fun _ h9 => h9) rfl dX6_fault_17 ?_
      refine lv_icmp_ne (tgt := 25) hx hb dX6_fault_20 (by decide) (fun c3 => ?_) (fun c3 => ?_)
      · have hf := it_f hf c3
        refine lv_aload_n hx hb dX6_fault_25 rfl (lv_at hl 0 rfl) ?_
        refine lv_bipush (v := (59 : Int32)) hx hb dX6_fault_26 kc_bipush_59 ?_
        obtain ⟨v4, hv4, hf⟩ := it_b hf
        refine cBi (As := [.int (59 : Int32)]) (rest := []) (q0 := 0) (ci := 6) [(true, (mdW cI z v1.2), (mdW cI z v4.2))] ⟨ad_mod, (fun h => Bool.noConfusion h), trivial⟩ S (c_X6_takes l D cI cN z _ v1.2 (59 : Int32) v4.1 v4.2 hv4) (cwV 1 hts gX6_fault_X6_takes rfl rfl rfl (by decide +kernel) ⟨Nat.le_of_ble_eq_true rfl, Nat.le_of_ble_eq_true rfl⟩) hK hP hD hS hA rfl rfl rfl hl.1 rfl (Nat.le_of_ble_eq_true rfl) dX6_fault_28 ⟨Nat.zero_le _, Nat.zero_le _⟩ (fun H locs hP hD hS => ?_)
        refine lv_if_ne (tgt := 5) hx hb dX6_fault_31 (by decide) (fun c5 => ?_) (fun c5 => ?_)
        · have hf := it_f hf c5
          exact ih _ hf H locs ls hP hD hS (lv_sub hl [0] rfl)
        · have hf := it_t hf c5
          refine lv_aload_n hx hb dX6_fault_34 rfl (lv_at hl 0 rfl) ?_
          refine va_get (D := D) (ci := 6) (v := .int (v4.2.1 5)) (C := RX6) (T := TX6) (N := 12) hx hb hts inX6 hown hK.1 hP 0 rfl rfl 5 (by decide) (hts (.fieldLink RX6 133 "ClosExchangeModel" "at" "I") (List.mem_of_getElem? (i := 1) rfl)) (fun _ h9 => h9) rfl dX6_fault_35 ?_
          have e0 : (v4.2.1 5) = r0 := congrArg (fun z => z.1) (Option.some.inj hf)
          have e1 : v4.2 = g' := congrArg (fun z => z.2) (Option.some.inj hf)
          subst e0
          subst e1
          exact hret H locs ls _ dX6_fault_38 rfl hP hD hS
      · have hf := it_t hf c3
        refine lv_iconst (v := (-1 : Int32)) hx hb dX6_fault_23 kc_iconst_m1 ?_
        have e0 : (-1 : Int32) = r0 := congrArg (fun z => z.1) (Option.some.inj hf)
        have e1 : v1.2 = g' := congrArg (fun z => z.2) (Option.some.inj hf)
        subst e0
        subst e1
        exact hret H locs ls _ dX6_fault_24 rfl hP hD hS
set_option maxRecDepth 100000 in
set_option maxHeartbeats 4000000 in
theorem w_X6_fault_0 {p : Program} {l : Launch} {e : Env} {s : State} {m : MethodId} {args : Array Value} {below : List Frame} {meth : Method} {c : Code} {Q : State → Prop} {D : va_G} {cI cN : ClassId} {A : Nat → Prop} {z : Nat → Nat} (S : CallFix p m c cX6_fault 1 s args wsX6_fault RX6) (hK : KN D cI cN s) (hA : ∀ q : Nat, s.heap.size ≤ q → A q) {g : OS} {r0 : Int32} {g' : OS} (hret : ∀ (H : Heap) (locs : List Loc) (ls : Array Slot) (pc : Nat), decode cX6_fault pc = .ok (.ireturn, 1) → narrow .int (.int r0) = .int r0 → va_P D vwCl (mdW cI z g') H → va_D A (mdW cI z g') → va_S A s.heap H locs → W p l e (headSpec wsX6_fault rm_X6_fault).room s m args below meth c H locs 0 0 Q (F0 m pc ls [.int r0])) (hf : fX6_fault g = some (r0, g')) (H : Heap) (locs : List Loc) (ls : Array Slot) (hP : va_P D vwCl (mdW cI z g) H) (hD : va_D A (mdW cI z g)) (hS : va_S A s.heap H locs) (hl : lv_has ls 1 [(0, .ref (z 0))]) : W p l e (headSpec wsX6_fault rm_X6_fault).room s m args below meth c H locs 0 0 Q (F0 m 0 ls []) := by
  obtain ⟨hx, hb, hml, hown, hts⟩ := id S
  have inX6 := in_X6_fault_X6
  unfold fX6_fault at hf
  refine lv_aload_n hx hb dX6_fault_0 rfl (lv_at hl 0 rfl) ?_
  refine lv_iconst (v := (0 : Int32)) hx hb dX6_fault_1 kc_iconst_0 ?_
  refine gput (D := D) (ci := 6) (v := .int (0 : Int32)) (ty := .int) (C := RX6) (T := TX6) (N := 12) (wf := (mdW cI z (setF g 5 (0 : Int32)))) hx hb hts inX6 tyX6 tyX6_ok nmX6 hown hK.1 hP hD hS 0 rfl rfl 5 (by decide) (hts (.fieldLink RX6 133 "ClosExchangeModel" "at" "I") (List.mem_of_getElem? (i := 1) rfl)) (fun _ h9 => h9) rfl (by decide +kernel) rfl rfl (Nat.le_of_ble_eq_true rfl) dX6_fault_2 rfl (fun H locs hP hD hS => ?_)
  exact w_X6_fault_5 S hK hA hret _ _ hf H locs ls hP hD hS (lv_sub hl [0] rfl)
set_option maxRecDepth 100000 in
theorem c_X6_fault (l : Launch) (D : va_G) (cI cN : ClassId) (z : Nat → Nat) (sz : Nat) (g : OS) (r0 : Int32) (g' : OS) (hf : fX6_fault g = some (r0, g')) : CtI l D cI cN yX6_fault wsX6_fault rm_X6_fault 0 0 [.ref (z 0)] (mdW cI z g) sz r0 (mdW cI z g') := by
  refine mW (cc := cX6_fault) (maxL := 1) (ty := .int) (by decide) rfl rfl (Nat.le_of_ble_eq_true rfl) ?_
  intro p e s m args below meth c Q A S hK hP hD hS hA hret ls hl
  exact w_X6_fault_0 S hK hA hret hf _ _ _ hP hD hS (lv_sub (show lv_has ls 1 [(0, .ref (z 0))] from hl) [0] rfl)
abbrev rm_X6_carries : Room := { frames := 6, cells := 0, slots := 0, locals := 158 }
theorem in_X6_carries_X6 : ∀ w ∈ u_ws RX6 TX6 12, w ∈ wsX6_carries := fun w h => List.mem_cons_of_mem _ (List.mem_append_right _ h)
set_option maxRecDepth 100000 in
set_option maxHeartbeats 4000000 in
theorem w_X6_carries_0 {p : Program} {l : Launch} {e : Env} {s : State} {m : MethodId} {args : Array Value} {below : List Frame} {meth : Method} {c : Code} {Q : State → Prop} {D : va_G} {cI cN : ClassId} {A : Nat → Prop} {z : Nat → Nat} (S : CallFix p m c cX6_carries 1 s args wsX6_carries RX6) (hK : KN D cI cN s) (hA : ∀ q : Nat, s.heap.size ≤ q → A q) {g : OS} {r0 : Int32} {g' : OS} (hret : ∀ (H : Heap) (locs : List Loc) (ls : Array Slot) (pc : Nat), decode cX6_carries pc = .ok (.ireturn, 1) → narrow .int (.int r0) = .int r0 → va_P D vwCl (mdW cI z g') H → va_D A (mdW cI z g') → va_S A s.heap H locs → W p l e (headSpec wsX6_carries rm_X6_carries).room s m args below meth c H locs 0 0 Q (F0 m pc ls [.int r0])) (hf : fX6_carries g = some (r0, g')) (H : Heap) (locs : List Loc) (ls : Array Slot) (hP : va_P D vwCl (mdW cI z g) H) (hD : va_D A (mdW cI z g)) (hS : va_S A s.heap H locs) (hl : lv_has ls 1 [(0, .ref (z 0))]) : W p l e (headSpec wsX6_carries rm_X6_carries).room s m args below meth c H locs 0 0 Q (F0 m 0 ls []) := by
  obtain ⟨hx, hb, hml, hown, hts⟩ := id S
  have inX6 := in_X6_carries_X6
  unfold fX6_carries at hf
  refine lv_aload_n hx hb dX6_carries_0 rfl (lv_at hl 0 rfl) ?_
  refine va_get (D := D) (ci := 6) (v := .int (g.1 6)) (C := RX6) (T := TX6) (N := 12) hx hb hts inX6 hown hK.1 hP 0 rfl rfl 6 (by decide) (hts (.fieldLink RX6 143 "ClosExchangeModel" "order" "I") (List.mem_of_getElem? (i := 1) rfl)) (fun _ h9 => h9) rfl dX6_carries_1 ?_
  refine lv_topi (fun y1 ey1 => ?_)
  by_cases c_y1_0 : (g.1 6) = (0 : Int32)
  · have hf := it_t hf c_y1_0
    obtain rfl := ey1.trans c_y1_0
    refine lv_tableIn (tgt := 36) hx hb dX6_carries_4 (by decide) (by decide) rfl (by decide) ?_
    refine lv_aload_n hx hb dX6_carries_36 rfl (lv_at hl 0 rfl) ?_
    refine lv_sipush (v := (924 : Int32)) hx hb dX6_carries_37 kc_sipush_924 ?_
    refine lv_aload_n hx hb dX6_carries_40 rfl (lv_at hl 0 rfl) ?_
    refine va_get (D := D) (ci := 6) (v := .int (g.1 7)) (C := RX6) (T := TX6) (N := 12) hx hb hts inX6 hown hK.1 hP 0 rfl rfl 7 (by decide) (hts (.fieldLink RX6 150 "ClosExchangeModel" "first" "I") (List.mem_of_getElem? (i := 2) rfl)) (fun _ h9 => h9) rfl dX6_carries_41 ?_
    refine lv_aload_n hx hb dX6_carries_44 rfl (lv_at hl 0 rfl) ?_
    refine va_get (D := D) (ci := 6) (v := .int (g.1 8)) (C := RX6) (T := TX6) (N := 12) hx hb hts inX6 hown hK.1 hP 0 rfl rfl 8 (by decide) (hts (.fieldLink RX6 153 "ClosExchangeModel" "second" "I") (List.mem_of_getElem? (i := 3) rfl)) (fun _ h9 => h9) rfl dX6_carries_45 ?_
    obtain ⟨v2, hv2, hf⟩ := it_b hf
    refine cBi (As := [.int (924 : Int32), .int (g.1 7), .int (g.1 8)]) (rest := []) (q0 := 0) (ci := 6) [(true, (mdW cI z g), (mdW cI z v2.2))] ⟨ad_mod, (fun h => Bool.noConfusion h), trivial⟩ S (c_X6_connects l D cI cN z _ g (924 : Int32) (g.1 7) (g.1 8) v2.1 v2.2 hv2) (cwV 3 hts gX6_carries_X6_connects rfl rfl rfl (by decide +kernel) ⟨Nat.le_of_ble_eq_true rfl, Nat.le_of_ble_eq_true rfl⟩) hK hP hD hS hA rfl rfl rfl hl.1 rfl (Nat.le_of_ble_eq_true rfl) dX6_carries_48 ⟨Nat.zero_le _, Nat.zero_le _⟩ (fun H locs hP hD hS => ?_)
    have e0 : v2.1 = r0 := congrArg (fun z => z.1) (Option.some.inj hf)
    have e1 : v2.2 = g' := congrArg (fun z => z.2) (Option.some.inj hf)
    subst e0
    subst e1
    exact hret H locs ls _ dX6_carries_51 rfl hP hD hS
  · have hf := it_f hf c_y1_0
    by_cases c_y1_1 : (g.1 6) = (1 : Int32)
    · have hf := it_t hf c_y1_1
      obtain rfl := ey1.trans c_y1_1
      refine lv_tableIn (tgt := 52) hx hb dX6_carries_4 (by decide) (by decide) rfl (by decide) ?_
      refine lv_aload_n hx hb dX6_carries_52 rfl (lv_at hl 0 rfl) ?_
      refine lv_sipush (v := (924 : Int32)) hx hb dX6_carries_53 kc_sipush_924 ?_
      refine lv_aload_n hx hb dX6_carries_56 rfl (lv_at hl 0 rfl) ?_
      refine va_get (D := D) (ci := 6) (v := .int (g.1 7)) (C := RX6) (T := TX6) (N := 12) hx hb hts inX6 hown hK.1 hP 0 rfl rfl 7 (by decide) (hts (.fieldLink RX6 150 "ClosExchangeModel" "first" "I") (List.mem_of_getElem? (i := 2) rfl)) (fun _ h9 => h9) rfl dX6_carries_57 ?_
      obtain ⟨v3, hv3, hf⟩ := it_b hf
      refine cBi (As := [.int (924 : Int32), .int (g.1 7)]) (rest := []) (q0 := 0) (ci := 6) [(true, (mdW cI z g), (mdW cI z v3.2))] ⟨ad_mod, (fun h => Bool.noConfusion h), trivial⟩ S (c_X6_disconnects l D cI cN z _ g (924 : Int32) (g.1 7) v3.1 v3.2 hv3) (cwV 2 hts gX6_carries_X6_disconnects rfl rfl rfl (by decide +kernel) ⟨Nat.le_of_ble_eq_true rfl, Nat.le_of_ble_eq_true rfl⟩) hK hP hD hS hA rfl rfl rfl hl.1 rfl (Nat.le_of_ble_eq_true rfl) dX6_carries_60 ⟨Nat.zero_le _, Nat.zero_le _⟩ (fun H locs hP hD hS => ?_)
      have e0 : v3.1 = r0 := congrArg (fun z => z.1) (Option.some.inj hf)
      have e1 : v3.2 = g' := congrArg (fun z => z.2) (Option.some.inj hf)
      subst e0
      subst e1
      exact hret H locs ls _ dX6_carries_63 rfl hP hD hS
    · have hf := it_f hf c_y1_1
      by_cases c_y1_2 : (g.1 6) = (2 : Int32)
      · have hf := it_t hf c_y1_2
        obtain rfl := ey1.trans c_y1_2
        refine lv_tableIn (tgt := 64) hx hb dX6_carries_4 (by decide) (by decide) rfl (by decide) ?_
        refine lv_aload_n hx hb dX6_carries_64 rfl (lv_at hl 0 rfl) ?_
        refine lv_sipush (v := (924 : Int32)) hx hb dX6_carries_65 kc_sipush_924 ?_
        refine lv_aload_n hx hb dX6_carries_68 rfl (lv_at hl 0 rfl) ?_
        refine va_get (D := D) (ci := 6) (v := .int (g.1 7)) (C := RX6) (T := TX6) (N := 12) hx hb hts inX6 hown hK.1 hP 0 rfl rfl 7 (by decide) (hts (.fieldLink RX6 150 "ClosExchangeModel" "first" "I") (List.mem_of_getElem? (i := 2) rfl)) (fun _ h9 => h9) rfl dX6_carries_69 ?_
        obtain ⟨v4, hv4, hf⟩ := it_b hf
        refine cBi (As := [.int (924 : Int32), .int (g.1 7)]) (rest := []) (q0 := 0) (ci := 6) [(true, (mdW cI z g), (mdW cI z v4.2))] ⟨ad_mod, (fun h => Bool.noConfusion h), trivial⟩ S (c_X6_takesOut l D cI cN z _ g (924 : Int32) (g.1 7) v4.1 v4.2 hv4) (cwV 2 hts gX6_carries_X6_takesOut rfl rfl rfl (by decide +kernel) ⟨Nat.le_of_ble_eq_true rfl, Nat.le_of_ble_eq_true rfl⟩) hK hP hD hS hA rfl rfl rfl hl.1 rfl (Nat.le_of_ble_eq_true rfl) dX6_carries_72 ⟨Nat.zero_le _, Nat.zero_le _⟩ (fun H locs hP hD hS => ?_)
        have e0 : v4.1 = r0 := congrArg (fun z => z.1) (Option.some.inj hf)
        have e1 : v4.2 = g' := congrArg (fun z => z.2) (Option.some.inj hf)
        subst e0
        subst e1
        exact hret H locs ls _ dX6_carries_75 rfl hP hD hS
      · have hf := it_f hf c_y1_2
        by_cases c_y1_3 : (g.1 6) = (3 : Int32)
        · have hf := it_t hf c_y1_3
          obtain rfl := ey1.trans c_y1_3
          refine lv_tableIn (tgt := 76) hx hb dX6_carries_4 (by decide) (by decide) rfl (by decide) ?_
          refine lv_aload_n hx hb dX6_carries_76 rfl (lv_at hl 0 rfl) ?_
          refine lv_sipush (v := (924 : Int32)) hx hb dX6_carries_77 kc_sipush_924 ?_
          refine lv_aload_n hx hb dX6_carries_80 rfl (lv_at hl 0 rfl) ?_
          refine va_get (D := D) (ci := 6) (v := .int (g.1 7)) (C := RX6) (T := TX6) (N := 12) hx hb hts inX6 hown hK.1 hP 0 rfl rfl 7 (by decide) (hts (.fieldLink RX6 150 "ClosExchangeModel" "first" "I") (List.mem_of_getElem? (i := 2) rfl)) (fun _ h9 => h9) rfl dX6_carries_81 ?_
          obtain ⟨v5, hv5, hf⟩ := it_b hf
          refine cBi (As := [.int (924 : Int32), .int (g.1 7)]) (rest := []) (q0 := 0) (ci := 6) [(true, (mdW cI z g), (mdW cI z v5.2))] ⟨ad_mod, (fun h => Bool.noConfusion h), trivial⟩ S (c_X6_putsBack l D cI cN z _ g (924 : Int32) (g.1 7) v5.1 v5.2 hv5) (cwV 2 hts gX6_carries_X6_putsBack rfl rfl rfl (by decide +kernel) ⟨Nat.le_of_ble_eq_true rfl, Nat.le_of_ble_eq_true rfl⟩) hK hP hD hS hA rfl rfl rfl hl.1 rfl (Nat.le_of_ble_eq_true rfl) dX6_carries_84 ⟨Nat.zero_le _, Nat.zero_le _⟩ (fun H locs hP hD hS => ?_)
          have e0 : v5.1 = r0 := congrArg (fun z => z.1) (Option.some.inj hf)
          have e1 : v5.2 = g' := congrArg (fun z => z.2) (Option.some.inj hf)
          subst e0
          subst e1
          exact hret H locs ls _ dX6_carries_87 rfl hP hD hS
        · have hf := it_f hf c_y1_3
          refine lv_tableOut (tgt := 88) hx hb dX6_carries_4 (by have h0 := lv_neT (x := y1) (fun h => c_y1_0 (ey1.symm.trans h)) (a := 0) (by decide); have h1 := lv_neT (x := y1) (fun h => c_y1_1 (ey1.symm.trans h)) (a := 1) (by decide); have h2 := lv_neT (x := y1) (fun h => c_y1_2 (ey1.symm.trans h)) (a := 2) (by decide); have h3 := lv_neT (x := y1) (fun h => c_y1_3 (ey1.symm.trans h)) (a := 3) (by decide); omega) (by decide) ?_
          refine lv_aload_n hx hb dX6_carries_88 rfl (lv_at hl 0 rfl) ?_
          refine lv_sipush (v := (924 : Int32)) hx hb dX6_carries_89 kc_sipush_924 ?_
          obtain ⟨v6, hv6, hf⟩ := it_b hf
          refine cBi (As := [.int (924 : Int32)]) (rest := []) (q0 := 0) (ci := 6) [(true, (mdW cI z g), (mdW cI z v6.2))] ⟨ad_mod, (fun h => Bool.noConfusion h), trivial⟩ S (c_X6_packs l D cI cN z _ g (924 : Int32) v6.1 v6.2 hv6) (cwV 1 hts gX6_carries_X6_packs rfl rfl rfl (by decide +kernel) ⟨Nat.le_of_ble_eq_true rfl, Nat.le_of_ble_eq_true rfl⟩) hK hP hD hS hA rfl rfl rfl hl.1 rfl (Nat.le_of_ble_eq_true rfl) dX6_carries_92 ⟨Nat.zero_le _, Nat.zero_le _⟩ (fun H locs hP hD hS => ?_)
          have e0 : v6.1 = r0 := congrArg (fun z => z.1) (Option.some.inj hf)
          have e1 : v6.2 = g' := congrArg (fun z => z.2) (Option.some.inj hf)
          subst e0
          subst e1
          exact hret H locs ls _ dX6_carries_95 rfl hP hD hS
set_option maxRecDepth 100000 in
theorem c_X6_carries (l : Launch) (D : va_G) (cI cN : ClassId) (z : Nat → Nat) (sz : Nat) (g : OS) (r0 : Int32) (g' : OS) (hf : fX6_carries g = some (r0, g')) : CtI l D cI cN yX6_carries wsX6_carries rm_X6_carries 0 0 [.ref (z 0)] (mdW cI z g) sz r0 (mdW cI z g') := by
  refine mW (cc := cX6_carries) (maxL := 1) (ty := .int) (by decide) rfl rfl (Nat.le_of_ble_eq_true rfl) ?_
  intro p e s m args below meth c Q A S hK hP hD hS hA hret ls hl
  exact w_X6_carries_0 S hK hA hret hf _ _ _ hP hD hS (lv_sub (show lv_has ls 1 [(0, .ref (z 0))] from hl) [0] rfl)
abbrev rm_X6_perform : Room := { frames := 7, cells := 0, slots := 0, locals := 178 }
theorem in_X6_perform_X6 : ∀ w ∈ u_ws RX6 TX6 12, w ∈ wsX6_perform := fun w h => List.mem_cons_of_mem _ (List.mem_append_right _ h)
set_option maxRecDepth 100000 in
set_option maxHeartbeats 4000000 in
theorem w_X6_perform_34 {p : Program} {l : Launch} {e : Env} {s : State} {m : MethodId} {args : Array Value} {below : List Frame} {meth : Method} {c : Code} {Q : State → Prop} {D : va_G} {cI cN : ClassId} {A : Nat → Prop} {z : Nat → Nat} (S : CallFix p m c cX6_perform 5 s args wsX6_perform RX6) (hK : KN D cI cN s) (hA : ∀ q : Nat, s.heap.size ≤ q → A q) {r0 : Int32} {g' : OS} (hret : ∀ (H : Heap) (locs : List Loc) (ls : Array Slot) (pc : Nat), decode cX6_perform pc = .ok (.ireturn, 1) → narrow .int (.int r0) = .int r0 → va_P D vwCl (mdW cI z g') H → va_D A (mdW cI z g') → va_S A s.heap H locs → W p l e (headSpec wsX6_perform rm_X6_perform).room s m args below meth c H locs 0 0 Q (F0 m pc ls [.int r0])) : ∀ (k : Nat) (x2 : Int32) (x3 : Int32) (g : OS), fX6_perform_34  k x2 x3 g = some (r0, g') → ∀ (H : Heap) (locs : List Loc) (ls : Array Slot), va_P D vwCl (mdW cI z g) H → va_D A (mdW cI z g) → va_S A s.heap H locs → lv_has ls 5 [(0, .ref (z 0)), (2, .int x2), (3, .int x3)] → W p l e (headSpec wsX6_perform rm_X6_perform).room s m args below meth c H locs 0 0 Q (F0 m 34 ls []) := by
  obtain ⟨hx, hb, hml, hown, hts⟩ := id S
  have inX6 := in_X6_perform_X6
  intro k
  induction k with
  | zero => intro x2 x3 g hf; rw [fX6_perform_34_z] at hf; cases hf
  | succ k ih =>
    intro x2 x3 g hf H locs ls hP hD hS hl
    rw [fX6_perform_34_s] at hf
    refine lv_iload_n hx hb dX6_perform_34 rfl (lv_at hl 2 rfl) ?_
    refine lv_if_eq (tgt := 87) hx hb dX6_perform_35 (by decide) (fun c5 => ?_) (fun c5 => ?_)
    · have hf := it_t hf c5
      refine lv_aload_n hx hb dX6_perform_87 rfl (lv_at hl 0 rfl) ?_
      refine lv_iload_n hx hb dX6_perform_88 rfl (lv_at hl 1 rfl) ?_
      obtain ⟨v6, hv6, hf⟩ := it_b hf
      refine cBi (As := [.int x2]) (rest := []) (q0 := 0) (ci := 6) [(true, (mdW cI z g), (mdW cI z v6.2))] ⟨ad_mod, (fun h => Bool.noConfusion h), trivial⟩ S (c_X6_accepts l D cI cN z _ g x2 v6.1 v6.2 hv6) (cwV 1 hts gX6_perform_X6_accepts rfl rfl rfl (by decide +kernel) ⟨Nat.le_of_ble_eq_true rfl, Nat.le_of_ble_eq_true rfl⟩) hK hP hD hS hA rfl rfl rfl hl.1 rfl (Nat.le_of_ble_eq_true rfl) dX6_perform_89 ⟨Nat.zero_le _, Nat.zero_le _⟩ (fun H locs hP hD hS => ?_)
      have e0 : v6.1 = r0 := congrArg (fun z => z.1) (Option.some.inj hf)
      have e1 : v6.2 = g' := congrArg (fun z => z.2) (Option.some.inj hf)
      subst e0
      subst e1
      exact hret H locs ls _ dX6_perform_92 rfl hP hD hS
    · have hf := it_f hf c5
      refine lv_aload_n hx hb dX6_perform_38 rfl (lv_at hl 0 rfl) ?_
      obtain ⟨v7, hv7, hf⟩ := it_b hf
      refine cBi (As := []) (rest := []) (q0 := 0) (ci := 6) [(true, (mdW cI z g), (mdW cI z v7.2))] ⟨ad_mod, (fun h => Bool.noConfusion h), trivial⟩ S (c_X6_carries l D cI cN z _ g v7.1 v7.2 hv7) (cwV 0 hts gX6_perform_X6_carries rfl rfl rfl (by decide +kernel) ⟨Nat.le_of_ble_eq_true rfl, Nat.le_of_ble_eq_true rfl⟩) hK hP hD hS hA rfl rfl rfl hl.1 rfl (Nat.le_of_ble_eq_true rfl) dX6_perform_39 ⟨Nat.zero_le _, Nat.zero_le _⟩ (fun H locs hP hD hS => ?_)
      refine lv_istore (lv' := [(4, .int v7.1), (0, .ref (z 0)), (2, .int x2), (3, .int x3)]) hx hb dX6_perform_42 hl (by decide) rfl (fun ls hl => ?_)
      refine lv_iload hx hb dX6_perform_44 (lv_at hl 0 rfl) ?_
      refine lv_if_ge (tgt := 59) hx hb dX6_perform_46 (by decide) (fun c8 => ?_) (fun c8 => ?_)
      · have hf := it_t hf c8
        refine lv_iinc (v := (x2 + (1 : Int32))) (lv' := [(2, .int (x2 + (1 : Int32))), (4, .int v7.1), (0, .ref (z 0)), (3, .int x3)]) hx hb dX6_perform_59 hl (k := 2) rfl rfl (by decide) rfl (fun ls hl => ?_)
        refine lv_aload_n hx hb dX6_perform_62 rfl (lv_at hl 2 rfl) ?_
        refine lv_bipush (v := (59 : Int32)) hx hb dX6_perform_63 kc_bipush_59 ?_
        obtain ⟨v9, hv9, hf⟩ := it_b hf
        refine cBi (As := [.int (59 : Int32)]) (rest := []) (q0 := 0) (ci := 6) [(true, (mdW cI z v7.2), (mdW cI z v9.2))] ⟨ad_mod, (fun h => Bool.noConfusion h), trivial⟩ S (c_X6_takes l D cI cN z _ v7.2 (59 : Int32) v9.1 v9.2 hv9) (cwV 1 hts gX6_perform_X6_takes rfl rfl rfl (by decide +kernel) ⟨Nat.le_of_ble_eq_true rfl, Nat.le_of_ble_eq_true rfl⟩) hK hP hD hS hA rfl rfl rfl hl.1 rfl (Nat.le_of_ble_eq_true rfl) dX6_perform_65 ⟨Nat.zero_le _, Nat.zero_le _⟩ (fun H locs hP hD hS => ?_)
        refine lv_if_eq (tgt := 82) hx hb dX6_perform_68 (by decide) (fun c10 => ?_) (fun c10 => ?_)
        · have hf := it_t hf c10
          refine lv_iconst (v := (0 : Int32)) hx hb dX6_perform_82 kc_iconst_0 ?_
          refine lv_istore_n (lv' := [(3, .int (0 : Int32)), (2, .int (x2 + (1 : Int32))), (4, .int v7.1), (0, .ref (z 0))]) hx hb dX6_perform_83 rfl hl (by decide) rfl (fun ls hl => ?_)
          refine lv_goto (tgt := 34) hx hb dX6_perform_84 (by decide) ?_
          exact ih _ _ _ hf H locs ls hP hD hS (lv_sub hl [3, 1, 0] rfl)
        · have hf := it_f hf c10
          refine lv_aload_n hx hb dX6_perform_71 rfl (lv_at hl 2 rfl) ?_
          obtain ⟨v11, hv11, hf⟩ := it_b hf
          refine cBi (As := []) (rest := []) (q0 := 0) (ci := 6) [(true, (mdW cI z v9.2), (mdW cI z v11.2))] ⟨ad_mod, (fun h => Bool.noConfusion h), trivial⟩ S (c_X6_reads l D cI cN z _ v9.2 v11.1 v11.2 hv11) (cwV 0 hts gX6_perform_X6_reads rfl rfl rfl (by decide +kernel) ⟨Nat.le_of_ble_eq_true rfl, Nat.le_of_ble_eq_true rfl⟩) hK hP hD hS hA rfl rfl rfl hl.1 rfl (Nat.le_of_ble_eq_true rfl) dX6_perform_72 ⟨Nat.zero_le _, Nat.zero_le _⟩ (fun H locs hP hD hS => ?_)
          refine lv_if_eq (tgt := 82) hx hb dX6_perform_75 (by decide) (fun c12 => ?_) (fun c12 => ?_)
          · have hf := it_t hf c12
            refine lv_iconst (v := (0 : Int32)) hx hb dX6_perform_82 kc_iconst_0 ?_
            refine lv_istore_n (lv' := [(3, .int (0 : Int32)), (2, .int (x2 + (1 : Int32))), (4, .int v7.1), (0, .ref (z 0))]) hx hb dX6_perform_83 rfl hl (by decide) rfl (fun ls hl => ?_)
            refine lv_goto (tgt := 34) hx hb dX6_perform_84 (by decide) ?_
            exact ih _ _ _ hf H locs ls hP hD hS (lv_sub hl [3, 1, 0] rfl)
          · have hf := it_f hf c12
            refine lv_iconst (v := (1 : Int32)) hx hb dX6_perform_78 kc_iconst_1 ?_
            refine lv_goto (tgt := 83) hx hb dX6_perform_79 (by decide) ?_
            refine lv_istore_n (lv' := [(3, .int (1 : Int32)), (2, .int (x2 + (1 : Int32))), (4, .int v7.1), (0, .ref (z 0))]) hx hb dX6_perform_83 rfl hl (by decide) rfl (fun ls hl => ?_)
            refine lv_goto (tgt := 34) hx hb dX6_perform_84 (by decide) ?_
            exact ih _ _ _ hf H locs ls hP hD hS (lv_sub hl [3, 1, 0] rfl)
      · have hf := it_f hf c8
        refine lv_iload hx hb dX6_perform_49 (lv_at hl 0 rfl) ?_
        refine lv_bipush (v := (-6 : Int32)) hx hb dX6_perform_51 kc_bipush_m6 ?_
        refine lv_icmp_eq (tgt := 59) hx hb dX6_perform_53 (by decide) (fun c13 => ?_) (fun c13 => ?_)
        · have hf := it_t hf c13
          refine lv_iinc (v := (x2 + (1 : Int32))) (lv' := [(2, .int (x2 + (1 : Int32))), (4, .int v7.1), (0, .ref (z 0)), (3, .int x3)]) hx hb dX6_perform_59 hl (k := 2) rfl rfl (by decide) rfl (fun ls hl => ?_)
          refine lv_aload_n hx hb dX6_perform_62 rfl (lv_at hl 2 rfl) ?_
          refine lv_bipush (v := (59 : Int32)) hx hb dX6_perform_63 kc_bipush_59 ?_
          obtain ⟨v14, hv14, hf⟩ := it_b hf
          refine cBi (As := [.int (59 : Int32)]) (rest := []) (q0 := 0) (ci := 6) [(true, (mdW cI z v7.2), (mdW cI z v14.2))] ⟨ad_mod, (fun h => Bool.noConfusion h), trivial⟩ S (c_X6_takes l D cI cN z _ v7.2 (59 : Int32) v14.1 v14.2 hv14) (cwV 1 hts gX6_perform_X6_takes rfl rfl rfl (by decide +kernel) ⟨Nat.le_of_ble_eq_true rfl, Nat.le_of_ble_eq_true rfl⟩) hK hP hD hS hA rfl rfl rfl hl.1 rfl (Nat.le_of_ble_eq_true rfl) dX6_perform_65 ⟨Nat.zero_le _, Nat.zero_le _⟩ (fun H locs hP hD hS => ?_)
          refine lv_if_eq (tgt := 82) hx hb dX6_perform_68 (by decide) (fun c15 => ?_) (fun c15 => ?_)
          · have hf := it_t hf c15
            refine lv_iconst (v := (0 : Int32)) hx hb dX6_perform_82 kc_iconst_0 ?_
            refine lv_istore_n (lv' := [(3, .int (0 : Int32)), (2, .int (x2 + (1 : Int32))), (4, .int v7.1), (0, .ref (z 0))]) hx hb dX6_perform_83 rfl hl (by decide) rfl (fun ls hl => ?_)
            refine lv_goto (tgt := 34) hx hb dX6_perform_84 (by decide) ?_
            exact ih _ _ _ hf H locs ls hP hD hS (lv_sub hl [3, 1, 0] rfl)
          · have hf := it_f hf c15
            refine lv_aload_n hx hb dX6_perform_71 rfl (lv_at hl 2 rfl) ?_
            obtain ⟨v16, hv16, hf⟩ := it_b hf
            refine cBi (As := []) (rest := []) (q0 := 0) (ci := 6) [(true, (mdW cI z v14.2), (mdW cI z v16.2))] ⟨ad_mod, (fun h => Bool.noConfusion h), trivial⟩ S (c_X6_reads l D cI cN z _ v14.2 v16.1 v16.2 hv16) (cwV 0 hts gX6_perform_X6_reads rfl rfl rfl (by decide +kernel) ⟨Nat.le_of_ble_eq_true rfl, Nat.le_of_ble_eq_true rfl⟩) hK hP hD hS hA rfl rfl rfl hl.1 rfl (Nat.le_of_ble_eq_true rfl) dX6_perform_72 ⟨Nat.zero_le _, Nat.zero_le _⟩ (fun H locs hP hD hS => ?_)
            refine lv_if_eq (tgt := 82) hx hb dX6_perform_75 (by decide) (fun c17 => ?_) (fun c17 => ?_)
            · have hf := it_t hf c17
              refine lv_iconst (v := (0 : Int32)) hx hb dX6_perform_82 kc_iconst_0 ?_
              refine lv_istore_n (lv' := [(3, .int (0 : Int32)), (2, .int (x2 + (1 : Int32))), (4, .int v7.1), (0, .ref (z 0))]) hx hb dX6_perform_83 rfl hl (by decide) rfl (fun ls hl => ?_)
              refine lv_goto (tgt := 34) hx hb dX6_perform_84 (by decide) ?_
              exact ih _ _ _ hf H locs ls hP hD hS (lv_sub hl [3, 1, 0] rfl)
            · have hf := it_f hf c17
              refine lv_iconst (v := (1 : Int32)) hx hb dX6_perform_78 kc_iconst_1 ?_
              refine lv_goto (tgt := 83) hx hb dX6_perform_79 (by decide) ?_
              refine lv_istore_n (lv' := [(3, .int (1 : Int32)), (2, .int (x2 + (1 : Int32))), (4, .int v7.1), (0, .ref (z 0))]) hx hb dX6_perform_83 rfl hl (by decide) rfl (fun ls hl => ?_)
              refine lv_goto (tgt := 34) hx hb dX6_perform_84 (by decide) ?_
              exact ih _ _ _ hf H locs ls hP hD hS (lv_sub hl [3, 1, 0] rfl)
        · have hf := it_f hf c13
          refine lv_iload hx hb dX6_perform_56 (lv_at hl 0 rfl) ?_
          have e0 : v7.1 = r0 := congrArg (fun z => z.1) (Option.some.inj hf)
          have e1 : v7.2 = g' := congrArg (fun z => z.2) (Option.some.inj hf)
          subst e0
          subst e1
          exact hret H locs ls _ dX6_perform_58 rfl hP hD hS
set_option maxRecDepth 100000 in
set_option maxHeartbeats 4000000 in
theorem w_X6_perform_0 {p : Program} {l : Launch} {e : Env} {s : State} {m : MethodId} {args : Array Value} {below : List Frame} {meth : Method} {c : Code} {Q : State → Prop} {D : va_G} {cI cN : ClassId} {A : Nat → Prop} {z : Nat → Nat} (S : CallFix p m c cX6_perform 5 s args wsX6_perform RX6) (hK : KN D cI cN s) (hA : ∀ q : Nat, s.heap.size ≤ q → A q) {g : OS} {r0 : Int32} {g' : OS} (hret : ∀ (H : Heap) (locs : List Loc) (ls : Array Slot) (pc : Nat), decode cX6_perform pc = .ok (.ireturn, 1) → narrow .int (.int r0) = .int r0 → va_P D vwCl (mdW cI z g') H → va_D A (mdW cI z g') → va_S A s.heap H locs → W p l e (headSpec wsX6_perform rm_X6_perform).room s m args below meth c H locs 0 0 Q (F0 m pc ls [.int r0])) (hf : fX6_perform g = some (r0, g')) (H : Heap) (locs : List Loc) (ls : Array Slot) (hP : va_P D vwCl (mdW cI z g) H) (hD : va_D A (mdW cI z g)) (hS : va_S A s.heap H locs) (hl : lv_has ls 5 [(0, .ref (z 0))]) : W p l e (headSpec wsX6_perform rm_X6_perform).room s m args below meth c H locs 0 0 Q (F0 m 0 ls []) := by
  obtain ⟨hx, hb, hml, hown, hts⟩ := id S
  have inX6 := in_X6_perform_X6
  unfold fX6_perform at hf
  refine lv_aload_n hx hb dX6_perform_0 rfl (lv_at hl 0 rfl) ?_
  obtain ⟨v1, hv1, hf⟩ := it_b hf
  refine cBi (As := []) (rest := []) (q0 := 0) (ci := 6) [(true, (mdW cI z g), (mdW cI z v1.2))] ⟨ad_mod, (fun h => Bool.noConfusion h), trivial⟩ S (c_X6_fault l D cI cN z _ g v1.1 v1.2 hv1) (cwV 0 hts gX6_perform_X6_fault rfl rfl rfl (by decide +kernel) ⟨Nat.le_of_ble_eq_true rfl, Nat.le_of_ble_eq_true rfl⟩) hK hP hD hS hA rfl rfl rfl hl.1 rfl (Nat.le_of_ble_eq_true rfl) dX6_perform_1 ⟨Nat.zero_le _, Nat.zero_le _⟩ (fun H locs hP hD hS => ?_)
  refine lv_istore_n (lv' := [(1, .int v1.1), (0, .ref (z 0))]) hx hb dX6_perform_4 rfl hl (by decide) rfl (fun ls hl => ?_)
  refine lv_iload_n hx hb dX6_perform_5 rfl (lv_at hl 0 rfl) ?_
  refine lv_iconst (v := (-1 : Int32)) hx hb dX6_perform_6 kc_iconst_m1 ?_
  refine lv_icmp_eq (tgt := 15) hx hb dX6_perform_7 (by decide) (fun c2 => ?_) (fun c2 => ?_)
  · have hf := it_t hf c2
    refine lv_aload_n hx hb dX6_perform_15 rfl (lv_at hl 1 rfl) ?_
    refine lv_iconst (v := (0 : Int32)) hx hb dX6_perform_16 kc_iconst_0 ?_
    refine lv_bipush (v := (6 : Int32)) hx hb dX6_perform_17 kc_bipush_6 ?_
    obtain ⟨v3, hv3, hf⟩ := it_b hf
    refine cBv (As := [.int (0 : Int32), .int (6 : Int32)]) (rest := []) (q0 := 0) (ci := 6) [(true, (mdW cI z v1.2), (mdW cI z v3))] ⟨ad_mod, (fun h => Bool.noConfusion h), trivial⟩ S (c_X6_copies l D cI cN z _ v1.2 (0 : Int32) (6 : Int32) v3 hv3) (cwV 2 hts gX6_perform_X6_copies rfl rfl rfl (by decide +kernel) ⟨Nat.le_of_ble_eq_true rfl, Nat.le_of_ble_eq_true rfl⟩) hK hP hD hS hA rfl rfl rfl hl.1 rfl (Nat.le_of_ble_eq_true rfl) dX6_perform_19 ⟨Nat.zero_le _, Nat.zero_le _⟩ (fun H locs hP hD hS => ?_)
    refine lv_aload_n hx hb dX6_perform_22 rfl (lv_at hl 1 rfl) ?_
    refine lv_iconst (v := (0 : Int32)) hx hb dX6_perform_23 kc_iconst_0 ?_
    refine gput (D := D) (ci := 6) (v := .int (0 : Int32)) (ty := .int) (C := RX6) (T := TX6) (N := 12) (wf := (mdW cI z (setF v3 5 (0 : Int32)))) hx hb hts inX6 tyX6 tyX6_ok nmX6 hown hK.1 hP hD hS 0 rfl rfl 5 (by decide) (hts (.fieldLink RX6 133 "ClosExchangeModel" "at" "I") (List.mem_of_getElem? (i := 1) rfl)) (fun _ h9 => h9) rfl (by decide +kernel) rfl rfl (Nat.le_of_ble_eq_true rfl) dX6_perform_24 rfl (fun H locs hP hD hS => ?_)
    refine lv_iconst (v := (0 : Int32)) hx hb dX6_perform_27 kc_iconst_0 ?_
    refine lv_istore_n (lv' := [(2, .int (0 : Int32)), (1, .int v1.1), (0, .ref (z 0))]) hx hb dX6_perform_28 rfl hl (by decide) rfl (fun ls hl => ?_)
    refine lv_aload_n hx hb dX6_perform_29 rfl (lv_at hl 2 rfl) ?_
    obtain ⟨v4, hv4, hf⟩ := it_b hf
    refine cBi (As := []) (rest := []) (q0 := 0) (ci := 6) [(true, (mdW cI z (setF v3 5 (0 : Int32))), (mdW cI z v4.2))] ⟨ad_mod, (fun h => Bool.noConfusion h), trivial⟩ S (c_X6_reads l D cI cN z _ (setF v3 5 (0 : Int32)) v4.1 v4.2 hv4) (cwV 0 hts gX6_perform_X6_reads rfl rfl rfl (by decide +kernel) ⟨Nat.le_of_ble_eq_true rfl, Nat.le_of_ble_eq_true rfl⟩) hK hP hD hS hA rfl rfl rfl hl.1 rfl (Nat.le_of_ble_eq_true rfl) dX6_perform_30 ⟨Nat.zero_le _, Nat.zero_le _⟩ (fun H locs hP hD hS => ?_)
    refine lv_istore_n (lv' := [(3, .int v4.1), (2, .int (0 : Int32)), (1, .int v1.1), (0, .ref (z 0))]) hx hb dX6_perform_33 rfl hl (by decide) rfl (fun ls hl => ?_)
    exact w_X6_perform_34 S hK hA hret _ _ _ _ hf H locs ls hP hD hS (lv_sub hl [3, 1, 0] rfl)
  · have hf := it_f hf c2
    refine lv_bipush (v := (-100 : Int32)) hx hb dX6_perform_10 kc_bipush_m100 ?_
    refine lv_iload_n hx hb dX6_perform_12 rfl (lv_at hl 0 rfl) ?_
    refine lv_isub hx hb dX6_perform_13 ?_
    have e0 : ((-100 : Int32) - v1.1) = r0 := congrArg (fun z => z.1) (Option.some.inj hf)
    have e1 : v1.2 = g' := congrArg (fun z => z.2) (Option.some.inj hf)
    subst e0
    subst e1
    exact hret H locs ls _ dX6_perform_14 rfl hP hD hS
set_option maxRecDepth 100000 in
theorem c_X6_perform (l : Launch) (D : va_G) (cI cN : ClassId) (z : Nat → Nat) (sz : Nat) (g : OS) (r0 : Int32) (g' : OS) (hf : fX6_perform g = some (r0, g')) : CtI l D cI cN yX6_perform wsX6_perform rm_X6_perform 0 0 [.ref (z 0)] (mdW cI z g) sz r0 (mdW cI z g') := by
  refine mW (cc := cX6_perform) (maxL := 5) (ty := .int) (by decide) rfl rfl (Nat.le_of_ble_eq_true rfl) ?_
  intro p e s m args below meth c Q A S hK hP hD hS hA hret ls hl
  exact w_X6_perform_0 S hK hA hret hf _ _ _ hP hD hS (lv_sub (show lv_has ls 5 [(0, .ref (z 0))] from hl) [0] rfl)
abbrev rm_X6_undo : Room := { frames := 1, cells := 0, slots := 0, locals := 23 }
theorem in_X6_undo_X6 : ∀ w ∈ u_ws RX6 TX6 12, w ∈ wsX6_undo := fun w h => List.mem_cons_of_mem _ (List.mem_append_right _ h)
set_option maxRecDepth 100000 in
set_option maxHeartbeats 4000000 in
theorem w_X6_undo_0 {p : Program} {l : Launch} {e : Env} {s : State} {m : MethodId} {args : Array Value} {below : List Frame} {meth : Method} {c : Code} {Q : State → Prop} {D : va_G} {cI cN : ClassId} {A : Nat → Prop} {z : Nat → Nat} (S : CallFix p m c cX6_undo 1 s args wsX6_undo RX6) (hK : KN D cI cN s) (hA : ∀ q : Nat, s.heap.size ≤ q → A q) {g : OS} {r0 : Int32} {g' : OS} (hret : ∀ (H : Heap) (locs : List Loc) (ls : Array Slot) (pc : Nat), decode cX6_undo pc = .ok (.ireturn, 1) → narrow .int (.int r0) = .int r0 → va_P D vwCl (mdW cI z g') H → va_D A (mdW cI z g') → va_S A s.heap H locs → W p l e (headSpec wsX6_undo rm_X6_undo).room s m args below meth c H locs 0 0 Q (F0 m pc ls [.int r0])) (hf : fX6_undo g = some (r0, g')) (H : Heap) (locs : List Loc) (ls : Array Slot) (hP : va_P D vwCl (mdW cI z g) H) (hD : va_D A (mdW cI z g)) (hS : va_S A s.heap H locs) (hl : lv_has ls 1 [(0, .ref (z 0))]) : W p l e (headSpec wsX6_undo rm_X6_undo).room s m args below meth c H locs 0 0 Q (F0 m 0 ls []) := by
  obtain ⟨hx, hb, hml, hown, hts⟩ := id S
  have inX6 := in_X6_undo_X6
  unfold fX6_undo at hf
  refine lv_aload_n hx hb dX6_undo_0 rfl (lv_at hl 0 rfl) ?_
  refine va_get (D := D) (ci := 6) (v := .int (g.1 1)) (C := RX6) (T := TX6) (N := 12) hx hb hts inX6 hown hK.1 hP 0 rfl rfl 1 (by decide) (hts (.fieldLink RX6 102 "ClosExchangeModel" "states" "I") (List.mem_of_getElem? (i := 1) rfl)) (fun _ h9 => h9) rfl dX6_undo_1 ?_
  refine lv_if_ne (tgt := 10) hx hb dX6_undo_4 (by decide) (fun c1 => ?_) (fun c1 => ?_)
  · have hf := it_f hf c1
    refine lv_aload_n hx hb dX6_undo_10 rfl (lv_at hl 0 rfl) ?_
    refine lv_aload_n hx hb dX6_undo_11 rfl (lv_at hl 0 rfl) ?_
    refine va_get (D := D) (ci := 6) (v := .int (g.1 1)) (C := RX6) (T := TX6) (N := 12) hx hb hts inX6 hown hK.1 hP 0 rfl rfl 1 (by decide) (hts (.fieldLink RX6 102 "ClosExchangeModel" "states" "I") (List.mem_of_getElem? (i := 1) rfl)) (fun _ h9 => h9) rfl dX6_undo_12 ?_
    refine lv_iconst (v := (0 : Int32)) hx hb dX6_undo_15 kc_iconst_0 ?_
    obtain ⟨v2, hv2, hf⟩ := it_b hf
    refine cBv (As := [.int (g.1 1), .int (0 : Int32)]) (rest := []) (q0 := 0) (ci := 6) [(true, (mdW cI z g), (mdW cI z v2))] ⟨ad_mod, (fun h => Bool.noConfusion h), trivial⟩ S (c_X6_copies l D cI cN z _ g (g.1 1) (0 : Int32) v2 hv2) (cwV 2 hts gX6_undo_X6_copies rfl rfl rfl (by decide +kernel) ⟨Nat.le_of_ble_eq_true rfl, Nat.le_of_ble_eq_true rfl⟩) hK hP hD hS hA rfl rfl rfl hl.1 rfl (Nat.le_of_ble_eq_true rfl) dX6_undo_16 ⟨Nat.zero_le _, Nat.zero_le _⟩ (fun H locs hP hD hS => ?_)
    refine lv_aload_n hx hb dX6_undo_19 rfl (lv_at hl 0 rfl) ?_
    refine lv_dup hx hb dX6_undo_20 rfl ?_
    refine va_get (D := D) (ci := 6) (v := .int (v2.1 1)) (C := RX6) (T := TX6) (N := 12) hx hb hts inX6 hown hK.1 hP 0 rfl rfl 1 (by decide) (hts (.fieldLink RX6 102 "ClosExchangeModel" "states" "I") (List.mem_of_getElem? (i := 1) rfl)) (fun _ h9 => h9) rfl dX6_undo_21 ?_
    refine lv_iconst (v := (1 : Int32)) hx hb dX6_undo_24 kc_iconst_1 ?_
    refine lv_isub hx hb dX6_undo_25 ?_
    obtain ⟨w3, hw3, hf⟩ := it_j hf
    rw [hw3]
    refine gput (D := D) (ci := 6) (v := .int w3) (ty := .int) (C := RX6) (T := TX6) (N := 12) (wf := (mdW cI z (setF v2 1 w3))) hx hb hts inX6 tyX6 tyX6_ok nmX6 hown hK.1 hP hD hS 0 rfl rfl 1 (by decide) (hts (.fieldLink RX6 102 "ClosExchangeModel" "states" "I") (List.mem_of_getElem? (i := 1) rfl)) (fun _ h9 => h9) rfl (by decide +kernel) rfl rfl (Nat.le_of_ble_eq_true rfl) dX6_undo_26 rfl (fun H locs hP hD hS => ?_)
    refine lv_aload_n hx hb dX6_undo_29 rfl (lv_at hl 0 rfl) ?_
    refine va_get (D := D) (ci := 6) (v := .int w3) (C := RX6) (T := TX6) (N := 12) hx hb hts inX6 hown hK.1 hP 0 rfl rfl 1 (by decide) (hts (.fieldLink RX6 102 "ClosExchangeModel" "states" "I") (List.mem_of_getElem? (i := 1) rfl)) (fun _ h9 => h9) rfl dX6_undo_30 ?_
    have e0 : w3 = r0 := congrArg (fun z => z.1) (Option.some.inj hf)
    have e1 : (setF v2 1 w3) = g' := congrArg (fun z => z.2) (Option.some.inj hf)
    subst e0
    subst e1
    exact hret H locs ls _ dX6_undo_33 rfl hP hD hS
  · have hf := it_t hf c1
    refine lv_bipush (v := (-6 : Int32)) hx hb dX6_undo_7 kc_bipush_m6 ?_
    have e0 : (-6 : Int32) = r0 := congrArg (fun z => z.1) (Option.some.inj hf)
    have e1 : g = g' := congrArg (fun z => z.2) (Option.some.inj hf)
    subst e0
    subst e1
    exact hret H locs ls _ dX6_undo_9 rfl hP hD hS
set_option maxRecDepth 100000 in
theorem c_X6_undo (l : Launch) (D : va_G) (cI cN : ClassId) (z : Nat → Nat) (sz : Nat) (g : OS) (r0 : Int32) (g' : OS) (hf : fX6_undo g = some (r0, g')) : CtI l D cI cN yX6_undo wsX6_undo rm_X6_undo 0 0 [.ref (z 0)] (mdW cI z g) sz r0 (mdW cI z g') := by
  refine mW (cc := cX6_undo) (maxL := 1) (ty := .int) (by decide) rfl rfl (Nat.le_of_ble_eq_true rfl) ?_
  intro p e s m args below meth c Q A S hK hP hD hS hA hret ls hl
  exact w_X6_undo_0 S hK hA hret hf _ _ _ hP hD hS (lv_sub (show lv_has ls 1 [(0, .ref (z 0))] from hl) [0] rfl)
abbrev rm_X6_keep : Room := { frames := 2, cells := 0, slots := 0, locals := 46 }
theorem in_X6_keep_X6 : ∀ w ∈ u_ws RX6 TX6 12, w ∈ wsX6_keep := fun w h => List.mem_cons_of_mem _ (List.mem_append_right _ h)
set_option maxRecDepth 100000 in
set_option maxHeartbeats 4000000 in
theorem w_X6_keep_0 {p : Program} {l : Launch} {e : Env} {s : State} {m : MethodId} {args : Array Value} {below : List Frame} {meth : Method} {c : Code} {Q : State → Prop} {D : va_G} {cI cN : ClassId} {A : Nat → Prop} {z : Nat → Nat} (S : CallFix p m c cX6_keep 1 s args wsX6_keep RX6) (hK : KN D cI cN s) (hA : ∀ q : Nat, s.heap.size ≤ q → A q) {g : OS} {r0 : Int32} {g' : OS} (hret : ∀ (H : Heap) (locs : List Loc) (ls : Array Slot) (pc : Nat), decode cX6_keep pc = .ok (.ireturn, 1) → narrow .int (.int r0) = .int r0 → va_P D vwCl (mdW cI z g') H → va_D A (mdW cI z g') → va_S A s.heap H locs → W p l e (headSpec wsX6_keep rm_X6_keep).room s m args below meth c H locs 0 0 Q (F0 m pc ls [.int r0])) (hf : fX6_keep g = some (r0, g')) (H : Heap) (locs : List Loc) (ls : Array Slot) (hP : va_P D vwCl (mdW cI z g) H) (hD : va_D A (mdW cI z g)) (hS : va_S A s.heap H locs) (hl : lv_has ls 1 [(0, .ref (z 0))]) : W p l e (headSpec wsX6_keep rm_X6_keep).room s m args below meth c H locs 0 0 Q (F0 m 0 ls []) := by
  obtain ⟨hx, hb, hml, hown, hts⟩ := id S
  have inX6 := in_X6_keep_X6
  unfold fX6_keep at hf
  refine lv_aload_n hx hb dX6_keep_0 rfl (lv_at hl 0 rfl) ?_
  refine lv_iconst (v := (0 : Int32)) hx hb dX6_keep_1 kc_iconst_0 ?_
  refine lv_iconst (v := (5 : Int32)) hx hb dX6_keep_2 kc_iconst_5 ?_
  obtain ⟨v1, hv1, hf⟩ := it_b hf
  refine cBv (As := [.int (0 : Int32), .int (5 : Int32)]) (rest := []) (q0 := 0) (ci := 6) [(true, (mdW cI z g), (mdW cI z v1))] ⟨ad_mod, (fun h => Bool.noConfusion h), trivial⟩ S (c_X6_copies l D cI cN z _ g (0 : Int32) (5 : Int32) v1 hv1) (cwV 2 hts gX6_keep_X6_copies rfl rfl rfl (by decide +kernel) ⟨Nat.le_of_ble_eq_true rfl, Nat.le_of_ble_eq_true rfl⟩) hK hP hD hS hA rfl rfl rfl hl.1 rfl (Nat.le_of_ble_eq_true rfl) dX6_keep_3 ⟨Nat.zero_le _, Nat.zero_le _⟩ (fun H locs hP hD hS => ?_)
  refine lv_aload_n hx hb dX6_keep_6 rfl (lv_at hl 0 rfl) ?_
  refine lv_iconst (v := (1 : Int32)) hx hb dX6_keep_7 kc_iconst_1 ?_
  refine gput (D := D) (ci := 6) (v := .int (1 : Int32)) (ty := .boolean) (C := RX6) (T := TX6) (N := 12) (wf := (mdW cI z (setF v1 2 (1 : Int32)))) hx hb hts inX6 tyX6 tyX6_ok nmX6 hown hK.1 hP hD hS 0 rfl rfl 2 (by decide) (hts (.fieldLink RX6 169 "ClosExchangeModel" "isKept" "Z") (List.mem_of_getElem? (i := 1) rfl)) (fun _ h9 => h9) rfl (by decide +kernel) rfl rfl (Nat.le_of_ble_eq_true rfl) dX6_keep_8 rfl (fun H locs hP hD hS => ?_)
  refine lv_aload_n hx hb dX6_keep_11 rfl (lv_at hl 0 rfl) ?_
  refine lv_iconst (v := (0 : Int32)) hx hb dX6_keep_12 kc_iconst_0 ?_
  obtain ⟨v2, hv2, hf⟩ := it_b hf
  refine cQi (As := [.int (0 : Int32)]) (rest := []) (q0 := 0) (ci := 6) S (c_X6_calls l D cI cN z _ (setF v1 2 (1 : Int32)) (0 : Int32) v2 hv2) (cwV 1 hts gX6_keep_X6_calls rfl rfl rfl (by decide +kernel) ⟨Nat.le_of_ble_eq_true rfl, Nat.le_of_ble_eq_true rfl⟩) hK hP hS hA hP rfl rfl rfl hl.1 rfl (Nat.le_of_ble_eq_true rfl) dX6_keep_13 ⟨Nat.zero_le _, Nat.zero_le _⟩ (fun H locs hP hS => ?_)
  have e0 : v2 = r0 := congrArg (fun z => z.1) (Option.some.inj hf)
  have e1 : (setF v1 2 (1 : Int32)) = g' := congrArg (fun z => z.2) (Option.some.inj hf)
  subst e0
  subst e1
  exact hret H locs ls _ dX6_keep_16 rfl hP hD hS
set_option maxRecDepth 100000 in
theorem c_X6_keep (l : Launch) (D : va_G) (cI cN : ClassId) (z : Nat → Nat) (sz : Nat) (g : OS) (r0 : Int32) (g' : OS) (hf : fX6_keep g = some (r0, g')) : CtI l D cI cN yX6_keep wsX6_keep rm_X6_keep 0 0 [.ref (z 0)] (mdW cI z g) sz r0 (mdW cI z g') := by
  refine mW (cc := cX6_keep) (maxL := 1) (ty := .int) (by decide) rfl rfl (Nat.le_of_ble_eq_true rfl) ?_
  intro p e s m args below meth c Q A S hK hP hD hS hA hret ls hl
  exact w_X6_keep_0 S hK hA hret hf _ _ _ hP hD hS (lv_sub (show lv_has ls 1 [(0, .ref (z 0))] from hl) [0] rfl)
abbrev rm_X6_restore : Room := { frames := 2, cells := 0, slots := 0, locals := 46 }
theorem in_X6_restore_X6 : ∀ w ∈ u_ws RX6 TX6 12, w ∈ wsX6_restore := fun w h => List.mem_cons_of_mem _ (List.mem_append_right _ h)
set_option maxRecDepth 100000 in
set_option maxHeartbeats 4000000 in
theorem w_X6_restore_0 {p : Program} {l : Launch} {e : Env} {s : State} {m : MethodId} {args : Array Value} {below : List Frame} {meth : Method} {c : Code} {Q : State → Prop} {D : va_G} {cI cN : ClassId} {A : Nat → Prop} {z : Nat → Nat} (S : CallFix p m c cX6_restore 1 s args wsX6_restore RX6) (hK : KN D cI cN s) (hA : ∀ q : Nat, s.heap.size ≤ q → A q) {g : OS} {r0 : Int32} {g' : OS} (hret : ∀ (H : Heap) (locs : List Loc) (ls : Array Slot) (pc : Nat), decode cX6_restore pc = .ok (.ireturn, 1) → narrow .int (.int r0) = .int r0 → va_P D vwCl (mdW cI z g') H → va_D A (mdW cI z g') → va_S A s.heap H locs → W p l e (headSpec wsX6_restore rm_X6_restore).room s m args below meth c H locs 0 0 Q (F0 m pc ls [.int r0])) (hf : fX6_restore g = some (r0, g')) (H : Heap) (locs : List Loc) (ls : Array Slot) (hP : va_P D vwCl (mdW cI z g) H) (hD : va_D A (mdW cI z g)) (hS : va_S A s.heap H locs) (hl : lv_has ls 1 [(0, .ref (z 0))]) : W p l e (headSpec wsX6_restore rm_X6_restore).room s m args below meth c H locs 0 0 Q (F0 m 0 ls []) := by
  obtain ⟨hx, hb, hml, hown, hts⟩ := id S
  have inX6 := in_X6_restore_X6
  unfold fX6_restore at hf
  refine lv_aload_n hx hb dX6_restore_0 rfl (lv_at hl 0 rfl) ?_
  refine va_get (D := D) (ci := 6) (v := .int (g.1 2)) (C := RX6) (T := TX6) (N := 12) hx hb hts inX6 hown hK.1 hP 0 rfl rfl 2 (by decide) (hts (.fieldLink RX6 169 "ClosExchangeModel" "isKept" "Z") (List.mem_of_getElem? (i := 1) rfl)) (fun _ h9 => h9) rfl dX6_restore_1 ?_
  refine lv_if_ne (tgt := 10) hx hb dX6_restore_4 (by decide) (fun c1 => ?_) (fun c1 => ?_)
  · have hf := it_f hf c1
    refine lv_aload_n hx hb dX6_restore_10 rfl (lv_at hl 0 rfl) ?_
    refine lv_iconst (v := (5 : Int32)) hx hb dX6_restore_11 kc_iconst_5 ?_
    refine lv_bipush (v := (6 : Int32)) hx hb dX6_restore_12 kc_bipush_6 ?_
    obtain ⟨v2, hv2, hf⟩ := it_b hf
    refine cBv (As := [.int (5 : Int32), .int (6 : Int32)]) (rest := []) (q0 := 0) (ci := 6) [(true, (mdW cI z g), (mdW cI z v2))] ⟨ad_mod, (fun h => Bool.noConfusion h), trivial⟩ S (c_X6_copies l D cI cN z _ g (5 : Int32) (6 : Int32) v2 hv2) (cwV 2 hts gX6_restore_X6_copies rfl rfl rfl (by decide +kernel) ⟨Nat.le_of_ble_eq_true rfl, Nat.le_of_ble_eq_true rfl⟩) hK hP hD hS hA rfl rfl rfl hl.1 rfl (Nat.le_of_ble_eq_true rfl) dX6_restore_14 ⟨Nat.zero_le _, Nat.zero_le _⟩ (fun H locs hP hD hS => ?_)
    refine lv_aload_n hx hb dX6_restore_17 rfl (lv_at hl 0 rfl) ?_
    refine lv_aload_n hx hb dX6_restore_18 rfl (lv_at hl 0 rfl) ?_
    refine lv_sipush (v := (924 : Int32)) hx hb dX6_restore_19 kc_sipush_924 ?_
    obtain ⟨v3, hv3, hf⟩ := it_b hf
    refine cQi (As := [.int (924 : Int32)]) (rest := [.ref (z 0)]) (q0 := 0) (ci := 6) S (c_X6_calls l D cI cN z _ v2 (924 : Int32) v3 hv3) (cwV 1 hts gX6_restore_X6_calls rfl rfl rfl (by decide +kernel) ⟨Nat.le_of_ble_eq_true rfl, Nat.le_of_ble_eq_true rfl⟩) hK hP hS hA hP rfl rfl rfl hl.1 rfl (Nat.le_of_ble_eq_true rfl) dX6_restore_22 ⟨Nat.zero_le _, Nat.zero_le _⟩ (fun H locs hP hS => ?_)
    obtain ⟨v4, hv4, hf⟩ := it_b hf
    refine cBi (As := [.int v3]) (rest := []) (q0 := 0) (ci := 6) [(true, (mdW cI z v2), (mdW cI z v4.2))] ⟨ad_mod, (fun h => Bool.noConfusion h), trivial⟩ S (c_X6_accepts l D cI cN z _ v2 v3 v4.1 v4.2 hv4) (cwV 1 hts gX6_restore_X6_accepts rfl rfl rfl (by decide +kernel) ⟨Nat.le_of_ble_eq_true rfl, Nat.le_of_ble_eq_true rfl⟩) hK hP hD hS hA rfl rfl rfl hl.1 rfl (Nat.le_of_ble_eq_true rfl) dX6_restore_25 ⟨Nat.zero_le _, Nat.zero_le _⟩ (fun H locs hP hD hS => ?_)
    have e0 : v4.1 = r0 := congrArg (fun z => z.1) (Option.some.inj hf)
    have e1 : v4.2 = g' := congrArg (fun z => z.2) (Option.some.inj hf)
    subst e0
    subst e1
    exact hret H locs ls _ dX6_restore_28 rfl hP hD hS
  · have hf := it_t hf c1
    refine lv_bipush (v := (-6 : Int32)) hx hb dX6_restore_7 kc_bipush_m6 ?_
    have e0 : (-6 : Int32) = r0 := congrArg (fun z => z.1) (Option.some.inj hf)
    have e1 : g = g' := congrArg (fun z => z.2) (Option.some.inj hf)
    subst e0
    subst e1
    exact hret H locs ls _ dX6_restore_9 rfl hP hD hS
set_option maxRecDepth 100000 in
theorem c_X6_restore (l : Launch) (D : va_G) (cI cN : ClassId) (z : Nat → Nat) (sz : Nat) (g : OS) (r0 : Int32) (g' : OS) (hf : fX6_restore g = some (r0, g')) : CtI l D cI cN yX6_restore wsX6_restore rm_X6_restore 0 0 [.ref (z 0)] (mdW cI z g) sz r0 (mdW cI z g') := by
  refine mW (cc := cX6_restore) (maxL := 1) (ty := .int) (by decide) rfl rfl (Nat.le_of_ble_eq_true rfl) ?_
  intro p e s m args below meth c Q A S hK hP hD hS hA hret ls hl
  exact w_X6_restore_0 S hK hA hret hf _ _ _ hP hD hS (lv_sub (show lv_has ls 1 [(0, .ref (z 0))] from hl) [0] rfl)
abbrev rm_X6_callOfInlet : Room := { frames := 2, cells := 0, slots := 0, locals := 44 }
set_option maxRecDepth 100000 in
set_option maxHeartbeats 4000000 in
theorem w_X6_callOfInlet_0 {p : Program} {l : Launch} {e : Env} {s : State} {m : MethodId} {args : Array Value} {below : List Frame} {meth : Method} {c : Code} {Q : State → Prop} {D : va_G} {cI cN : ClassId} {z : Nat → Nat} (S : CallFix p m c cX6_callOfInlet 2 s args wsX6_callOfInlet RX6) (hK : KN D cI cN s) {g : OS} {x1 : Int32} {r0 : Int32} (hret : ∀ (H : Heap) (locs : List Loc) (ls : Array Slot) (pc : Nat), decode cX6_callOfInlet pc = .ok (.ireturn, 1) → narrow .int (.int r0) = .int r0 → va_S (nwA s.heap.size) s.heap H locs → W p l e (headSpec wsX6_callOfInlet rm_X6_callOfInlet).room s m args below meth c H locs 0 0 Q (F0 m pc ls [.int r0])) (hf : fX6_callOfInlet g x1 = some r0) (H : Heap) (locs : List Loc) (ls : Array Slot) (hP : va_P D vwCl (mdW cI z g) H) (hS : va_S (nwA s.heap.size) s.heap H locs) (hl : lv_has ls 2 [(0, .ref (z 0)), (1, .int x1)]) : W p l e (headSpec wsX6_callOfInlet rm_X6_callOfInlet).room s m args below meth c H locs 0 0 Q (F0 m 0 ls []) := by
  obtain ⟨hx, hb, hml, hown, hts⟩ := id S
  have hA : ∀ q : Nat, s.heap.size ≤ q → nwA s.heap.size q := fun _ h => h
  unfold fX6_callOfInlet at hf
  refine lv_aload_n hx hb dX6_callOfInlet_0 rfl (lv_at hl 0 rfl) ?_
  refine lv_iconst (v := (0 : Int32)) hx hb dX6_callOfInlet_1 kc_iconst_0 ?_
  refine lv_iload_n hx hb dX6_callOfInlet_2 rfl (lv_at hl 1 rfl) ?_
  obtain ⟨v1, hv1, hf⟩ := it_b hf
  refine cQi (As := [.int (0 : Int32), .int x1]) (rest := []) (q0 := 0) (ci := 6) S (c_X6_isLine l D cI cN z _ g (0 : Int32) x1 v1 hv1) (cwV 2 hts gX6_callOfInlet_X6_isLine rfl rfl rfl (by decide +kernel) ⟨Nat.le_of_ble_eq_true rfl, Nat.le_of_ble_eq_true rfl⟩) hK hP hS hA hP rfl rfl rfl hl.1 rfl (Nat.le_of_ble_eq_true rfl) dX6_callOfInlet_3 ⟨Nat.zero_le _, Nat.zero_le _⟩ (fun H locs hP hS => ?_)
  refine lv_if_ne (tgt := 11) hx hb dX6_callOfInlet_6 (by decide) (fun c2 => ?_) (fun c2 => ?_)
  · have hf := it_f hf c2
    refine lv_aload_n hx hb dX6_callOfInlet_11 rfl (lv_at hl 0 rfl) ?_
    refine lv_iconst (v := (0 : Int32)) hx hb dX6_callOfInlet_12 kc_iconst_0 ?_
    refine lv_iload_n hx hb dX6_callOfInlet_13 rfl (lv_at hl 1 rfl) ?_
    refine lv_iconst (v := (0 : Int32)) hx hb dX6_callOfInlet_14 kc_iconst_0 ?_
    obtain ⟨v3, hv3, hf⟩ := it_b hf
    refine cQi (As := [.int (0 : Int32), .int x1, .int (0 : Int32)]) (rest := []) (q0 := 0) (ci := 6) S (c_X6_of l D cI cN z _ g (0 : Int32) x1 (0 : Int32) v3 hv3) (cwV 3 hts gX6_callOfInlet_X6_of rfl rfl rfl (by decide +kernel) ⟨Nat.le_of_ble_eq_true rfl, Nat.le_of_ble_eq_true rfl⟩) hK hP hS hA hP rfl rfl rfl hl.1 rfl (Nat.le_of_ble_eq_true rfl) dX6_callOfInlet_15 ⟨Nat.zero_le _, Nat.zero_le _⟩ (fun H locs hP hS => ?_)
    refine lv_iconst (v := (-1 : Int32)) hx hb dX6_callOfInlet_18 kc_iconst_m1 ?_
    refine lv_icmp_ne (tgt := 27) hx hb dX6_callOfInlet_19 (by decide) (fun c4 => ?_) (fun c4 => ?_)
    · have hf := it_f hf c4
      refine lv_aload_n hx hb dX6_callOfInlet_27 rfl (lv_at hl 0 rfl) ?_
      refine lv_iconst (v := (0 : Int32)) hx hb dX6_callOfInlet_28 kc_iconst_0 ?_
      refine lv_iload_n hx hb dX6_callOfInlet_29 rfl (lv_at hl 1 rfl) ?_
      refine lv_iconst (v := (0 : Int32)) hx hb dX6_callOfInlet_30 kc_iconst_0 ?_
      obtain ⟨v5, hv5, hf⟩ := it_b hf
      refine cQi (As := [.int (0 : Int32), .int x1, .int (0 : Int32)]) (rest := []) (q0 := 0) (ci := 6) S (c_X6_of l D cI cN z _ g (0 : Int32) x1 (0 : Int32) v5 hv5) (cwV 3 hts gX6_callOfInlet_X6_of rfl rfl rfl (by decide +kernel) ⟨Nat.le_of_ble_eq_true rfl, Nat.le_of_ble_eq_true rfl⟩) hK hP hS hA hP rfl rfl rfl hl.1 rfl (Nat.le_of_ble_eq_true rfl) dX6_callOfInlet_31 ⟨Nat.zero_le _, Nat.zero_le _⟩ (fun H locs hP hS => ?_)
      have e0 : v5 = r0 := (Option.some.inj hf)
      subst e0
      exact hret H locs ls _ dX6_callOfInlet_34 rfl hS
    · have hf := it_t hf c4
      refine lv_bipush (v := (-6 : Int32)) hx hb dX6_callOfInlet_22 kc_bipush_m6 ?_
      refine lv_goto (tgt := 34) hx hb dX6_callOfInlet_24 (by decide) ?_
      have e0 : (-6 : Int32) = r0 := (Option.some.inj hf)
      subst e0
      exact hret H locs ls _ dX6_callOfInlet_34 rfl hS
  · have hf := it_t hf c2
    refine lv_iconst (v := (-1 : Int32)) hx hb dX6_callOfInlet_9 kc_iconst_m1 ?_
    have e0 : (-1 : Int32) = r0 := (Option.some.inj hf)
    subst e0
    exact hret H locs ls _ dX6_callOfInlet_10 rfl hS
set_option maxRecDepth 100000 in
theorem c_X6_callOfInlet (l : Launch) (D : va_G) (cI cN : ClassId) (z : Nat → Nat) (sz : Nat) (g : OS) (x1 : Int32) (r0 : Int32) (hf : fX6_callOfInlet g x1 = some r0) : CtP l D cI cN yX6_callOfInlet wsX6_callOfInlet rm_X6_callOfInlet [.ref (z 0), .int x1] (mdW cI z g) sz r0 := by
  refine mP (cc := cX6_callOfInlet) (maxL := 2) (ty := .int) (by decide) rfl rfl (Nat.le_of_ble_eq_true rfl) ?_
  intro p e s m args below meth c Q S hK hP hS hret ls hl
  exact w_X6_callOfInlet_0 S hK hret hf _ _ _ hP hS (lv_sub (show lv_has ls 2 [(0, .ref (z 0)), (1, .int x1)] from hl) [0, 1] rfl)
abbrev rm_X6_callOfOutlet : Room := { frames := 2, cells := 0, slots := 0, locals := 46 }
set_option maxRecDepth 100000 in
set_option maxHeartbeats 4000000 in
theorem w_X6_callOfOutlet_0 {p : Program} {l : Launch} {e : Env} {s : State} {m : MethodId} {args : Array Value} {below : List Frame} {meth : Method} {c : Code} {Q : State → Prop} {D : va_G} {cI cN : ClassId} {z : Nat → Nat} (S : CallFix p m c cX6_callOfOutlet 3 s args wsX6_callOfOutlet RX6) (hK : KN D cI cN s) {g : OS} {x1 : Int32} {r0 : Int32} (hret : ∀ (H : Heap) (locs : List Loc) (ls : Array Slot) (pc : Nat), decode cX6_callOfOutlet pc = .ok (.ireturn, 1) → narrow .int (.int r0) = .int r0 → va_S (nwA s.heap.size) s.heap H locs → W p l e (headSpec wsX6_callOfOutlet rm_X6_callOfOutlet).room s m args below meth c H locs 0 0 Q (F0 m pc ls [.int r0])) (hf : fX6_callOfOutlet g x1 = some r0) (H : Heap) (locs : List Loc) (ls : Array Slot) (hP : va_P D vwCl (mdW cI z g) H) (hS : va_S (nwA s.heap.size) s.heap H locs) (hl : lv_has ls 3 [(0, .ref (z 0)), (1, .int x1)]) : W p l e (headSpec wsX6_callOfOutlet rm_X6_callOfOutlet).room s m args below meth c H locs 0 0 Q (F0 m 0 ls []) := by
  obtain ⟨hx, hb, hml, hown, hts⟩ := id S
  have hA : ∀ q : Nat, s.heap.size ≤ q → nwA s.heap.size q := fun _ h => h
  unfold fX6_callOfOutlet at hf
  refine lv_aload_n hx hb dX6_callOfOutlet_0 rfl (lv_at hl 0 rfl) ?_
  refine lv_iconst (v := (0 : Int32)) hx hb dX6_callOfOutlet_1 kc_iconst_0 ?_
  refine lv_iload_n hx hb dX6_callOfOutlet_2 rfl (lv_at hl 1 rfl) ?_
  obtain ⟨v1, hv1, hf⟩ := it_b hf
  refine cQi (As := [.int (0 : Int32), .int x1]) (rest := []) (q0 := 0) (ci := 6) S (c_X6_isLine l D cI cN z _ g (0 : Int32) x1 v1 hv1) (cwV 2 hts gX6_callOfOutlet_X6_isLine rfl rfl rfl (by decide +kernel) ⟨Nat.le_of_ble_eq_true rfl, Nat.le_of_ble_eq_true rfl⟩) hK hP hS hA hP rfl rfl rfl hl.1 rfl (Nat.le_of_ble_eq_true rfl) dX6_callOfOutlet_3 ⟨Nat.zero_le _, Nat.zero_le _⟩ (fun H locs hP hS => ?_)
  refine lv_if_ne (tgt := 11) hx hb dX6_callOfOutlet_6 (by decide) (fun c2 => ?_) (fun c2 => ?_)
  · have hf := it_f hf c2
    refine lv_aload_n hx hb dX6_callOfOutlet_11 rfl (lv_at hl 0 rfl) ?_
    refine lv_iconst (v := (0 : Int32)) hx hb dX6_callOfOutlet_12 kc_iconst_0 ?_
    refine lv_iload_n hx hb dX6_callOfOutlet_13 rfl (lv_at hl 1 rfl) ?_
    obtain ⟨v3, hv3, hf⟩ := it_b hf
    refine cQi (As := [.int (0 : Int32), .int x1]) (rest := []) (q0 := 0) (ci := 6) S (c_X6_inletTo l D cI cN z _ g (0 : Int32) x1 v3 hv3) (cwV 2 hts gX6_callOfOutlet_X6_inletTo rfl rfl rfl (by decide +kernel) ⟨Nat.le_of_ble_eq_true rfl, Nat.le_of_ble_eq_true rfl⟩) hK hP hS hA hP rfl rfl rfl hl.1 rfl (Nat.le_of_ble_eq_true rfl) dX6_callOfOutlet_14 ⟨Nat.zero_le _, Nat.zero_le _⟩ (fun H locs hP hS => ?_)
    refine lv_istore_n (lv' := [(2, .int v3), (0, .ref (z 0)), (1, .int x1)]) hx hb dX6_callOfOutlet_17 rfl hl (by decide) rfl (fun ls hl => ?_)
    refine lv_iload_n hx hb dX6_callOfOutlet_18 rfl (lv_at hl 0 rfl) ?_
    refine lv_iconst (v := (-1 : Int32)) hx hb dX6_callOfOutlet_19 kc_iconst_m1 ?_
    refine lv_icmp_ne (tgt := 28) hx hb dX6_callOfOutlet_20 (by decide) (fun c4 => ?_) (fun c4 => ?_)
    · have hf := it_f hf c4
      refine lv_aload_n hx hb dX6_callOfOutlet_28 rfl (lv_at hl 1 rfl) ?_
      refine lv_iconst (v := (0 : Int32)) hx hb dX6_callOfOutlet_29 kc_iconst_0 ?_
      refine lv_iload_n hx hb dX6_callOfOutlet_30 rfl (lv_at hl 0 rfl) ?_
      refine lv_iconst (v := (0 : Int32)) hx hb dX6_callOfOutlet_31 kc_iconst_0 ?_
      obtain ⟨v5, hv5, hf⟩ := it_b hf
      refine cQi (As := [.int (0 : Int32), .int v3, .int (0 : Int32)]) (rest := []) (q0 := 0) (ci := 6) S (c_X6_of l D cI cN z _ g (0 : Int32) v3 (0 : Int32) v5 hv5) (cwV 3 hts gX6_callOfOutlet_X6_of rfl rfl rfl (by decide +kernel) ⟨Nat.le_of_ble_eq_true rfl, Nat.le_of_ble_eq_true rfl⟩) hK hP hS hA hP rfl rfl rfl hl.1 rfl (Nat.le_of_ble_eq_true rfl) dX6_callOfOutlet_32 ⟨Nat.zero_le _, Nat.zero_le _⟩ (fun H locs hP hS => ?_)
      have e0 : v5 = r0 := (Option.some.inj hf)
      subst e0
      exact hret H locs ls _ dX6_callOfOutlet_35 rfl hS
    · have hf := it_t hf c4
      refine lv_bipush (v := (-6 : Int32)) hx hb dX6_callOfOutlet_23 kc_bipush_m6 ?_
      refine lv_goto (tgt := 35) hx hb dX6_callOfOutlet_25 (by decide) ?_
      have e0 : (-6 : Int32) = r0 := (Option.some.inj hf)
      subst e0
      exact hret H locs ls _ dX6_callOfOutlet_35 rfl hS
  · have hf := it_t hf c2
    refine lv_iconst (v := (-1 : Int32)) hx hb dX6_callOfOutlet_9 kc_iconst_m1 ?_
    have e0 : (-1 : Int32) = r0 := (Option.some.inj hf)
    subst e0
    exact hret H locs ls _ dX6_callOfOutlet_10 rfl hS
set_option maxRecDepth 100000 in
theorem c_X6_callOfOutlet (l : Launch) (D : va_G) (cI cN : ClassId) (z : Nat → Nat) (sz : Nat) (g : OS) (x1 : Int32) (r0 : Int32) (hf : fX6_callOfOutlet g x1 = some r0) : CtP l D cI cN yX6_callOfOutlet wsX6_callOfOutlet rm_X6_callOfOutlet [.ref (z 0), .int x1] (mdW cI z g) sz r0 := by
  refine mP (cc := cX6_callOfOutlet) (maxL := 3) (ty := .int) (by decide) rfl rfl (Nat.le_of_ble_eq_true rfl) ?_
  intro p e s m args below meth c Q S hK hP hS hret ls hl
  exact w_X6_callOfOutlet_0 S hK hret hf _ _ _ hP hS (lv_sub (show lv_has ls 3 [(0, .ref (z 0)), (1, .int x1)] from hl) [0, 1] rfl)
abbrev rm_X6_inletOf : Room := { frames := 1, cells := 0, slots := 0, locals := 23 }
set_option maxRecDepth 100000 in
set_option maxHeartbeats 4000000 in
theorem w_X6_inletOf_2 {p : Program} {l : Launch} {e : Env} {s : State} {m : MethodId} {args : Array Value} {below : List Frame} {meth : Method} {c : Code} {Q : State → Prop} {D : va_G} {cI cN : ClassId} {z : Nat → Nat} (S : CallFix p m c cX6_inletOf 3 s args wsX6_inletOf RX6) (hK : KN D cI cN s) {g : OS} {x1 : Int32} {r0 : Int32} (hret : ∀ (H : Heap) (locs : List Loc) (ls : Array Slot) (pc : Nat), decode cX6_inletOf pc = .ok (.ireturn, 1) → narrow .int (.int r0) = .int r0 → va_S (nwA s.heap.size) s.heap H locs → W p l e (headSpec wsX6_inletOf rm_X6_inletOf).room s m args below meth c H locs 0 0 Q (F0 m pc ls [.int r0])) : ∀ (k : Nat) (x2 : Int32), fX6_inletOf_2 g x1 k x2 = some r0 → ∀ (H : Heap) (locs : List Loc) (ls : Array Slot), va_P D vwCl (mdW cI z g) H → va_S (nwA s.heap.size) s.heap H locs → lv_has ls 3 [(0, .ref (z 0)), (1, .int x1), (2, .int x2)] → W p l e (headSpec wsX6_inletOf rm_X6_inletOf).room s m args below meth c H locs 0 0 Q (F0 m 2 ls []) := by
  obtain ⟨hx, hb, hml, hown, hts⟩ := id S
  have hA : ∀ q : Nat, s.heap.size ≤ q → nwA s.heap.size q := fun _ h => h
  intro k
  induction k with
  | zero => intro x2 hf; rw [fX6_inletOf_2_z] at hf; cases hf
  | succ k ih =>
    intro x2 hf H locs ls hP hS hl
    rw [fX6_inletOf_2_s] at hf
    refine lv_iload_n hx hb dX6_inletOf_2 rfl (lv_at hl 2 rfl) ?_
    refine lv_aload_n hx hb dX6_inletOf_3 rfl (lv_at hl 0 rfl) ?_
    refine lv_iconst (v := (0 : Int32)) hx hb dX6_inletOf_4 kc_iconst_0 ?_
    obtain ⟨v1, hv1, hf⟩ := it_b hf
    refine cQi (As := [.int (0 : Int32)]) (rest := [.int x2]) (q0 := 0) (ci := 6) S (c_X6_lines l D cI cN z _ g (0 : Int32) v1 hv1) (cwV 1 hts gX6_inletOf_X6_lines rfl rfl rfl (by decide +kernel) ⟨Nat.le_of_ble_eq_true rfl, Nat.le_of_ble_eq_true rfl⟩) hK hP hS hA hP rfl rfl rfl hl.1 rfl (Nat.le_of_ble_eq_true rfl) dX6_inletOf_5 ⟨Nat.zero_le _, Nat.zero_le _⟩ (fun H locs hP hS => ?_)
    refine lv_icmp_ge (tgt := 34) hx hb dX6_inletOf_8 (by decide) (fun c2 => ?_) (fun c2 => ?_)
    · have hf := it_t hf c2
      refine lv_iconst (v := (-1 : Int32)) hx hb dX6_inletOf_34 kc_iconst_m1 ?_
      have e0 : (-1 : Int32) = r0 := (Option.some.inj hf)
      subst e0
      exact hret H locs ls _ dX6_inletOf_35 rfl hS
    · have hf := it_f hf c2
      refine lv_iload_n hx hb dX6_inletOf_11 rfl (lv_at hl 1 rfl) ?_
      refine lv_if_lt (tgt := 28) hx hb dX6_inletOf_12 (by decide) (fun c3 => ?_) (fun c3 => ?_)
      · have hf := it_t hf c3
        refine lv_iinc (v := (x2 + (1 : Int32))) (lv' := [(2, .int (x2 + (1 : Int32))), (0, .ref (z 0)), (1, .int x1)]) hx hb dX6_inletOf_28 hl (k := 2) rfl rfl (by decide) rfl (fun ls hl => ?_)
        refine lv_goto (tgt := 2) hx hb dX6_inletOf_31 (by decide) ?_
        exact ih _ hf H locs ls hP hS (lv_sub hl [1, 2, 0] rfl)
      · have hf := it_f hf c3
        refine lv_aload_n hx hb dX6_inletOf_15 rfl (lv_at hl 0 rfl) ?_
        refine lv_iconst (v := (0 : Int32)) hx hb dX6_inletOf_16 kc_iconst_0 ?_
        refine lv_iload_n hx hb dX6_inletOf_17 rfl (lv_at hl 2 rfl) ?_
        refine lv_iconst (v := (0 : Int32)) hx hb dX6_inletOf_18 kc_iconst_0 ?_
        obtain ⟨v4, hv4, hf⟩ := it_b hf
        refine cQi (As := [.int (0 : Int32), .int x2, .int (0 : Int32)]) (rest := []) (q0 := 0) (ci := 6) S (c_X6_of l D cI cN z _ g (0 : Int32) x2 (0 : Int32) v4 hv4) (cwV 3 hts gX6_inletOf_X6_of rfl rfl rfl (by decide +kernel) ⟨Nat.le_of_ble_eq_true rfl, Nat.le_of_ble_eq_true rfl⟩) hK hP hS hA hP rfl rfl rfl hl.1 rfl (Nat.le_of_ble_eq_true rfl) dX6_inletOf_19 ⟨Nat.zero_le _, Nat.zero_le _⟩ (fun H locs hP hS => ?_)
        refine lv_iload_n hx hb dX6_inletOf_22 rfl (lv_at hl 1 rfl) ?_
        refine lv_icmp_ne (tgt := 28) hx hb dX6_inletOf_23 (by decide) (fun c5 => ?_) (fun c5 => ?_)
        · have hf := it_f hf c5
          refine lv_iinc (v := (x2 + (1 : Int32))) (lv' := [(2, .int (x2 + (1 : Int32))), (0, .ref (z 0)), (1, .int x1)]) hx hb dX6_inletOf_28 hl (k := 2) rfl rfl (by decide) rfl (fun ls hl => ?_)
          refine lv_goto (tgt := 2) hx hb dX6_inletOf_31 (by decide) ?_
          exact ih _ hf H locs ls hP hS (lv_sub hl [1, 2, 0] rfl)
        · have hf := it_t hf c5
          refine lv_iload_n hx hb dX6_inletOf_26 rfl (lv_at hl 2 rfl) ?_
          have e0 : x2 = r0 := (Option.some.inj hf)
          subst e0
          exact hret H locs ls _ dX6_inletOf_27 rfl hS
set_option maxRecDepth 100000 in
set_option maxHeartbeats 4000000 in
theorem w_X6_inletOf_0 {p : Program} {l : Launch} {e : Env} {s : State} {m : MethodId} {args : Array Value} {below : List Frame} {meth : Method} {c : Code} {Q : State → Prop} {D : va_G} {cI cN : ClassId} {z : Nat → Nat} (S : CallFix p m c cX6_inletOf 3 s args wsX6_inletOf RX6) (hK : KN D cI cN s) {g : OS} {x1 : Int32} {r0 : Int32} (hret : ∀ (H : Heap) (locs : List Loc) (ls : Array Slot) (pc : Nat), decode cX6_inletOf pc = .ok (.ireturn, 1) → narrow .int (.int r0) = .int r0 → va_S (nwA s.heap.size) s.heap H locs → W p l e (headSpec wsX6_inletOf rm_X6_inletOf).room s m args below meth c H locs 0 0 Q (F0 m pc ls [.int r0])) (hf : fX6_inletOf g x1 = some r0) (H : Heap) (locs : List Loc) (ls : Array Slot) (hP : va_P D vwCl (mdW cI z g) H) (hS : va_S (nwA s.heap.size) s.heap H locs) (hl : lv_has ls 3 [(0, .ref (z 0)), (1, .int x1)]) : W p l e (headSpec wsX6_inletOf rm_X6_inletOf).room s m args below meth c H locs 0 0 Q (F0 m 0 ls []) := by
  obtain ⟨hx, hb, hml, hown, hts⟩ := id S
  have hA : ∀ q : Nat, s.heap.size ≤ q → nwA s.heap.size q := fun _ h => h
  unfold fX6_inletOf at hf
  refine lv_iconst (v := (0 : Int32)) hx hb dX6_inletOf_0 kc_iconst_0 ?_
  refine lv_istore_n (lv' := [(2, .int (0 : Int32)), (0, .ref (z 0)), (1, .int x1)]) hx hb dX6_inletOf_1 rfl hl (by decide) rfl (fun ls hl => ?_)
  exact w_X6_inletOf_2 S hK hret _ _ hf H locs ls hP hS (lv_sub hl [1, 2, 0] rfl)
set_option maxRecDepth 100000 in
theorem c_X6_inletOf (l : Launch) (D : va_G) (cI cN : ClassId) (z : Nat → Nat) (sz : Nat) (g : OS) (x1 : Int32) (r0 : Int32) (hf : fX6_inletOf g x1 = some r0) : CtP l D cI cN yX6_inletOf wsX6_inletOf rm_X6_inletOf [.ref (z 0), .int x1] (mdW cI z g) sz r0 := by
  refine mP (cc := cX6_inletOf) (maxL := 3) (ty := .int) (by decide) rfl rfl (Nat.le_of_ble_eq_true rfl) ?_
  intro p e s m args below meth c Q S hK hP hS hret ls hl
  exact w_X6_inletOf_0 S hK hret hf _ _ _ hP hS (lv_sub (show lv_has ls 3 [(0, .ref (z 0)), (1, .int x1)] from hl) [0, 1] rfl)
abbrev rm_X6_outletOf : Room := { frames := 2, cells := 0, slots := 0, locals := 45 }
set_option maxRecDepth 100000 in
set_option maxHeartbeats 4000000 in
theorem w_X6_outletOf_0 {p : Program} {l : Launch} {e : Env} {s : State} {m : MethodId} {args : Array Value} {below : List Frame} {meth : Method} {c : Code} {Q : State → Prop} {D : va_G} {cI cN : ClassId} {z : Nat → Nat} (S : CallFix p m c cX6_outletOf 3 s args wsX6_outletOf RX6) (hK : KN D cI cN s) {g : OS} {x1 : Int32} {r0 : Int32} (hret : ∀ (H : Heap) (locs : List Loc) (ls : Array Slot) (pc : Nat), decode cX6_outletOf pc = .ok (.ireturn, 1) → narrow .int (.int r0) = .int r0 → va_S (nwA s.heap.size) s.heap H locs → W p l e (headSpec wsX6_outletOf rm_X6_outletOf).room s m args below meth c H locs 0 0 Q (F0 m pc ls [.int r0])) (hf : fX6_outletOf g x1 = some r0) (H : Heap) (locs : List Loc) (ls : Array Slot) (hP : va_P D vwCl (mdW cI z g) H) (hS : va_S (nwA s.heap.size) s.heap H locs) (hl : lv_has ls 3 [(0, .ref (z 0)), (1, .int x1)]) : W p l e (headSpec wsX6_outletOf rm_X6_outletOf).room s m args below meth c H locs 0 0 Q (F0 m 0 ls []) := by
  obtain ⟨hx, hb, hml, hown, hts⟩ := id S
  have hA : ∀ q : Nat, s.heap.size ≤ q → nwA s.heap.size q := fun _ h => h
  unfold fX6_outletOf at hf
  refine lv_aload_n hx hb dX6_outletOf_0 rfl (lv_at hl 0 rfl) ?_
  refine lv_iload_n hx hb dX6_outletOf_1 rfl (lv_at hl 1 rfl) ?_
  obtain ⟨v1, hv1, hf⟩ := it_b hf
  refine cQi (As := [.int x1]) (rest := []) (q0 := 0) (ci := 6) S (c_X6_inletOf l D cI cN z _ g x1 v1 hv1) (cwV 1 hts gX6_outletOf_X6_inletOf rfl rfl rfl (by decide +kernel) ⟨Nat.le_of_ble_eq_true rfl, Nat.le_of_ble_eq_true rfl⟩) hK hP hS hA hP rfl rfl rfl hl.1 rfl (Nat.le_of_ble_eq_true rfl) dX6_outletOf_2 ⟨Nat.zero_le _, Nat.zero_le _⟩ (fun H locs hP hS => ?_)
  refine lv_istore_n (lv' := [(2, .int v1), (0, .ref (z 0)), (1, .int x1)]) hx hb dX6_outletOf_5 rfl hl (by decide) rfl (fun ls hl => ?_)
  refine lv_iload_n hx hb dX6_outletOf_6 rfl (lv_at hl 0 rfl) ?_
  refine lv_iconst (v := (-1 : Int32)) hx hb dX6_outletOf_7 kc_iconst_m1 ?_
  refine lv_icmp_ne (tgt := 15) hx hb dX6_outletOf_8 (by decide) (fun c2 => ?_) (fun c2 => ?_)
  · have hf := it_f hf c2
    refine lv_aload_n hx hb dX6_outletOf_15 rfl (lv_at hl 1 rfl) ?_
    refine lv_iconst (v := (0 : Int32)) hx hb dX6_outletOf_16 kc_iconst_0 ?_
    refine lv_iload_n hx hb dX6_outletOf_17 rfl (lv_at hl 0 rfl) ?_
    refine lv_iconst (v := (1 : Int32)) hx hb dX6_outletOf_18 kc_iconst_1 ?_
    obtain ⟨v3, hv3, hf⟩ := it_b hf
    refine cQi (As := [.int (0 : Int32), .int v1, .int (1 : Int32)]) (rest := []) (q0 := 0) (ci := 6) S (c_X6_of l D cI cN z _ g (0 : Int32) v1 (1 : Int32) v3 hv3) (cwV 3 hts gX6_outletOf_X6_of rfl rfl rfl (by decide +kernel) ⟨Nat.le_of_ble_eq_true rfl, Nat.le_of_ble_eq_true rfl⟩) hK hP hS hA hP rfl rfl rfl hl.1 rfl (Nat.le_of_ble_eq_true rfl) dX6_outletOf_19 ⟨Nat.zero_le _, Nat.zero_le _⟩ (fun H locs hP hS => ?_)
    have e0 : v3 = r0 := (Option.some.inj hf)
    subst e0
    exact hret H locs ls _ dX6_outletOf_22 rfl hS
  · have hf := it_t hf c2
    refine lv_iconst (v := (-1 : Int32)) hx hb dX6_outletOf_11 kc_iconst_m1 ?_
    refine lv_goto (tgt := 22) hx hb dX6_outletOf_12 (by decide) ?_
    have e0 : (-1 : Int32) = r0 := (Option.some.inj hf)
    subst e0
    exact hret H locs ls _ dX6_outletOf_22 rfl hS
set_option maxRecDepth 100000 in
theorem c_X6_outletOf (l : Launch) (D : va_G) (cI cN : ClassId) (z : Nat → Nat) (sz : Nat) (g : OS) (x1 : Int32) (r0 : Int32) (hf : fX6_outletOf g x1 = some r0) : CtP l D cI cN yX6_outletOf wsX6_outletOf rm_X6_outletOf [.ref (z 0), .int x1] (mdW cI z g) sz r0 := by
  refine mP (cc := cX6_outletOf) (maxL := 3) (ty := .int) (by decide) rfl rfl (Nat.le_of_ble_eq_true rfl) ?_
  intro p e s m args below meth c Q S hK hP hS hret ls hl
  exact w_X6_outletOf_0 S hK hret hf _ _ _ hP hS (lv_sub (show lv_has ls 3 [(0, .ref (z 0)), (1, .int x1)] from hl) [0, 1] rfl)
abbrev rm_X6_middleOf : Room := { frames := 2, cells := 0, slots := 0, locals := 45 }
set_option maxRecDepth 100000 in
set_option maxHeartbeats 4000000 in
theorem w_X6_middleOf_0 {p : Program} {l : Launch} {e : Env} {s : State} {m : MethodId} {args : Array Value} {below : List Frame} {meth : Method} {c : Code} {Q : State → Prop} {D : va_G} {cI cN : ClassId} {z : Nat → Nat} (S : CallFix p m c cX6_middleOf 3 s args wsX6_middleOf RX6) (hK : KN D cI cN s) {g : OS} {x1 : Int32} {r0 : Int32} (hret : ∀ (H : Heap) (locs : List Loc) (ls : Array Slot) (pc : Nat), decode cX6_middleOf pc = .ok (.ireturn, 1) → narrow .int (.int r0) = .int r0 → va_S (nwA s.heap.size) s.heap H locs → W p l e (headSpec wsX6_middleOf rm_X6_middleOf).room s m args below meth c H locs 0 0 Q (F0 m pc ls [.int r0])) (hf : fX6_middleOf g x1 = some r0) (H : Heap) (locs : List Loc) (ls : Array Slot) (hP : va_P D vwCl (mdW cI z g) H) (hS : va_S (nwA s.heap.size) s.heap H locs) (hl : lv_has ls 3 [(0, .ref (z 0)), (1, .int x1)]) : W p l e (headSpec wsX6_middleOf rm_X6_middleOf).room s m args below meth c H locs 0 0 Q (F0 m 0 ls []) := by
  obtain ⟨hx, hb, hml, hown, hts⟩ := id S
  have hA : ∀ q : Nat, s.heap.size ≤ q → nwA s.heap.size q := fun _ h => h
  unfold fX6_middleOf at hf
  refine lv_aload_n hx hb dX6_middleOf_0 rfl (lv_at hl 0 rfl) ?_
  refine lv_iload_n hx hb dX6_middleOf_1 rfl (lv_at hl 1 rfl) ?_
  obtain ⟨v1, hv1, hf⟩ := it_b hf
  refine cQi (As := [.int x1]) (rest := []) (q0 := 0) (ci := 6) S (c_X6_inletOf l D cI cN z _ g x1 v1 hv1) (cwV 1 hts gX6_middleOf_X6_inletOf rfl rfl rfl (by decide +kernel) ⟨Nat.le_of_ble_eq_true rfl, Nat.le_of_ble_eq_true rfl⟩) hK hP hS hA hP rfl rfl rfl hl.1 rfl (Nat.le_of_ble_eq_true rfl) dX6_middleOf_2 ⟨Nat.zero_le _, Nat.zero_le _⟩ (fun H locs hP hS => ?_)
  refine lv_istore_n (lv' := [(2, .int v1), (0, .ref (z 0)), (1, .int x1)]) hx hb dX6_middleOf_5 rfl hl (by decide) rfl (fun ls hl => ?_)
  refine lv_iload_n hx hb dX6_middleOf_6 rfl (lv_at hl 0 rfl) ?_
  refine lv_iconst (v := (-1 : Int32)) hx hb dX6_middleOf_7 kc_iconst_m1 ?_
  refine lv_icmp_ne (tgt := 15) hx hb dX6_middleOf_8 (by decide) (fun c2 => ?_) (fun c2 => ?_)
  · have hf := it_f hf c2
    refine lv_aload_n hx hb dX6_middleOf_15 rfl (lv_at hl 1 rfl) ?_
    refine lv_iconst (v := (0 : Int32)) hx hb dX6_middleOf_16 kc_iconst_0 ?_
    refine lv_iload_n hx hb dX6_middleOf_17 rfl (lv_at hl 0 rfl) ?_
    refine lv_iconst (v := (2 : Int32)) hx hb dX6_middleOf_18 kc_iconst_2 ?_
    obtain ⟨v3, hv3, hf⟩ := it_b hf
    refine cQi (As := [.int (0 : Int32), .int v1, .int (2 : Int32)]) (rest := []) (q0 := 0) (ci := 6) S (c_X6_of l D cI cN z _ g (0 : Int32) v1 (2 : Int32) v3 hv3) (cwV 3 hts gX6_middleOf_X6_of rfl rfl rfl (by decide +kernel) ⟨Nat.le_of_ble_eq_true rfl, Nat.le_of_ble_eq_true rfl⟩) hK hP hS hA hP rfl rfl rfl hl.1 rfl (Nat.le_of_ble_eq_true rfl) dX6_middleOf_19 ⟨Nat.zero_le _, Nat.zero_le _⟩ (fun H locs hP hS => ?_)
    have e0 : v3 = r0 := (Option.some.inj hf)
    subst e0
    exact hret H locs ls _ dX6_middleOf_22 rfl hS
  · have hf := it_t hf c2
    refine lv_iconst (v := (-1 : Int32)) hx hb dX6_middleOf_11 kc_iconst_m1 ?_
    refine lv_goto (tgt := 22) hx hb dX6_middleOf_12 (by decide) ?_
    have e0 : (-1 : Int32) = r0 := (Option.some.inj hf)
    subst e0
    exact hret H locs ls _ dX6_middleOf_22 rfl hS
set_option maxRecDepth 100000 in
theorem c_X6_middleOf (l : Launch) (D : va_G) (cI cN : ClassId) (z : Nat → Nat) (sz : Nat) (g : OS) (x1 : Int32) (r0 : Int32) (hf : fX6_middleOf g x1 = some r0) : CtP l D cI cN yX6_middleOf wsX6_middleOf rm_X6_middleOf [.ref (z 0), .int x1] (mdW cI z g) sz r0 := by
  refine mP (cc := cX6_middleOf) (maxL := 3) (ty := .int) (by decide) rfl rfl (Nat.le_of_ble_eq_true rfl) ?_
  intro p e s m args below meth c Q S hK hP hS hret ls hl
  exact w_X6_middleOf_0 S hK hret hf _ _ _ hP hS (lv_sub (show lv_has ls 3 [(0, .ref (z 0)), (1, .int x1)] from hl) [0, 1] rfl)
abbrev rm_X6_onFirstLink : Room := { frames := 2, cells := 0, slots := 0, locals := 47 }
set_option maxRecDepth 100000 in
set_option maxHeartbeats 4000000 in
theorem w_X6_onFirstLink_0 {p : Program} {l : Launch} {e : Env} {s : State} {m : MethodId} {args : Array Value} {below : List Frame} {meth : Method} {c : Code} {Q : State → Prop} {D : va_G} {cI cN : ClassId} {z : Nat → Nat} (S : CallFix p m c cX6_onFirstLink 4 s args wsX6_onFirstLink RX6) (hK : KN D cI cN s) {g : OS} {x1 : Int32} {x2 : Int32} {r0 : Int32} (hret : ∀ (H : Heap) (locs : List Loc) (ls : Array Slot) (pc : Nat), decode cX6_onFirstLink pc = .ok (.ireturn, 1) → narrow .int (.int r0) = .int r0 → va_S (nwA s.heap.size) s.heap H locs → W p l e (headSpec wsX6_onFirstLink rm_X6_onFirstLink).room s m args below meth c H locs 0 0 Q (F0 m pc ls [.int r0])) (hf : fX6_onFirstLink g x1 x2 = some r0) (H : Heap) (locs : List Loc) (ls : Array Slot) (hP : va_P D vwCl (mdW cI z g) H) (hS : va_S (nwA s.heap.size) s.heap H locs) (hl : lv_has ls 4 [(0, .ref (z 0)), (1, .int x1), (2, .int x2)]) : W p l e (headSpec wsX6_onFirstLink rm_X6_onFirstLink).room s m args below meth c H locs 0 0 Q (F0 m 0 ls []) := by
  obtain ⟨hx, hb, hml, hown, hts⟩ := id S
  have hA : ∀ q : Nat, s.heap.size ≤ q → nwA s.heap.size q := fun _ h => h
  unfold fX6_onFirstLink at hf
  refine lv_aload_n hx hb dX6_onFirstLink_0 rfl (lv_at hl 0 rfl) ?_
  refine lv_iload_n hx hb dX6_onFirstLink_1 rfl (lv_at hl 1 rfl) ?_
  obtain ⟨v1, hv1, hf⟩ := it_b hf
  refine cQi (As := [.int x1]) (rest := []) (q0 := 0) (ci := 6) S (c_X6_isBoard l D cI cN z _ g x1 v1 hv1) (cwV 1 hts gX6_onFirstLink_X6_isBoard rfl rfl rfl (by decide +kernel) ⟨Nat.le_of_ble_eq_true rfl, Nat.le_of_ble_eq_true rfl⟩) hK hP hS hA hP rfl rfl rfl hl.1 rfl (Nat.le_of_ble_eq_true rfl) dX6_onFirstLink_2 ⟨Nat.zero_le _, Nat.zero_le _⟩ (fun H locs hP hS => ?_)
  refine lv_if_eq (tgt := 17) hx hb dX6_onFirstLink_5 (by decide) (fun c2 => ?_) (fun c2 => ?_)
  · have hf := it_t hf c2
    refine lv_iconst (v := (-1 : Int32)) hx hb dX6_onFirstLink_17 kc_iconst_m1 ?_
    have e0 : (-1 : Int32) = r0 := (Option.some.inj hf)
    subst e0
    exact hret H locs ls _ dX6_onFirstLink_18 rfl hS
  · have hf := it_f hf c2
    refine lv_aload_n hx hb dX6_onFirstLink_8 rfl (lv_at hl 0 rfl) ?_
    refine lv_iconst (v := (0 : Int32)) hx hb dX6_onFirstLink_9 kc_iconst_0 ?_
    refine lv_iload_n hx hb dX6_onFirstLink_10 rfl (lv_at hl 2 rfl) ?_
    obtain ⟨v3, hv3, hf⟩ := it_b hf
    refine cQi (As := [.int (0 : Int32), .int x2]) (rest := []) (q0 := 0) (ci := 6) S (c_X6_isMiddle l D cI cN z _ g (0 : Int32) x2 v3 hv3) (cwV 2 hts gX6_onFirstLink_X6_isMiddle rfl rfl rfl (by decide +kernel) ⟨Nat.le_of_ble_eq_true rfl, Nat.le_of_ble_eq_true rfl⟩) hK hP hS hA hP rfl rfl rfl hl.1 rfl (Nat.le_of_ble_eq_true rfl) dX6_onFirstLink_11 ⟨Nat.zero_le _, Nat.zero_le _⟩ (fun H locs hP hS => ?_)
    refine lv_if_ne (tgt := 19) hx hb dX6_onFirstLink_14 (by decide) (fun c4 => ?_) (fun c4 => ?_)
    · have hf := it_f hf c4
      refine lv_aload_n hx hb dX6_onFirstLink_19 rfl (lv_at hl 0 rfl) ?_
      refine lv_iconst (v := (0 : Int32)) hx hb dX6_onFirstLink_20 kc_iconst_0 ?_
      refine lv_iload_n hx hb dX6_onFirstLink_21 rfl (lv_at hl 1 rfl) ?_
      refine lv_iload_n hx hb dX6_onFirstLink_22 rfl (lv_at hl 2 rfl) ?_
      obtain ⟨v5, hv5, hf⟩ := it_b hf
      refine cQi (As := [.int (0 : Int32), .int x1, .int x2]) (rest := []) (q0 := 0) (ci := 6) S (c_X6_onFirst l D cI cN z _ g (0 : Int32) x1 x2 v5 hv5) (cwV 3 hts gX6_onFirstLink_X6_onFirst rfl rfl rfl (by decide +kernel) ⟨Nat.le_of_ble_eq_true rfl, Nat.le_of_ble_eq_true rfl⟩) hK hP hS hA hP rfl rfl rfl hl.1 rfl (Nat.le_of_ble_eq_true rfl) dX6_onFirstLink_23 ⟨Nat.zero_le _, Nat.zero_le _⟩ (fun H locs hP hS => ?_)
      refine lv_istore_n (lv' := [(3, .int v5), (0, .ref (z 0)), (1, .int x1), (2, .int x2)]) hx hb dX6_onFirstLink_26 rfl hl (by decide) rfl (fun ls hl => ?_)
      refine lv_iload_n hx hb dX6_onFirstLink_27 rfl (lv_at hl 0 rfl) ?_
      refine lv_iconst (v := (-1 : Int32)) hx hb dX6_onFirstLink_28 kc_iconst_m1 ?_
      refine lv_icmp_ne (tgt := 37) hx hb dX6_onFirstLink_29 (by decide) (fun c6 => ?_) (fun c6 => ?_)
      · have hf := it_f hf c6
        refine lv_aload_n hx hb dX6_onFirstLink_37 rfl (lv_at hl 1 rfl) ?_
        refine lv_iconst (v := (0 : Int32)) hx hb dX6_onFirstLink_38 kc_iconst_0 ?_
        refine lv_iload_n hx hb dX6_onFirstLink_39 rfl (lv_at hl 0 rfl) ?_
        refine lv_iconst (v := (0 : Int32)) hx hb dX6_onFirstLink_40 kc_iconst_0 ?_
        obtain ⟨v7, hv7, hf⟩ := it_b hf
        refine cQi (As := [.int (0 : Int32), .int v5, .int (0 : Int32)]) (rest := []) (q0 := 0) (ci := 6) S (c_X6_of l D cI cN z _ g (0 : Int32) v5 (0 : Int32) v7 hv7) (cwV 3 hts gX6_onFirstLink_X6_of rfl rfl rfl (by decide +kernel) ⟨Nat.le_of_ble_eq_true rfl, Nat.le_of_ble_eq_true rfl⟩) hK hP hS hA hP rfl rfl rfl hl.1 rfl (Nat.le_of_ble_eq_true rfl) dX6_onFirstLink_41 ⟨Nat.zero_le _, Nat.zero_le _⟩ (fun H locs hP hS => ?_)
        have e0 : v7 = r0 := (Option.some.inj hf)
        subst e0
        exact hret H locs ls _ dX6_onFirstLink_44 rfl hS
      · have hf := it_t hf c6
        refine lv_bipush (v := (-6 : Int32)) hx hb dX6_onFirstLink_32 kc_bipush_m6 ?_
        refine lv_goto (tgt := 44) hx hb dX6_onFirstLink_34 (by decide) ?_
        have e0 : (-6 : Int32) = r0 := (Option.some.inj hf)
        subst e0
        exact hret H locs ls _ dX6_onFirstLink_44 rfl hS
    · have hf := it_t hf c4
      refine lv_iconst (v := (-1 : Int32)) hx hb dX6_onFirstLink_17 kc_iconst_m1 ?_
      have e0 : (-1 : Int32) = r0 := (Option.some.inj hf)
      subst e0
      exact hret H locs ls _ dX6_onFirstLink_18 rfl hS
set_option maxRecDepth 100000 in
theorem c_X6_onFirstLink (l : Launch) (D : va_G) (cI cN : ClassId) (z : Nat → Nat) (sz : Nat) (g : OS) (x1 : Int32) (x2 : Int32) (r0 : Int32) (hf : fX6_onFirstLink g x1 x2 = some r0) : CtP l D cI cN yX6_onFirstLink wsX6_onFirstLink rm_X6_onFirstLink [.ref (z 0), .int x1, .int x2] (mdW cI z g) sz r0 := by
  refine mP (cc := cX6_onFirstLink) (maxL := 4) (ty := .int) (by decide) rfl rfl (Nat.le_of_ble_eq_true rfl) ?_
  intro p e s m args below meth c Q S hK hP hS hret ls hl
  exact w_X6_onFirstLink_0 S hK hret hf _ _ _ hP hS (lv_sub (show lv_has ls 4 [(0, .ref (z 0)), (1, .int x1), (2, .int x2)] from hl) [0, 1, 2] rfl)
abbrev rm_X6_onLastLink : Room := { frames := 2, cells := 0, slots := 0, locals := 47 }
set_option maxRecDepth 100000 in
set_option maxHeartbeats 4000000 in
theorem w_X6_onLastLink_0 {p : Program} {l : Launch} {e : Env} {s : State} {m : MethodId} {args : Array Value} {below : List Frame} {meth : Method} {c : Code} {Q : State → Prop} {D : va_G} {cI cN : ClassId} {z : Nat → Nat} (S : CallFix p m c cX6_onLastLink 4 s args wsX6_onLastLink RX6) (hK : KN D cI cN s) {g : OS} {x1 : Int32} {x2 : Int32} {r0 : Int32} (hret : ∀ (H : Heap) (locs : List Loc) (ls : Array Slot) (pc : Nat), decode cX6_onLastLink pc = .ok (.ireturn, 1) → narrow .int (.int r0) = .int r0 → va_S (nwA s.heap.size) s.heap H locs → W p l e (headSpec wsX6_onLastLink rm_X6_onLastLink).room s m args below meth c H locs 0 0 Q (F0 m pc ls [.int r0])) (hf : fX6_onLastLink g x1 x2 = some r0) (H : Heap) (locs : List Loc) (ls : Array Slot) (hP : va_P D vwCl (mdW cI z g) H) (hS : va_S (nwA s.heap.size) s.heap H locs) (hl : lv_has ls 4 [(0, .ref (z 0)), (1, .int x1), (2, .int x2)]) : W p l e (headSpec wsX6_onLastLink rm_X6_onLastLink).room s m args below meth c H locs 0 0 Q (F0 m 0 ls []) := by
  obtain ⟨hx, hb, hml, hown, hts⟩ := id S
  have hA : ∀ q : Nat, s.heap.size ≤ q → nwA s.heap.size q := fun _ h => h
  unfold fX6_onLastLink at hf
  refine lv_aload_n hx hb dX6_onLastLink_0 rfl (lv_at hl 0 rfl) ?_
  refine lv_iload_n hx hb dX6_onLastLink_1 rfl (lv_at hl 2 rfl) ?_
  obtain ⟨v1, hv1, hf⟩ := it_b hf
  refine cQi (As := [.int x2]) (rest := []) (q0 := 0) (ci := 6) S (c_X6_isBoard l D cI cN z _ g x2 v1 hv1) (cwV 1 hts gX6_onLastLink_X6_isBoard rfl rfl rfl (by decide +kernel) ⟨Nat.le_of_ble_eq_true rfl, Nat.le_of_ble_eq_true rfl⟩) hK hP hS hA hP rfl rfl rfl hl.1 rfl (Nat.le_of_ble_eq_true rfl) dX6_onLastLink_2 ⟨Nat.zero_le _, Nat.zero_le _⟩ (fun H locs hP hS => ?_)
  refine lv_if_eq (tgt := 17) hx hb dX6_onLastLink_5 (by decide) (fun c2 => ?_) (fun c2 => ?_)
  · have hf := it_t hf c2
    refine lv_iconst (v := (-1 : Int32)) hx hb dX6_onLastLink_17 kc_iconst_m1 ?_
    have e0 : (-1 : Int32) = r0 := (Option.some.inj hf)
    subst e0
    exact hret H locs ls _ dX6_onLastLink_18 rfl hS
  · have hf := it_f hf c2
    refine lv_aload_n hx hb dX6_onLastLink_8 rfl (lv_at hl 0 rfl) ?_
    refine lv_iconst (v := (0 : Int32)) hx hb dX6_onLastLink_9 kc_iconst_0 ?_
    refine lv_iload_n hx hb dX6_onLastLink_10 rfl (lv_at hl 1 rfl) ?_
    obtain ⟨v3, hv3, hf⟩ := it_b hf
    refine cQi (As := [.int (0 : Int32), .int x1]) (rest := []) (q0 := 0) (ci := 6) S (c_X6_isMiddle l D cI cN z _ g (0 : Int32) x1 v3 hv3) (cwV 2 hts gX6_onLastLink_X6_isMiddle rfl rfl rfl (by decide +kernel) ⟨Nat.le_of_ble_eq_true rfl, Nat.le_of_ble_eq_true rfl⟩) hK hP hS hA hP rfl rfl rfl hl.1 rfl (Nat.le_of_ble_eq_true rfl) dX6_onLastLink_11 ⟨Nat.zero_le _, Nat.zero_le _⟩ (fun H locs hP hS => ?_)
    refine lv_if_ne (tgt := 19) hx hb dX6_onLastLink_14 (by decide) (fun c4 => ?_) (fun c4 => ?_)
    · have hf := it_f hf c4
      refine lv_aload_n hx hb dX6_onLastLink_19 rfl (lv_at hl 0 rfl) ?_
      refine lv_iconst (v := (0 : Int32)) hx hb dX6_onLastLink_20 kc_iconst_0 ?_
      refine lv_iload_n hx hb dX6_onLastLink_21 rfl (lv_at hl 1 rfl) ?_
      refine lv_iload_n hx hb dX6_onLastLink_22 rfl (lv_at hl 2 rfl) ?_
      obtain ⟨v5, hv5, hf⟩ := it_b hf
      refine cQi (As := [.int (0 : Int32), .int x1, .int x2]) (rest := []) (q0 := 0) (ci := 6) S (c_X6_onLast l D cI cN z _ g (0 : Int32) x1 x2 v5 hv5) (cwV 3 hts gX6_onLastLink_X6_onLast rfl rfl rfl (by decide +kernel) ⟨Nat.le_of_ble_eq_true rfl, Nat.le_of_ble_eq_true rfl⟩) hK hP hS hA hP rfl rfl rfl hl.1 rfl (Nat.le_of_ble_eq_true rfl) dX6_onLastLink_23 ⟨Nat.zero_le _, Nat.zero_le _⟩ (fun H locs hP hS => ?_)
      refine lv_istore_n (lv' := [(3, .int v5), (0, .ref (z 0)), (1, .int x1), (2, .int x2)]) hx hb dX6_onLastLink_26 rfl hl (by decide) rfl (fun ls hl => ?_)
      refine lv_iload_n hx hb dX6_onLastLink_27 rfl (lv_at hl 0 rfl) ?_
      refine lv_iconst (v := (-1 : Int32)) hx hb dX6_onLastLink_28 kc_iconst_m1 ?_
      refine lv_icmp_ne (tgt := 37) hx hb dX6_onLastLink_29 (by decide) (fun c6 => ?_) (fun c6 => ?_)
      · have hf := it_f hf c6
        refine lv_aload_n hx hb dX6_onLastLink_37 rfl (lv_at hl 1 rfl) ?_
        refine lv_iconst (v := (0 : Int32)) hx hb dX6_onLastLink_38 kc_iconst_0 ?_
        refine lv_iload_n hx hb dX6_onLastLink_39 rfl (lv_at hl 0 rfl) ?_
        refine lv_iconst (v := (0 : Int32)) hx hb dX6_onLastLink_40 kc_iconst_0 ?_
        obtain ⟨v7, hv7, hf⟩ := it_b hf
        refine cQi (As := [.int (0 : Int32), .int v5, .int (0 : Int32)]) (rest := []) (q0 := 0) (ci := 6) S (c_X6_of l D cI cN z _ g (0 : Int32) v5 (0 : Int32) v7 hv7) (cwV 3 hts gX6_onLastLink_X6_of rfl rfl rfl (by decide +kernel) ⟨Nat.le_of_ble_eq_true rfl, Nat.le_of_ble_eq_true rfl⟩) hK hP hS hA hP rfl rfl rfl hl.1 rfl (Nat.le_of_ble_eq_true rfl) dX6_onLastLink_41 ⟨Nat.zero_le _, Nat.zero_le _⟩ (fun H locs hP hS => ?_)
        have e0 : v7 = r0 := (Option.some.inj hf)
        subst e0
        exact hret H locs ls _ dX6_onLastLink_44 rfl hS
      · have hf := it_t hf c6
        refine lv_bipush (v := (-6 : Int32)) hx hb dX6_onLastLink_32 kc_bipush_m6 ?_
        refine lv_goto (tgt := 44) hx hb dX6_onLastLink_34 (by decide) ?_
        have e0 : (-6 : Int32) = r0 := (Option.some.inj hf)
        subst e0
        exact hret H locs ls _ dX6_onLastLink_44 rfl hS
    · have hf := it_t hf c4
      refine lv_iconst (v := (-1 : Int32)) hx hb dX6_onLastLink_17 kc_iconst_m1 ?_
      have e0 : (-1 : Int32) = r0 := (Option.some.inj hf)
      subst e0
      exact hret H locs ls _ dX6_onLastLink_18 rfl hS
set_option maxRecDepth 100000 in
theorem c_X6_onLastLink (l : Launch) (D : va_G) (cI cN : ClassId) (z : Nat → Nat) (sz : Nat) (g : OS) (x1 : Int32) (x2 : Int32) (r0 : Int32) (hf : fX6_onLastLink g x1 x2 = some r0) : CtP l D cI cN yX6_onLastLink wsX6_onLastLink rm_X6_onLastLink [.ref (z 0), .int x1, .int x2] (mdW cI z g) sz r0 := by
  refine mP (cc := cX6_onLastLink) (maxL := 4) (ty := .int) (by decide) rfl rfl (Nat.le_of_ble_eq_true rfl) ?_
  intro p e s m args below meth c Q S hK hP hS hret ls hl
  exact w_X6_onLastLink_0 S hK hret hf _ _ _ hP hS (lv_sub (show lv_has ls 4 [(0, .ref (z 0)), (1, .int x1), (2, .int x2)] from hl) [0, 1, 2] rfl)
abbrev rm_X6_load : Room := { frames := 2, cells := 0, slots := 0, locals := 47 }
set_option maxRecDepth 100000 in
set_option maxHeartbeats 4000000 in
theorem w_X6_load_0 {p : Program} {l : Launch} {e : Env} {s : State} {m : MethodId} {args : Array Value} {below : List Frame} {meth : Method} {c : Code} {Q : State → Prop} {D : va_G} {cI cN : ClassId} {z : Nat → Nat} (S : CallFix p m c cX6_load 2 s args wsX6_load RX6) (hK : KN D cI cN s) {g : OS} {x1 : Int32} {r0 : Int32} (hret : ∀ (H : Heap) (locs : List Loc) (ls : Array Slot) (pc : Nat), decode cX6_load pc = .ok (.ireturn, 1) → narrow .int (.int r0) = .int r0 → va_S (nwA s.heap.size) s.heap H locs → W p l e (headSpec wsX6_load rm_X6_load).room s m args below meth c H locs 0 0 Q (F0 m pc ls [.int r0])) (hf : fX6_load g x1 = some r0) (H : Heap) (locs : List Loc) (ls : Array Slot) (hP : va_P D vwCl (mdW cI z g) H) (hS : va_S (nwA s.heap.size) s.heap H locs) (hl : lv_has ls 2 [(0, .ref (z 0)), (1, .int x1)]) : W p l e (headSpec wsX6_load rm_X6_load).room s m args below meth c H locs 0 0 Q (F0 m 0 ls []) := by
  obtain ⟨hx, hb, hml, hown, hts⟩ := id S
  have hA : ∀ q : Nat, s.heap.size ≤ q → nwA s.heap.size q := fun _ h => h
  unfold fX6_load at hf
  refine lv_aload_n hx hb dX6_load_0 rfl (lv_at hl 0 rfl) ?_
  refine lv_iconst (v := (0 : Int32)) hx hb dX6_load_1 kc_iconst_0 ?_
  refine lv_iload_n hx hb dX6_load_2 rfl (lv_at hl 1 rfl) ?_
  obtain ⟨v1, hv1, hf⟩ := it_b hf
  refine cQi (As := [.int (0 : Int32), .int x1]) (rest := []) (q0 := 0) (ci := 6) S (c_X6_isMiddle l D cI cN z _ g (0 : Int32) x1 v1 hv1) (cwV 2 hts gX6_load_X6_isMiddle rfl rfl rfl (by decide +kernel) ⟨Nat.le_of_ble_eq_true rfl, Nat.le_of_ble_eq_true rfl⟩) hK hP hS hA hP rfl rfl rfl hl.1 rfl (Nat.le_of_ble_eq_true rfl) dX6_load_3 ⟨Nat.zero_le _, Nat.zero_le _⟩ (fun H locs hP hS => ?_)
  refine lv_if_eq (tgt := 18) hx hb dX6_load_6 (by decide) (fun c2 => ?_) (fun c2 => ?_)
  · have hf := it_t hf c2
    refine lv_iconst (v := (-1 : Int32)) hx hb dX6_load_18 kc_iconst_m1 ?_
    have e0 : (-1 : Int32) = r0 := (Option.some.inj hf)
    subst e0
    exact hret H locs ls _ dX6_load_19 rfl hS
  · have hf := it_f hf c2
    refine lv_aload_n hx hb dX6_load_9 rfl (lv_at hl 0 rfl) ?_
    refine lv_iconst (v := (0 : Int32)) hx hb dX6_load_10 kc_iconst_0 ?_
    refine lv_iload_n hx hb dX6_load_11 rfl (lv_at hl 1 rfl) ?_
    obtain ⟨v3, hv3, hf⟩ := it_b hf
    refine cQi (As := [.int (0 : Int32), .int x1]) (rest := []) (q0 := 0) (ci := 6) S (c_X6_loadOf l D cI cN z _ g (0 : Int32) x1 v3 hv3) (cwV 2 hts gX6_load_X6_loadOf rfl rfl rfl (by decide +kernel) ⟨Nat.le_of_ble_eq_true rfl, Nat.le_of_ble_eq_true rfl⟩) hK hP hS hA hP rfl rfl rfl hl.1 rfl (Nat.le_of_ble_eq_true rfl) dX6_load_12 ⟨Nat.zero_le _, Nat.zero_le _⟩ (fun H locs hP hS => ?_)
    refine lv_goto (tgt := 19) hx hb dX6_load_15 (by decide) ?_
    have e0 : v3 = r0 := (Option.some.inj hf)
    subst e0
    exact hret H locs ls _ dX6_load_19 rfl hS
set_option maxRecDepth 100000 in
theorem c_X6_load (l : Launch) (D : va_G) (cI cN : ClassId) (z : Nat → Nat) (sz : Nat) (g : OS) (x1 : Int32) (r0 : Int32) (hf : fX6_load g x1 = some r0) : CtP l D cI cN yX6_load wsX6_load rm_X6_load [.ref (z 0), .int x1] (mdW cI z g) sz r0 := by
  refine mP (cc := cX6_load) (maxL := 2) (ty := .int) (by decide) rfl rfl (Nat.le_of_ble_eq_true rfl) ?_
  intro p e s m args below meth c Q S hK hP hS hret ls hl
  exact w_X6_load_0 S hK hret hf _ _ _ hP hS (lv_sub (show lv_has ls 2 [(0, .ref (z 0)), (1, .int x1)] from hl) [0, 1] rfl)
abbrev rm_X6_freeForFirst : Room := { frames := 3, cells := 0, slots := 0, locals := 71 }
set_option maxRecDepth 100000 in
set_option maxHeartbeats 4000000 in
theorem w_X6_freeForFirst_0 {p : Program} {l : Launch} {e : Env} {s : State} {m : MethodId} {args : Array Value} {below : List Frame} {meth : Method} {c : Code} {Q : State → Prop} {D : va_G} {cI cN : ClassId} {z : Nat → Nat} (S : CallFix p m c cX6_freeForFirst 2 s args wsX6_freeForFirst RX6) (hK : KN D cI cN s) {g : OS} {x1 : Int32} {r0 : Int32} (hret : ∀ (H : Heap) (locs : List Loc) (ls : Array Slot) (pc : Nat), decode cX6_freeForFirst pc = .ok (.ireturn, 1) → narrow .int (.int r0) = .int r0 → va_S (nwA s.heap.size) s.heap H locs → W p l e (headSpec wsX6_freeForFirst rm_X6_freeForFirst).room s m args below meth c H locs 0 0 Q (F0 m pc ls [.int r0])) (hf : fX6_freeForFirst g x1 = some r0) (H : Heap) (locs : List Loc) (ls : Array Slot) (hP : va_P D vwCl (mdW cI z g) H) (hS : va_S (nwA s.heap.size) s.heap H locs) (hl : lv_has ls 2 [(0, .ref (z 0)), (1, .int x1)]) : W p l e (headSpec wsX6_freeForFirst rm_X6_freeForFirst).room s m args below meth c H locs 0 0 Q (F0 m 0 ls []) := by
  obtain ⟨hx, hb, hml, hown, hts⟩ := id S
  have hA : ∀ q : Nat, s.heap.size ≤ q → nwA s.heap.size q := fun _ h => h
  unfold fX6_freeForFirst at hf
  refine lv_aload_n hx hb dX6_freeForFirst_0 rfl (lv_at hl 0 rfl) ?_
  refine lv_iload_n hx hb dX6_freeForFirst_1 rfl (lv_at hl 1 rfl) ?_
  obtain ⟨v1, hv1, hf⟩ := it_b hf
  refine cQi (As := [.int x1]) (rest := []) (q0 := 0) (ci := 6) S (c_X6_isBoard l D cI cN z _ g x1 v1 hv1) (cwV 1 hts gX6_freeForFirst_X6_isBoard rfl rfl rfl (by decide +kernel) ⟨Nat.le_of_ble_eq_true rfl, Nat.le_of_ble_eq_true rfl⟩) hK hP hS hA hP rfl rfl rfl hl.1 rfl (Nat.le_of_ble_eq_true rfl) dX6_freeForFirst_2 ⟨Nat.zero_le _, Nat.zero_le _⟩ (fun H locs hP hS => ?_)
  refine lv_if_eq (tgt := 17) hx hb dX6_freeForFirst_5 (by decide) (fun c2 => ?_) (fun c2 => ?_)
  · have hf := it_t hf c2
    refine lv_iconst (v := (-1 : Int32)) hx hb dX6_freeForFirst_17 kc_iconst_m1 ?_
    have e0 : (-1 : Int32) = r0 := (Option.some.inj hf)
    subst e0
    exact hret H locs ls _ dX6_freeForFirst_18 rfl hS
  · have hf := it_f hf c2
    refine lv_aload_n hx hb dX6_freeForFirst_8 rfl (lv_at hl 0 rfl) ?_
    refine lv_iconst (v := (0 : Int32)) hx hb dX6_freeForFirst_9 kc_iconst_0 ?_
    refine lv_iload_n hx hb dX6_freeForFirst_10 rfl (lv_at hl 1 rfl) ?_
    obtain ⟨v3, hv3, hf⟩ := it_b hf
    refine cQi (As := [.int (0 : Int32), .int x1]) (rest := []) (q0 := 0) (ci := 6) S (c_X6_freeAhead l D cI cN z _ g (0 : Int32) x1 v3 hv3) (cwV 2 hts gX6_freeForFirst_X6_freeAhead rfl rfl rfl (by decide +kernel) ⟨Nat.le_of_ble_eq_true rfl, Nat.le_of_ble_eq_true rfl⟩) hK hP hS hA hP rfl rfl rfl hl.1 rfl (Nat.le_of_ble_eq_true rfl) dX6_freeForFirst_11 ⟨Nat.zero_le _, Nat.zero_le _⟩ (fun H locs hP hS => ?_)
    refine lv_goto (tgt := 18) hx hb dX6_freeForFirst_14 (by decide) ?_
    have e0 : v3 = r0 := (Option.some.inj hf)
    subst e0
    exact hret H locs ls _ dX6_freeForFirst_18 rfl hS
set_option maxRecDepth 100000 in
theorem c_X6_freeForFirst (l : Launch) (D : va_G) (cI cN : ClassId) (z : Nat → Nat) (sz : Nat) (g : OS) (x1 : Int32) (r0 : Int32) (hf : fX6_freeForFirst g x1 = some r0) : CtP l D cI cN yX6_freeForFirst wsX6_freeForFirst rm_X6_freeForFirst [.ref (z 0), .int x1] (mdW cI z g) sz r0 := by
  refine mP (cc := cX6_freeForFirst) (maxL := 2) (ty := .int) (by decide) rfl rfl (Nat.le_of_ble_eq_true rfl) ?_
  intro p e s m args below meth c Q S hK hP hS hret ls hl
  exact w_X6_freeForFirst_0 S hK hret hf _ _ _ hP hS (lv_sub (show lv_has ls 2 [(0, .ref (z 0)), (1, .int x1)] from hl) [0, 1] rfl)
abbrev rm_X6_freeForLast : Room := { frames := 3, cells := 0, slots := 0, locals := 71 }
set_option maxRecDepth 100000 in
set_option maxHeartbeats 4000000 in
theorem w_X6_freeForLast_0 {p : Program} {l : Launch} {e : Env} {s : State} {m : MethodId} {args : Array Value} {below : List Frame} {meth : Method} {c : Code} {Q : State → Prop} {D : va_G} {cI cN : ClassId} {z : Nat → Nat} (S : CallFix p m c cX6_freeForLast 2 s args wsX6_freeForLast RX6) (hK : KN D cI cN s) {g : OS} {x1 : Int32} {r0 : Int32} (hret : ∀ (H : Heap) (locs : List Loc) (ls : Array Slot) (pc : Nat), decode cX6_freeForLast pc = .ok (.ireturn, 1) → narrow .int (.int r0) = .int r0 → va_S (nwA s.heap.size) s.heap H locs → W p l e (headSpec wsX6_freeForLast rm_X6_freeForLast).room s m args below meth c H locs 0 0 Q (F0 m pc ls [.int r0])) (hf : fX6_freeForLast g x1 = some r0) (H : Heap) (locs : List Loc) (ls : Array Slot) (hP : va_P D vwCl (mdW cI z g) H) (hS : va_S (nwA s.heap.size) s.heap H locs) (hl : lv_has ls 2 [(0, .ref (z 0)), (1, .int x1)]) : W p l e (headSpec wsX6_freeForLast rm_X6_freeForLast).room s m args below meth c H locs 0 0 Q (F0 m 0 ls []) := by
  obtain ⟨hx, hb, hml, hown, hts⟩ := id S
  have hA : ∀ q : Nat, s.heap.size ≤ q → nwA s.heap.size q := fun _ h => h
  unfold fX6_freeForLast at hf
  refine lv_aload_n hx hb dX6_freeForLast_0 rfl (lv_at hl 0 rfl) ?_
  refine lv_iload_n hx hb dX6_freeForLast_1 rfl (lv_at hl 1 rfl) ?_
  obtain ⟨v1, hv1, hf⟩ := it_b hf
  refine cQi (As := [.int x1]) (rest := []) (q0 := 0) (ci := 6) S (c_X6_isBoard l D cI cN z _ g x1 v1 hv1) (cwV 1 hts gX6_freeForLast_X6_isBoard rfl rfl rfl (by decide +kernel) ⟨Nat.le_of_ble_eq_true rfl, Nat.le_of_ble_eq_true rfl⟩) hK hP hS hA hP rfl rfl rfl hl.1 rfl (Nat.le_of_ble_eq_true rfl) dX6_freeForLast_2 ⟨Nat.zero_le _, Nat.zero_le _⟩ (fun H locs hP hS => ?_)
  refine lv_if_eq (tgt := 17) hx hb dX6_freeForLast_5 (by decide) (fun c2 => ?_) (fun c2 => ?_)
  · have hf := it_t hf c2
    refine lv_iconst (v := (-1 : Int32)) hx hb dX6_freeForLast_17 kc_iconst_m1 ?_
    have e0 : (-1 : Int32) = r0 := (Option.some.inj hf)
    subst e0
    exact hret H locs ls _ dX6_freeForLast_18 rfl hS
  · have hf := it_f hf c2
    refine lv_aload_n hx hb dX6_freeForLast_8 rfl (lv_at hl 0 rfl) ?_
    refine lv_iconst (v := (0 : Int32)) hx hb dX6_freeForLast_9 kc_iconst_0 ?_
    refine lv_iload_n hx hb dX6_freeForLast_10 rfl (lv_at hl 1 rfl) ?_
    obtain ⟨v3, hv3, hf⟩ := it_b hf
    refine cQi (As := [.int (0 : Int32), .int x1]) (rest := []) (q0 := 0) (ci := 6) S (c_X6_freeBehind l D cI cN z _ g (0 : Int32) x1 v3 hv3) (cwV 2 hts gX6_freeForLast_X6_freeBehind rfl rfl rfl (by decide +kernel) ⟨Nat.le_of_ble_eq_true rfl, Nat.le_of_ble_eq_true rfl⟩) hK hP hS hA hP rfl rfl rfl hl.1 rfl (Nat.le_of_ble_eq_true rfl) dX6_freeForLast_11 ⟨Nat.zero_le _, Nat.zero_le _⟩ (fun H locs hP hS => ?_)
    refine lv_goto (tgt := 18) hx hb dX6_freeForLast_14 (by decide) ?_
    have e0 : v3 = r0 := (Option.some.inj hf)
    subst e0
    exact hret H locs ls _ dX6_freeForLast_18 rfl hS
set_option maxRecDepth 100000 in
theorem c_X6_freeForLast (l : Launch) (D : va_G) (cI cN : ClassId) (z : Nat → Nat) (sz : Nat) (g : OS) (x1 : Int32) (r0 : Int32) (hf : fX6_freeForLast g x1 = some r0) : CtP l D cI cN yX6_freeForLast wsX6_freeForLast rm_X6_freeForLast [.ref (z 0), .int x1] (mdW cI z g) sz r0 := by
  refine mP (cc := cX6_freeForLast) (maxL := 2) (ty := .int) (by decide) rfl rfl (Nat.le_of_ble_eq_true rfl) ?_
  intro p e s m args below meth c Q S hK hP hS hret ls hl
  exact w_X6_freeForLast_0 S hK hret hf _ _ _ hP hS (lv_sub (show lv_has ls 2 [(0, .ref (z 0)), (1, .int x1)] from hl) [0, 1] rfl)
abbrev rm_X6_inService : Room := { frames := 0, cells := 0, slots := 0, locals := 0 }
theorem in_X6_inService_X6 : ∀ w ∈ u_ws RX6 TX6 12, w ∈ wsX6_inService := fun w h => List.mem_cons_of_mem _ (List.mem_append_right _ h)
set_option maxRecDepth 100000 in
set_option maxHeartbeats 4000000 in
theorem w_X6_inService_0 {p : Program} {l : Launch} {e : Env} {s : State} {m : MethodId} {args : Array Value} {below : List Frame} {meth : Method} {c : Code} {Q : State → Prop} {D : va_G} {cI cN : ClassId} {z : Nat → Nat} (S : CallFix p m c cX6_inService 1 s args wsX6_inService RX6) (hK : KN D cI cN s) {g : OS} {r0 : Int32} (hret : ∀ (H : Heap) (locs : List Loc) (ls : Array Slot) (pc : Nat), decode cX6_inService pc = .ok (.ireturn, 1) → narrow .int (.int r0) = .int r0 → va_S (nwA s.heap.size) s.heap H locs → W p l e (headSpec wsX6_inService rm_X6_inService).room s m args below meth c H locs 0 0 Q (F0 m pc ls [.int r0])) (hf : fX6_inService g = some r0) (H : Heap) (locs : List Loc) (ls : Array Slot) (hP : va_P D vwCl (mdW cI z g) H) (hS : va_S (nwA s.heap.size) s.heap H locs) (hl : lv_has ls 1 [(0, .ref (z 0))]) : W p l e (headSpec wsX6_inService rm_X6_inService).room s m args below meth c H locs 0 0 Q (F0 m 0 ls []) := by
  obtain ⟨hx, hb, hml, hown, hts⟩ := id S
  have inX6 := in_X6_inService_X6
  have hA : ∀ q : Nat, s.heap.size ≤ q → nwA s.heap.size q := fun _ h => h
  unfold fX6_inService at hf
  refine lv_aload_n hx hb dX6_inService_0 rfl (lv_at hl 0 rfl) ?_
  refine va_get (D := D) (ci := 6) (v := .ref (z 1)) (C := RX6) (T := TX6) (N := 12) hx hb hts inX6 hown hK.1 hP 0 rfl rfl 0 (by decide) (hts (.fieldLink RX6 7 "ClosExchangeModel" "s" "[I") (List.mem_of_getElem? (i := 1) rfl)) (fun _ h9 => h9) rfl dX6_inService_1 ?_
  refine lv_bipush (v := (9 : Int32)) hx hb dX6_inService_4 kc_bipush_9 ?_
  obtain ⟨c1, hf⟩ := it_g hf
  refine va_iald hx hb hK.1 hP 1 0 rfl rfl (inb_in c1) dX6_inService_6 ?_
  have e0 : ((g.2 0) (9 : Int32).toNatClampNeg) = r0 := (Option.some.inj hf)
  subst e0
  exact hret H locs ls _ dX6_inService_7 rfl hS
set_option maxRecDepth 100000 in
theorem c_X6_inService (l : Launch) (D : va_G) (cI cN : ClassId) (z : Nat → Nat) (sz : Nat) (g : OS) (r0 : Int32) (hf : fX6_inService g = some r0) : CtP l D cI cN yX6_inService wsX6_inService rm_X6_inService [.ref (z 0)] (mdW cI z g) sz r0 := by
  refine mP (cc := cX6_inService) (maxL := 1) (ty := .int) (by decide) rfl rfl (Nat.le_of_ble_eq_true rfl) ?_
  intro p e s m args below meth c Q S hK hP hS hret ls hl
  exact w_X6_inService_0 S hK hret hf _ _ _ hP hS (lv_sub (show lv_has ls 1 [(0, .ref (z 0))] from hl) [0] rfl)
abbrev rm_X6_total : Room := { frames := 2, cells := 0, slots := 0, locals := 46 }
theorem in_X6_total_X6 : ∀ w ∈ u_ws RX6 TX6 12, w ∈ wsX6_total := fun w h => List.mem_cons_of_mem _ (List.mem_append_right _ h)
set_option maxRecDepth 100000 in
set_option maxHeartbeats 4000000 in
theorem w_X6_total_0 {p : Program} {l : Launch} {e : Env} {s : State} {m : MethodId} {args : Array Value} {below : List Frame} {meth : Method} {c : Code} {Q : State → Prop} {D : va_G} {cI cN : ClassId} {z : Nat → Nat} (S : CallFix p m c cX6_total 2 s args wsX6_total RX6) (hK : KN D cI cN s) {g : OS} {x1 : Int32} {r0 : Int32} (hret : ∀ (H : Heap) (locs : List Loc) (ls : Array Slot) (pc : Nat), decode cX6_total pc = .ok (.ireturn, 1) → narrow .int (.int r0) = .int r0 → va_S (nwA s.heap.size) s.heap H locs → W p l e (headSpec wsX6_total rm_X6_total).room s m args below meth c H locs 0 0 Q (F0 m pc ls [.int r0])) (hf : fX6_total g x1 = some r0) (H : Heap) (locs : List Loc) (ls : Array Slot) (hP : va_P D vwCl (mdW cI z g) H) (hS : va_S (nwA s.heap.size) s.heap H locs) (hl : lv_has ls 2 [(0, .ref (z 0)), (1, .int x1)]) : W p l e (headSpec wsX6_total rm_X6_total).room s m args below meth c H locs 0 0 Q (F0 m 0 ls []) := by
  obtain ⟨hx, hb, hml, hown, hts⟩ := id S
  have inX6 := in_X6_total_X6
  have hA : ∀ q : Nat, s.heap.size ≤ q → nwA s.heap.size q := fun _ h => h
  unfold fX6_total at hf
  refine lv_iload_n hx hb dX6_total_0 rfl (lv_at hl 1 rfl) ?_
  refine lv_topi (fun y1 ey1 => ?_)
  by_cases c_y1_0 : x1 = (0 : Int32)
  · have hf := it_t hf c_y1_0
    obtain rfl := ey1.trans c_y1_0
    refine lv_tableIn (tgt := 64) hx hb dX6_total_1 (by decide) (by decide) rfl (by decide) ?_
    refine lv_aload_n hx hb dX6_total_64 rfl (lv_at hl 0 rfl) ?_
    refine va_get (D := D) (ci := 6) (v := .ref (z 1)) (C := RX6) (T := TX6) (N := 12) hx hb hts inX6 hown hK.1 hP 0 rfl rfl 0 (by decide) (hts (.fieldLink RX6 7 "ClosExchangeModel" "s" "[I") (List.mem_of_getElem? (i := 1) rfl)) (fun _ h9 => h9) rfl dX6_total_65 ?_
    refine lv_iload_n hx hb dX6_total_68 rfl (lv_at hl 1 rfl) ?_
    obtain ⟨c2, hf⟩ := it_g hf
    refine va_iald hx hb hK.1 hP 1 0 rfl rfl (inb_in c2) dX6_total_69 ?_
    have e0 : ((g.2 0) x1.toNatClampNeg) = r0 := (Option.some.inj hf)
    subst e0
    exact hret H locs ls _ dX6_total_70 rfl hS
  · have hf := it_f hf c_y1_0
    by_cases c_y1_1 : x1 = (1 : Int32)
    · have hf := it_t hf c_y1_1
      obtain rfl := ey1.trans c_y1_1
      refine lv_tableIn (tgt := 64) hx hb dX6_total_1 (by decide) (by decide) rfl (by decide) ?_
      refine lv_aload_n hx hb dX6_total_64 rfl (lv_at hl 0 rfl) ?_
      refine va_get (D := D) (ci := 6) (v := .ref (z 1)) (C := RX6) (T := TX6) (N := 12) hx hb hts inX6 hown hK.1 hP 0 rfl rfl 0 (by decide) (hts (.fieldLink RX6 7 "ClosExchangeModel" "s" "[I") (List.mem_of_getElem? (i := 1) rfl)) (fun _ h9 => h9) rfl dX6_total_65 ?_
      refine lv_iload_n hx hb dX6_total_68 rfl (lv_at hl 1 rfl) ?_
      obtain ⟨c3, hf⟩ := it_g hf
      refine va_iald hx hb hK.1 hP 1 0 rfl rfl (inb_in c3) dX6_total_69 ?_
      have e0 : ((g.2 0) x1.toNatClampNeg) = r0 := (Option.some.inj hf)
      subst e0
      exact hret H locs ls _ dX6_total_70 rfl hS
    · have hf := it_f hf c_y1_1
      by_cases c_y1_2 : x1 = (2 : Int32)
      · have hf := it_t hf c_y1_2
        obtain rfl := ey1.trans c_y1_2
        refine lv_tableIn (tgt := 64) hx hb dX6_total_1 (by decide) (by decide) rfl (by decide) ?_
        refine lv_aload_n hx hb dX6_total_64 rfl (lv_at hl 0 rfl) ?_
        refine va_get (D := D) (ci := 6) (v := .ref (z 1)) (C := RX6) (T := TX6) (N := 12) hx hb hts inX6 hown hK.1 hP 0 rfl rfl 0 (by decide) (hts (.fieldLink RX6 7 "ClosExchangeModel" "s" "[I") (List.mem_of_getElem? (i := 1) rfl)) (fun _ h9 => h9) rfl dX6_total_65 ?_
        refine lv_iload_n hx hb dX6_total_68 rfl (lv_at hl 1 rfl) ?_
        obtain ⟨c4, hf⟩ := it_g hf
        refine va_iald hx hb hK.1 hP 1 0 rfl rfl (inb_in c4) dX6_total_69 ?_
        have e0 : ((g.2 0) x1.toNatClampNeg) = r0 := (Option.some.inj hf)
        subst e0
        exact hret H locs ls _ dX6_total_70 rfl hS
      · have hf := it_f hf c_y1_2
        by_cases c_y1_3 : x1 = (3 : Int32)
        · have hf := it_t hf c_y1_3
          obtain rfl := ey1.trans c_y1_3
          refine lv_tableIn (tgt := 64) hx hb dX6_total_1 (by decide) (by decide) rfl (by decide) ?_
          refine lv_aload_n hx hb dX6_total_64 rfl (lv_at hl 0 rfl) ?_
          refine va_get (D := D) (ci := 6) (v := .ref (z 1)) (C := RX6) (T := TX6) (N := 12) hx hb hts inX6 hown hK.1 hP 0 rfl rfl 0 (by decide) (hts (.fieldLink RX6 7 "ClosExchangeModel" "s" "[I") (List.mem_of_getElem? (i := 1) rfl)) (fun _ h9 => h9) rfl dX6_total_65 ?_
          refine lv_iload_n hx hb dX6_total_68 rfl (lv_at hl 1 rfl) ?_
          obtain ⟨c5, hf⟩ := it_g hf
          refine va_iald hx hb hK.1 hP 1 0 rfl rfl (inb_in c5) dX6_total_69 ?_
          have e0 : ((g.2 0) x1.toNatClampNeg) = r0 := (Option.some.inj hf)
          subst e0
          exact hret H locs ls _ dX6_total_70 rfl hS
        · have hf := it_f hf c_y1_3
          by_cases c_y1_4 : x1 = (4 : Int32)
          · have hf := it_t hf c_y1_4
            obtain rfl := ey1.trans c_y1_4
            refine lv_tableIn (tgt := 64) hx hb dX6_total_1 (by decide) (by decide) rfl (by decide) ?_
            refine lv_aload_n hx hb dX6_total_64 rfl (lv_at hl 0 rfl) ?_
            refine va_get (D := D) (ci := 6) (v := .ref (z 1)) (C := RX6) (T := TX6) (N := 12) hx hb hts inX6 hown hK.1 hP 0 rfl rfl 0 (by decide) (hts (.fieldLink RX6 7 "ClosExchangeModel" "s" "[I") (List.mem_of_getElem? (i := 1) rfl)) (fun _ h9 => h9) rfl dX6_total_65 ?_
            refine lv_iload_n hx hb dX6_total_68 rfl (lv_at hl 1 rfl) ?_
            obtain ⟨c6, hf⟩ := it_g hf
            refine va_iald hx hb hK.1 hP 1 0 rfl rfl (inb_in c6) dX6_total_69 ?_
            have e0 : ((g.2 0) x1.toNatClampNeg) = r0 := (Option.some.inj hf)
            subst e0
            exact hret H locs ls _ dX6_total_70 rfl hS
          · have hf := it_f hf c_y1_4
            by_cases c_y1_5 : x1 = (5 : Int32)
            · have hf := it_t hf c_y1_5
              obtain rfl := ey1.trans c_y1_5
              refine lv_tableIn (tgt := 71) hx hb dX6_total_1 (by decide) (by decide) rfl (by decide) ?_
              refine lv_aload_n hx hb dX6_total_71 rfl (lv_at hl 0 rfl) ?_
              refine lv_iconst (v := (0 : Int32)) hx hb dX6_total_72 kc_iconst_0 ?_
              obtain ⟨v7, hv7, hf⟩ := it_b hf
              refine cQi (As := [.int (0 : Int32)]) (rest := []) (q0 := 0) (ci := 6) S (c_X6_calls l D cI cN z _ g (0 : Int32) v7 hv7) (cwV 1 hts gX6_total_X6_calls rfl rfl rfl (by decide +kernel) ⟨Nat.le_of_ble_eq_true rfl, Nat.le_of_ble_eq_true rfl⟩) hK hP hS hA hP rfl rfl rfl hl.1 rfl (Nat.le_of_ble_eq_true rfl) dX6_total_73 ⟨Nat.zero_le _, Nat.zero_le _⟩ (fun H locs hP hS => ?_)
              have e0 : v7 = r0 := (Option.some.inj hf)
              subst e0
              exact hret H locs ls _ dX6_total_76 rfl hS
            · have hf := it_f hf c_y1_5
              by_cases c_y1_6 : x1 = (6 : Int32)
              · have hf := it_t hf c_y1_6
                obtain rfl := ey1.trans c_y1_6
                refine lv_tableIn (tgt := 77) hx hb dX6_total_1 (by decide) (by decide) rfl (by decide) ?_
                refine lv_aload_n hx hb dX6_total_77 rfl (lv_at hl 0 rfl) ?_
                refine va_get (D := D) (ci := 6) (v := .ref (z 1)) (C := RX6) (T := TX6) (N := 12) hx hb hts inX6 hown hK.1 hP 0 rfl rfl 0 (by decide) (hts (.fieldLink RX6 7 "ClosExchangeModel" "s" "[I") (List.mem_of_getElem? (i := 1) rfl)) (fun _ h9 => h9) rfl dX6_total_78 ?_
                refine lv_iload_n hx hb dX6_total_81 rfl (lv_at hl 1 rfl) ?_
                refine lv_iconst (v := (1 : Int32)) hx hb dX6_total_82 kc_iconst_1 ?_
                refine lv_isub hx hb dX6_total_83 ?_
                obtain ⟨c8, hf⟩ := it_g hf
                refine va_iald hx hb hK.1 hP 1 0 rfl rfl (inb_in c8) dX6_total_84 ?_
                have e0 : ((g.2 0) (x1 - (1 : Int32)).toNatClampNeg) = r0 := (Option.some.inj hf)
                subst e0
                exact hret H locs ls _ dX6_total_85 rfl hS
              · have hf := it_f hf c_y1_6
                by_cases c_y1_7 : x1 = (7 : Int32)
                · have hf := it_t hf c_y1_7
                  obtain rfl := ey1.trans c_y1_7
                  refine lv_tableIn (tgt := 77) hx hb dX6_total_1 (by decide) (by decide) rfl (by decide) ?_
                  refine lv_aload_n hx hb dX6_total_77 rfl (lv_at hl 0 rfl) ?_
                  refine va_get (D := D) (ci := 6) (v := .ref (z 1)) (C := RX6) (T := TX6) (N := 12) hx hb hts inX6 hown hK.1 hP 0 rfl rfl 0 (by decide) (hts (.fieldLink RX6 7 "ClosExchangeModel" "s" "[I") (List.mem_of_getElem? (i := 1) rfl)) (fun _ h9 => h9) rfl dX6_total_78 ?_
                  refine lv_iload_n hx hb dX6_total_81 rfl (lv_at hl 1 rfl) ?_
                  refine lv_iconst (v := (1 : Int32)) hx hb dX6_total_82 kc_iconst_1 ?_
                  refine lv_isub hx hb dX6_total_83 ?_
                  obtain ⟨c9, hf⟩ := it_g hf
                  refine va_iald hx hb hK.1 hP 1 0 rfl rfl (inb_in c9) dX6_total_84 ?_
                  have e0 : ((g.2 0) (x1 - (1 : Int32)).toNatClampNeg) = r0 := (Option.some.inj hf)
                  subst e0
                  exact hret H locs ls _ dX6_total_85 rfl hS
                · have hf := it_f hf c_y1_7
                  by_cases c_y1_8 : x1 = (8 : Int32)
                  · have hf := it_t hf c_y1_8
                    obtain rfl := ey1.trans c_y1_8
                    refine lv_tableIn (tgt := 77) hx hb dX6_total_1 (by decide) (by decide) rfl (by decide) ?_
                    refine lv_aload_n hx hb dX6_total_77 rfl (lv_at hl 0 rfl) ?_
                    refine va_get (D := D) (ci := 6) (v := .ref (z 1)) (C := RX6) (T := TX6) (N := 12) hx hb hts inX6 hown hK.1 hP 0 rfl rfl 0 (by decide) (hts (.fieldLink RX6 7 "ClosExchangeModel" "s" "[I") (List.mem_of_getElem? (i := 1) rfl)) (fun _ h9 => h9) rfl dX6_total_78 ?_
                    refine lv_iload_n hx hb dX6_total_81 rfl (lv_at hl 1 rfl) ?_
                    refine lv_iconst (v := (1 : Int32)) hx hb dX6_total_82 kc_iconst_1 ?_
                    refine lv_isub hx hb dX6_total_83 ?_
                    obtain ⟨c10, hf⟩ := it_g hf
                    refine va_iald hx hb hK.1 hP 1 0 rfl rfl (inb_in c10) dX6_total_84 ?_
                    have e0 : ((g.2 0) (x1 - (1 : Int32)).toNatClampNeg) = r0 := (Option.some.inj hf)
                    subst e0
                    exact hret H locs ls _ dX6_total_85 rfl hS
                  · have hf := it_f hf c_y1_8
                    by_cases c_y1_9 : x1 = (9 : Int32)
                    · have hf := it_t hf c_y1_9
                      obtain rfl := ey1.trans c_y1_9
                      refine lv_tableIn (tgt := 77) hx hb dX6_total_1 (by decide) (by decide) rfl (by decide) ?_
                      refine lv_aload_n hx hb dX6_total_77 rfl (lv_at hl 0 rfl) ?_
                      refine va_get (D := D) (ci := 6) (v := .ref (z 1)) (C := RX6) (T := TX6) (N := 12) hx hb hts inX6 hown hK.1 hP 0 rfl rfl 0 (by decide) (hts (.fieldLink RX6 7 "ClosExchangeModel" "s" "[I") (List.mem_of_getElem? (i := 1) rfl)) (fun _ h9 => h9) rfl dX6_total_78 ?_
                      refine lv_iload_n hx hb dX6_total_81 rfl (lv_at hl 1 rfl) ?_
                      refine lv_iconst (v := (1 : Int32)) hx hb dX6_total_82 kc_iconst_1 ?_
                      refine lv_isub hx hb dX6_total_83 ?_
                      obtain ⟨c11, hf⟩ := it_g hf
                      refine va_iald hx hb hK.1 hP 1 0 rfl rfl (inb_in c11) dX6_total_84 ?_
                      have e0 : ((g.2 0) (x1 - (1 : Int32)).toNatClampNeg) = r0 := (Option.some.inj hf)
                      subst e0
                      exact hret H locs ls _ dX6_total_85 rfl hS
                    · have hf := it_f hf c_y1_9
                      by_cases c_y1_10 : x1 = (10 : Int32)
                      · have hf := it_t hf c_y1_10
                        obtain rfl := ey1.trans c_y1_10
                        refine lv_tableIn (tgt := 86) hx hb dX6_total_1 (by decide) (by decide) rfl (by decide) ?_
                        refine lv_aload_n hx hb dX6_total_86 rfl (lv_at hl 0 rfl) ?_
                        refine va_get (D := D) (ci := 6) (v := .int (g.1 1)) (C := RX6) (T := TX6) (N := 12) hx hb hts inX6 hown hK.1 hP 0 rfl rfl 1 (by decide) (hts (.fieldLink RX6 102 "ClosExchangeModel" "states" "I") (List.mem_of_getElem? (i := 2) rfl)) (fun _ h9 => h9) rfl dX6_total_87 ?_
                        have e0 : (g.1 1) = r0 := (Option.some.inj hf)
                        subst e0
                        exact hret H locs ls _ dX6_total_90 rfl hS
                      · have hf := it_f hf c_y1_10
                        by_cases c_y1_11 : x1 = (11 : Int32)
                        · have hf := it_t hf c_y1_11
                          obtain rfl := ey1.trans c_y1_11
                          refine lv_tableIn (tgt := 91) hx hb dX6_total_1 (by decide) (by decide) rfl (by decide) ?_
                          refine lv_aload_n hx hb dX6_total_91 rfl (lv_at hl 0 rfl) ?_
                          refine va_get (D := D) (ci := 6) (v := .int (g.1 4)) (C := RX6) (T := TX6) (N := 12) hx hb hts inX6 hown hK.1 hP 0 rfl rfl 4 (by decide) (hts (.fieldLink RX6 130 "ClosExchangeModel" "typed" "I") (List.mem_of_getElem? (i := 3) rfl)) (fun _ h9 => h9) rfl dX6_total_92 ?_
                          have e0 : (g.1 4) = r0 := (Option.some.inj hf)
                          subst e0
                          exact hret H locs ls _ dX6_total_95 rfl hS
                        · have hf := it_f hf c_y1_11
                          refine lv_tableOut (tgt := 96) hx hb dX6_total_1 (by have h0 := lv_neT (x := y1) (fun h => c_y1_0 (ey1.symm.trans h)) (a := 0) (by decide); have h1 := lv_neT (x := y1) (fun h => c_y1_1 (ey1.symm.trans h)) (a := 1) (by decide); have h2 := lv_neT (x := y1) (fun h => c_y1_2 (ey1.symm.trans h)) (a := 2) (by decide); have h3 := lv_neT (x := y1) (fun h => c_y1_3 (ey1.symm.trans h)) (a := 3) (by decide); have h4 := lv_neT (x := y1) (fun h => c_y1_4 (ey1.symm.trans h)) (a := 4) (by decide); have h5 := lv_neT (x := y1) (fun h => c_y1_5 (ey1.symm.trans h)) (a := 5) (by decide); have h6 := lv_neT (x := y1) (fun h => c_y1_6 (ey1.symm.trans h)) (a := 6) (by decide); have h7 := lv_neT (x := y1) (fun h => c_y1_7 (ey1.symm.trans h)) (a := 7) (by decide); have h8 := lv_neT (x := y1) (fun h => c_y1_8 (ey1.symm.trans h)) (a := 8) (by decide); have h9 := lv_neT (x := y1) (fun h => c_y1_9 (ey1.symm.trans h)) (a := 9) (by decide); have h10 := lv_neT (x := y1) (fun h => c_y1_10 (ey1.symm.trans h)) (a := 10) (by decide); have h11 := lv_neT (x := y1) (fun h => c_y1_11 (ey1.symm.trans h)) (a := 11) (by decide); omega) (by decide) ?_
                          refine lv_bipush (v := (-2 : Int32)) hx hb dX6_total_96 kc_bipush_m2 ?_
                          have e0 : (-2 : Int32) = r0 := (Option.some.inj hf)
                          subst e0
                          exact hret H locs ls _ dX6_total_98 rfl hS
set_option maxRecDepth 100000 in
theorem c_X6_total (l : Launch) (D : va_G) (cI cN : ClassId) (z : Nat → Nat) (sz : Nat) (g : OS) (x1 : Int32) (r0 : Int32) (hf : fX6_total g x1 = some r0) : CtP l D cI cN yX6_total wsX6_total rm_X6_total [.ref (z 0), .int x1] (mdW cI z g) sz r0 := by
  refine mP (cc := cX6_total) (maxL := 2) (ty := .int) (by decide) rfl rfl (Nat.le_of_ble_eq_true rfl) ?_
  intro p e s m args below meth c Q S hK hP hS hret ls hl
  exact w_X6_total_0 S hK hret hf _ _ _ hP hS (lv_sub (show lv_has ls 2 [(0, .ref (z 0)), (1, .int x1)] from hl) [0, 1] rfl)
abbrev rm_X6_wouldMove : Room := { frames := 6, cells := 0, slots := 0, locals := 154 }
theorem in_X6_wouldMove_X6 : ∀ w ∈ u_ws RX6 TX6 12, w ∈ wsX6_wouldMove := fun w h => List.mem_cons_of_mem _ (List.mem_append_right _ h)
set_option maxRecDepth 100000 in
set_option maxHeartbeats 4000000 in
theorem w_X6_wouldMove_0 {p : Program} {l : Launch} {e : Env} {s : State} {m : MethodId} {args : Array Value} {below : List Frame} {meth : Method} {c : Code} {Q : State → Prop} {D : va_G} {cI cN : ClassId} {A : Nat → Prop} {z : Nat → Nat} (S : CallFix p m c cX6_wouldMove 4 s args wsX6_wouldMove RX6) (hK : KN D cI cN s) (hA : ∀ q : Nat, s.heap.size ≤ q → A q) {g : OS} {x1 : Int32} {x2 : Int32} {r0 : Int32} {g' : OS} (hret : ∀ (H : Heap) (locs : List Loc) (ls : Array Slot) (pc : Nat), decode cX6_wouldMove pc = .ok (.ireturn, 1) → narrow .int (.int r0) = .int r0 → va_P D vwCl (mdW cI z g') H → va_D A (mdW cI z g') → va_S A s.heap H locs → W p l e (headSpec wsX6_wouldMove rm_X6_wouldMove).room s m args below meth c H locs 0 0 Q (F0 m pc ls [.int r0])) (hf : fX6_wouldMove g x1 x2 = some (r0, g')) (H : Heap) (locs : List Loc) (ls : Array Slot) (hP : va_P D vwCl (mdW cI z g) H) (hD : va_D A (mdW cI z g)) (hS : va_S A s.heap H locs) (hl : lv_has ls 4 [(0, .ref (z 0)), (1, .int x1), (2, .int x2)]) : W p l e (headSpec wsX6_wouldMove rm_X6_wouldMove).room s m args below meth c H locs 0 0 Q (F0 m 0 ls []) := by
  obtain ⟨hx, hb, hml, hown, hts⟩ := id S
  have inX6 := in_X6_wouldMove_X6
  unfold fX6_wouldMove at hf
  refine lv_aload_n hx hb dX6_wouldMove_0 rfl (lv_at hl 0 rfl) ?_
  refine lv_iconst (v := (0 : Int32)) hx hb dX6_wouldMove_1 kc_iconst_0 ?_
  refine lv_bipush (v := (6 : Int32)) hx hb dX6_wouldMove_2 kc_bipush_6 ?_
  obtain ⟨v1, hv1, hf⟩ := it_b hf
  refine cBv (As := [.int (0 : Int32), .int (6 : Int32)]) (rest := []) (q0 := 0) (ci := 6) [(true, (mdW cI z g), (mdW cI z v1))] ⟨ad_mod, (fun h => Bool.noConfusion h), trivial⟩ S (c_X6_copies l D cI cN z _ g (0 : Int32) (6 : Int32) v1 hv1) (cwV 2 hts gX6_wouldMove_X6_copies rfl rfl rfl (by decide +kernel) ⟨Nat.le_of_ble_eq_true rfl, Nat.le_of_ble_eq_true rfl⟩) hK hP hD hS hA rfl rfl rfl hl.1 rfl (Nat.le_of_ble_eq_true rfl) dX6_wouldMove_4 ⟨Nat.zero_le _, Nat.zero_le _⟩ (fun H locs hP hD hS => ?_)
  refine lv_aload_n hx hb dX6_wouldMove_7 rfl (lv_at hl 0 rfl) ?_
  refine lv_sipush (v := (924 : Int32)) hx hb dX6_wouldMove_8 kc_sipush_924 ?_
  refine lv_iload_n hx hb dX6_wouldMove_11 rfl (lv_at hl 1 rfl) ?_
  refine lv_iload_n hx hb dX6_wouldMove_12 rfl (lv_at hl 2 rfl) ?_
  obtain ⟨v2, hv2, hf⟩ := it_b hf
  refine cBi (As := [.int (924 : Int32), .int x1, .int x2]) (rest := []) (q0 := 0) (ci := 6) [(true, (mdW cI z v1), (mdW cI z v2.2))] ⟨ad_mod, (fun h => Bool.noConfusion h), trivial⟩ S (c_X6_connects l D cI cN z _ v1 (924 : Int32) x1 x2 v2.1 v2.2 hv2) (cwV 3 hts gX6_wouldMove_X6_connects rfl rfl rfl (by decide +kernel) ⟨Nat.le_of_ble_eq_true rfl, Nat.le_of_ble_eq_true rfl⟩) hK hP hD hS hA rfl rfl rfl hl.1 rfl (Nat.le_of_ble_eq_true rfl) dX6_wouldMove_13 ⟨Nat.zero_le _, Nat.zero_le _⟩ (fun H locs hP hD hS => ?_)
  refine lv_istore_n (lv' := [(3, .int v2.1), (0, .ref (z 0)), (1, .int x1), (2, .int x2)]) hx hb dX6_wouldMove_16 rfl hl (by decide) rfl (fun ls hl => ?_)
  refine lv_iload_n hx hb dX6_wouldMove_17 rfl (lv_at hl 0 rfl) ?_
  refine lv_if_ge (tgt := 25) hx hb dX6_wouldMove_18 (by decide) (fun c3 => ?_) (fun c3 => ?_)
  · have hf := it_t hf c3
    refine lv_aload_n hx hb dX6_wouldMove_25 rfl (lv_at hl 1 rfl) ?_
    refine va_get (D := D) (ci := 6) (v := .int (v2.2.1 10)) (C := RX6) (T := TX6) (N := 12) hx hb hts inX6 hown hK.1 hP 0 rfl rfl 10 (by decide) (hts (.fieldLink RX6 68 "ClosExchangeModel" "chained" "I") (List.mem_of_getElem? (i := 1) rfl)) (fun _ h9 => h9) rfl dX6_wouldMove_26 ?_
    have e0 : (v2.2.1 10) = r0 := congrArg (fun z => z.1) (Option.some.inj hf)
    have e1 : v2.2 = g' := congrArg (fun z => z.2) (Option.some.inj hf)
    subst e0
    subst e1
    exact hret H locs ls _ dX6_wouldMove_29 rfl hP hD hS
  · have hf := it_f hf c3
    refine lv_iload_n hx hb dX6_wouldMove_21 rfl (lv_at hl 0 rfl) ?_
    refine lv_goto (tgt := 29) hx hb dX6_wouldMove_22 (by decide) ?_
    have e0 : v2.1 = r0 := congrArg (fun z => z.1) (Option.some.inj hf)
    have e1 : v2.2 = g' := congrArg (fun z => z.2) (Option.some.inj hf)
    subst e0
    subst e1
    exact hret H locs ls _ dX6_wouldMove_29 rfl hP hD hS
set_option maxRecDepth 100000 in
theorem c_X6_wouldMove (l : Launch) (D : va_G) (cI cN : ClassId) (z : Nat → Nat) (sz : Nat) (g : OS) (x1 : Int32) (x2 : Int32) (r0 : Int32) (g' : OS) (hf : fX6_wouldMove g x1 x2 = some (r0, g')) : CtI l D cI cN yX6_wouldMove wsX6_wouldMove rm_X6_wouldMove 0 0 [.ref (z 0), .int x1, .int x2] (mdW cI z g) sz r0 (mdW cI z g') := by
  refine mW (cc := cX6_wouldMove) (maxL := 4) (ty := .int) (by decide) rfl rfl (Nat.le_of_ble_eq_true rfl) ?_
  intro p e s m args below meth c Q A S hK hP hD hS hA hret ls hl
  exact w_X6_wouldMove_0 S hK hA hret hf _ _ _ hP hD hS (lv_sub (show lv_has ls 4 [(0, .ref (z 0)), (1, .int x1), (2, .int x2)] from hl) [0, 1, 2] rfl)
abbrev rm_X6_chainCall : Room := { frames := 6, cells := 0, slots := 0, locals := 154 }
theorem in_X6_chainCall_X6 : ∀ w ∈ u_ws RX6 TX6 12, w ∈ wsX6_chainCall := fun w h => List.mem_cons_of_mem _ (List.mem_append_right _ h)
set_option maxRecDepth 100000 in
set_option maxHeartbeats 4000000 in
theorem w_X6_chainCall_0 {p : Program} {l : Launch} {e : Env} {s : State} {m : MethodId} {args : Array Value} {below : List Frame} {meth : Method} {c : Code} {Q : State → Prop} {D : va_G} {cI cN : ClassId} {A : Nat → Prop} {z : Nat → Nat} (S : CallFix p m c cX6_chainCall 5 s args wsX6_chainCall RX6) (hK : KN D cI cN s) (hA : ∀ q : Nat, s.heap.size ≤ q → A q) {g : OS} {x1 : Int32} {x2 : Int32} {x3 : Int32} {r0 : Int32} {g' : OS} (hret : ∀ (H : Heap) (locs : List Loc) (ls : Array Slot) (pc : Nat), decode cX6_chainCall pc = .ok (.ireturn, 1) → narrow .int (.int r0) = .int r0 → va_P D vwCl (mdW cI z g') H → va_D A (mdW cI z g') → va_S A s.heap H locs → W p l e (headSpec wsX6_chainCall rm_X6_chainCall).room s m args below meth c H locs 0 0 Q (F0 m pc ls [.int r0])) (hf : fX6_chainCall g x1 x2 x3 = some (r0, g')) (H : Heap) (locs : List Loc) (ls : Array Slot) (hP : va_P D vwCl (mdW cI z g) H) (hD : va_D A (mdW cI z g)) (hS : va_S A s.heap H locs) (hl : lv_has ls 5 [(0, .ref (z 0)), (1, .int x1), (2, .int x2), (3, .int x3)]) : W p l e (headSpec wsX6_chainCall rm_X6_chainCall).room s m args below meth c H locs 0 0 Q (F0 m 0 ls []) := by
  obtain ⟨hx, hb, hml, hown, hts⟩ := id S
  have inX6 := in_X6_chainCall_X6
  unfold fX6_chainCall at hf
  refine lv_aload_n hx hb dX6_chainCall_0 rfl (lv_at hl 0 rfl) ?_
  refine lv_iconst (v := (0 : Int32)) hx hb dX6_chainCall_1 kc_iconst_0 ?_
  refine lv_bipush (v := (6 : Int32)) hx hb dX6_chainCall_2 kc_bipush_6 ?_
  obtain ⟨v1, hv1, hf⟩ := it_b hf
  refine cBv (As := [.int (0 : Int32), .int (6 : Int32)]) (rest := []) (q0 := 0) (ci := 6) [(true, (mdW cI z g), (mdW cI z v1))] ⟨ad_mod, (fun h => Bool.noConfusion h), trivial⟩ S (c_X6_copies l D cI cN z _ g (0 : Int32) (6 : Int32) v1 hv1) (cwV 2 hts gX6_chainCall_X6_copies rfl rfl rfl (by decide +kernel) ⟨Nat.le_of_ble_eq_true rfl, Nat.le_of_ble_eq_true rfl⟩) hK hP hD hS hA rfl rfl rfl hl.1 rfl (Nat.le_of_ble_eq_true rfl) dX6_chainCall_4 ⟨Nat.zero_le _, Nat.zero_le _⟩ (fun H locs hP hD hS => ?_)
  refine lv_aload_n hx hb dX6_chainCall_7 rfl (lv_at hl 0 rfl) ?_
  refine lv_sipush (v := (924 : Int32)) hx hb dX6_chainCall_8 kc_sipush_924 ?_
  refine lv_iload_n hx hb dX6_chainCall_11 rfl (lv_at hl 1 rfl) ?_
  refine lv_iload_n hx hb dX6_chainCall_12 rfl (lv_at hl 2 rfl) ?_
  obtain ⟨v2, hv2, hf⟩ := it_b hf
  refine cBi (As := [.int (924 : Int32), .int x1, .int x2]) (rest := []) (q0 := 0) (ci := 6) [(true, (mdW cI z v1), (mdW cI z v2.2))] ⟨ad_mod, (fun h => Bool.noConfusion h), trivial⟩ S (c_X6_connects l D cI cN z _ v1 (924 : Int32) x1 x2 v2.1 v2.2 hv2) (cwV 3 hts gX6_chainCall_X6_connects rfl rfl rfl (by decide +kernel) ⟨Nat.le_of_ble_eq_true rfl, Nat.le_of_ble_eq_true rfl⟩) hK hP hD hS hA rfl rfl rfl hl.1 rfl (Nat.le_of_ble_eq_true rfl) dX6_chainCall_13 ⟨Nat.zero_le _, Nat.zero_le _⟩ (fun H locs hP hD hS => ?_)
  refine lv_istore (lv' := [(4, .int v2.1), (0, .ref (z 0)), (1, .int x1), (2, .int x2), (3, .int x3)]) hx hb dX6_chainCall_16 hl (by decide) rfl (fun ls hl => ?_)
  refine lv_iload hx hb dX6_chainCall_18 (lv_at hl 0 rfl) ?_
  refine lv_if_ge (tgt := 26) hx hb dX6_chainCall_20 (by decide) (fun c3 => ?_) (fun c3 => ?_)
  · have hf := it_t hf c3
    refine lv_iload_n hx hb dX6_chainCall_26 rfl (lv_at hl 4 rfl) ?_
    refine lv_if_ge (tgt := 33) hx hb dX6_chainCall_27 (by decide) (fun c4 => ?_) (fun c4 => ?_)
    · have hf := it_t hf c4
      refine lv_iload_n hx hb dX6_chainCall_33 rfl (lv_at hl 4 rfl) ?_
      refine lv_aload_n hx hb dX6_chainCall_34 rfl (lv_at hl 1 rfl) ?_
      refine va_get (D := D) (ci := 6) (v := .int (v2.2.1 10)) (C := RX6) (T := TX6) (N := 12) hx hb hts inX6 hown hK.1 hP 0 rfl rfl 10 (by decide) (hts (.fieldLink RX6 68 "ClosExchangeModel" "chained" "I") (List.mem_of_getElem? (i := 1) rfl)) (fun _ h9 => h9) rfl dX6_chainCall_35 ?_
      refine lv_icmp_ge (tgt := 56) hx hb dX6_chainCall_38 (by decide) (fun c5 => ?_) (fun c5 => ?_)
      · have hf := it_t hf c5
        refine lv_bipush (v := (-6 : Int32)) hx hb dX6_chainCall_56 kc_bipush_m6 ?_
        have e0 : (-6 : Int32) = r0 := congrArg (fun z => z.1) (Option.some.inj hf)
        have e1 : v2.2 = g' := congrArg (fun z => z.2) (Option.some.inj hf)
        subst e0
        subst e1
        exact hret H locs ls _ dX6_chainCall_58 rfl hP hD hS
      · have hf := it_f hf c5
        refine lv_aload_n hx hb dX6_chainCall_41 rfl (lv_at hl 1 rfl) ?_
        refine lv_iconst (v := (0 : Int32)) hx hb dX6_chainCall_42 kc_iconst_0 ?_
        refine lv_aload_n hx hb dX6_chainCall_43 rfl (lv_at hl 1 rfl) ?_
        refine va_get (D := D) (ci := 6) (v := .ref (z 3)) (C := RX6) (T := TX6) (N := 12) hx hb hts inX6 hown hK.1 hP 0 rfl rfl 9 (by decide) (hts (.fieldLink RX6 16 "ClosExchangeModel" "chain" "[I") (List.mem_of_getElem? (i := 2) rfl)) (fun _ h9 => h9) rfl dX6_chainCall_44 ?_
        refine lv_iload_n hx hb dX6_chainCall_47 rfl (lv_at hl 4 rfl) ?_
        obtain ⟨c6, hf⟩ := it_g hf
        refine va_iald hx hb hK.1 hP 3 0 rfl rfl (inb_in c6) dX6_chainCall_48 ?_
        refine lv_iconst (v := (0 : Int32)) hx hb dX6_chainCall_49 kc_iconst_0 ?_
        obtain ⟨v7, hv7, hf⟩ := it_b hf
        refine cQi (As := [.int (0 : Int32), .int ((v2.2.2 2) x3.toNatClampNeg), .int (0 : Int32)]) (rest := []) (q0 := 0) (ci := 6) S (c_X6_of l D cI cN z _ v2.2 (0 : Int32) ((v2.2.2 2) x3.toNatClampNeg) (0 : Int32) v7 hv7) (cwV 3 hts gX6_chainCall_X6_of rfl rfl rfl (by decide +kernel) ⟨Nat.le_of_ble_eq_true rfl, Nat.le_of_ble_eq_true rfl⟩) hK hP hS hA hP rfl rfl rfl hl.1 rfl (Nat.le_of_ble_eq_true rfl) dX6_chainCall_50 ⟨Nat.zero_le _, Nat.zero_le _⟩ (fun H locs hP hS => ?_)
        refine lv_goto (tgt := 58) hx hb dX6_chainCall_53 (by decide) ?_
        have e0 : v7 = r0 := congrArg (fun z => z.1) (Option.some.inj hf)
        have e1 : v2.2 = g' := congrArg (fun z => z.2) (Option.some.inj hf)
        subst e0
        subst e1
        exact hret H locs ls _ dX6_chainCall_58 rfl hP hD hS
    · have hf := it_f hf c4
      refine lv_bipush (v := (-2 : Int32)) hx hb dX6_chainCall_30 kc_bipush_m2 ?_
      have e0 : (-2 : Int32) = r0 := congrArg (fun z => z.1) (Option.some.inj hf)
      have e1 : v2.2 = g' := congrArg (fun z => z.2) (Option.some.inj hf)
      subst e0
      subst e1
      exact hret H locs ls _ dX6_chainCall_32 rfl hP hD hS
  · have hf := it_f hf c3
    refine lv_iload hx hb dX6_chainCall_23 (lv_at hl 0 rfl) ?_
    have e0 : v2.1 = r0 := congrArg (fun z => z.1) (Option.some.inj hf)
    have e1 : v2.2 = g' := congrArg (fun z => z.2) (Option.some.inj hf)
    subst e0
    subst e1
    exact hret H locs ls _ dX6_chainCall_25 rfl hP hD hS
set_option maxRecDepth 100000 in
theorem c_X6_chainCall (l : Launch) (D : va_G) (cI cN : ClassId) (z : Nat → Nat) (sz : Nat) (g : OS) (x1 : Int32) (x2 : Int32) (x3 : Int32) (r0 : Int32) (g' : OS) (hf : fX6_chainCall g x1 x2 x3 = some (r0, g')) : CtI l D cI cN yX6_chainCall wsX6_chainCall rm_X6_chainCall 0 0 [.ref (z 0), .int x1, .int x2, .int x3] (mdW cI z g) sz r0 (mdW cI z g') := by
  refine mW (cc := cX6_chainCall) (maxL := 5) (ty := .int) (by decide) rfl rfl (Nat.le_of_ble_eq_true rfl) ?_
  intro p e s m args below meth c Q A S hK hP hD hS hA hret ls hl
  exact w_X6_chainCall_0 S hK hA hret hf _ _ _ hP hD hS (lv_sub (show lv_has ls 5 [(0, .ref (z 0)), (1, .int x1), (2, .int x2), (3, .int x3)] from hl) [0, 1, 2, 3] rfl)
abbrev rm_X6_reason : Room := { frames := 3, cells := 0, slots := 0, locals := 71 }
theorem in_X6_reason_X6 : ∀ w ∈ u_ws RX6 TX6 12, w ∈ wsX6_reason := fun w h => List.mem_cons_of_mem _ (List.mem_append_right _ h)
set_option maxRecDepth 100000 in
set_option maxHeartbeats 4000000 in
theorem w_X6_reason_0 {p : Program} {l : Launch} {e : Env} {s : State} {m : MethodId} {args : Array Value} {below : List Frame} {meth : Method} {c : Code} {Q : State → Prop} {D : va_G} {cI cN : ClassId} {z : Nat → Nat} (S : CallFix p m c cX6_reason 5 s args wsX6_reason RX6) (hK : KN D cI cN s) {g : OS} {x1 : Int32} {x2 : Int32} {r0 : Int32} (hret : ∀ (H : Heap) (locs : List Loc) (ls : Array Slot) (pc : Nat), decode cX6_reason pc = .ok (.ireturn, 1) → narrow .int (.int r0) = .int r0 → va_S (nwA s.heap.size) s.heap H locs → W p l e (headSpec wsX6_reason rm_X6_reason).room s m args below meth c H locs 0 0 Q (F0 m pc ls [.int r0])) (hf : fX6_reason g x1 x2 = some r0) (H : Heap) (locs : List Loc) (ls : Array Slot) (hP : va_P D vwCl (mdW cI z g) H) (hS : va_S (nwA s.heap.size) s.heap H locs) (hl : lv_has ls 5 [(0, .ref (z 0)), (1, .int x1), (2, .int x2)]) : W p l e (headSpec wsX6_reason rm_X6_reason).room s m args below meth c H locs 0 0 Q (F0 m 0 ls []) := by
  obtain ⟨hx, hb, hml, hown, hts⟩ := id S
  have inX6 := in_X6_reason_X6
  have hA : ∀ q : Nat, s.heap.size ≤ q → nwA s.heap.size q := fun _ h => h
  unfold fX6_reason at hf
  refine lv_aload_n hx hb dX6_reason_0 rfl (lv_at hl 0 rfl) ?_
  refine lv_iconst (v := (0 : Int32)) hx hb dX6_reason_1 kc_iconst_0 ?_
  refine lv_iload_n hx hb dX6_reason_2 rfl (lv_at hl 1 rfl) ?_
  obtain ⟨v1, hv1, hf⟩ := it_b hf
  refine cQi (As := [.int (0 : Int32), .int x1]) (rest := []) (q0 := 0) (ci := 6) S (c_X6_isLine l D cI cN z _ g (0 : Int32) x1 v1 hv1) (cwV 2 hts gX6_reason_X6_isLine rfl rfl rfl (by decide +kernel) ⟨Nat.le_of_ble_eq_true rfl, Nat.le_of_ble_eq_true rfl⟩) hK hP hS hA hP rfl rfl rfl hl.1 rfl (Nat.le_of_ble_eq_true rfl) dX6_reason_3 ⟨Nat.zero_le _, Nat.zero_le _⟩ (fun H locs hP hS => ?_)
  refine lv_if_eq (tgt := 18) hx hb dX6_reason_6 (by decide) (fun c2 => ?_) (fun c2 => ?_)
  · have hf := it_t hf c2
    refine lv_iconst (v := (-1 : Int32)) hx hb dX6_reason_18 kc_iconst_m1 ?_
    have e0 : (-1 : Int32) = r0 := (Option.some.inj hf)
    subst e0
    exact hret H locs ls _ dX6_reason_19 rfl hS
  · have hf := it_f hf c2
    refine lv_aload_n hx hb dX6_reason_9 rfl (lv_at hl 0 rfl) ?_
    refine lv_iconst (v := (0 : Int32)) hx hb dX6_reason_10 kc_iconst_0 ?_
    refine lv_iload_n hx hb dX6_reason_11 rfl (lv_at hl 2 rfl) ?_
    obtain ⟨v3, hv3, hf⟩ := it_b hf
    refine cQi (As := [.int (0 : Int32), .int x2]) (rest := []) (q0 := 0) (ci := 6) S (c_X6_isLine l D cI cN z _ g (0 : Int32) x2 v3 hv3) (cwV 2 hts gX6_reason_X6_isLine rfl rfl rfl (by decide +kernel) ⟨Nat.le_of_ble_eq_true rfl, Nat.le_of_ble_eq_true rfl⟩) hK hP hS hA hP rfl rfl rfl hl.1 rfl (Nat.le_of_ble_eq_true rfl) dX6_reason_12 ⟨Nat.zero_le _, Nat.zero_le _⟩ (fun H locs hP hS => ?_)
    refine lv_if_ne (tgt := 20) hx hb dX6_reason_15 (by decide) (fun c4 => ?_) (fun c4 => ?_)
    · have hf := it_f hf c4
      refine lv_aload_n hx hb dX6_reason_20 rfl (lv_at hl 0 rfl) ?_
      refine lv_iconst (v := (0 : Int32)) hx hb dX6_reason_21 kc_iconst_0 ?_
      refine lv_iload_n hx hb dX6_reason_22 rfl (lv_at hl 1 rfl) ?_
      refine lv_iconst (v := (0 : Int32)) hx hb dX6_reason_23 kc_iconst_0 ?_
      obtain ⟨v5, hv5, hf⟩ := it_b hf
      refine cQi (As := [.int (0 : Int32), .int x1, .int (0 : Int32)]) (rest := []) (q0 := 0) (ci := 6) S (c_X6_of l D cI cN z _ g (0 : Int32) x1 (0 : Int32) v5 hv5) (cwV 3 hts gX6_reason_X6_of rfl rfl rfl (by decide +kernel) ⟨Nat.le_of_ble_eq_true rfl, Nat.le_of_ble_eq_true rfl⟩) hK hP hS hA hP rfl rfl rfl hl.1 rfl (Nat.le_of_ble_eq_true rfl) dX6_reason_24 ⟨Nat.zero_le _, Nat.zero_le _⟩ (fun H locs hP hS => ?_)
      refine lv_iconst (v := (-1 : Int32)) hx hb dX6_reason_27 kc_iconst_m1 ?_
      refine lv_icmp_eq (tgt := 33) hx hb dX6_reason_28 (by decide) (fun c6 => ?_) (fun c6 => ?_)
      · have hf := it_t hf c6
        refine lv_aload_n hx hb dX6_reason_33 rfl (lv_at hl 0 rfl) ?_
        refine lv_iconst (v := (0 : Int32)) hx hb dX6_reason_34 kc_iconst_0 ?_
        refine lv_iload_n hx hb dX6_reason_35 rfl (lv_at hl 2 rfl) ?_
        obtain ⟨v7, hv7, hf⟩ := it_b hf
        refine cQi (As := [.int (0 : Int32), .int x2]) (rest := []) (q0 := 0) (ci := 6) S (c_X6_inletTo l D cI cN z _ g (0 : Int32) x2 v7 hv7) (cwV 2 hts gX6_reason_X6_inletTo rfl rfl rfl (by decide +kernel) ⟨Nat.le_of_ble_eq_true rfl, Nat.le_of_ble_eq_true rfl⟩) hK hP hS hA hP rfl rfl rfl hl.1 rfl (Nat.le_of_ble_eq_true rfl) dX6_reason_36 ⟨Nat.zero_le _, Nat.zero_le _⟩ (fun H locs hP hS => ?_)
        refine lv_iconst (v := (-1 : Int32)) hx hb dX6_reason_39 kc_iconst_m1 ?_
        refine lv_icmp_eq (tgt := 45) hx hb dX6_reason_40 (by decide) (fun c8 => ?_) (fun c8 => ?_)
        · have hf := it_t hf c8
          refine lv_aload_n hx hb dX6_reason_45 rfl (lv_at hl 0 rfl) ?_
          refine lv_iconst (v := (0 : Int32)) hx hb dX6_reason_46 kc_iconst_0 ?_
          refine lv_iload_n hx hb dX6_reason_47 rfl (lv_at hl 1 rfl) ?_
          refine lv_aload_n hx hb dX6_reason_48 rfl (lv_at hl 0 rfl) ?_
          refine va_get (D := D) (ci := 6) (v := .ref (z 1)) (C := RX6) (T := TX6) (N := 12) hx hb hts inX6 hown hK.1 hP 0 rfl rfl 0 (by decide) (hts (.fieldLink RX6 7 "ClosExchangeModel" "s" "[I") (List.mem_of_getElem? (i := 1) rfl)) (fun _ h9 => h9) rfl dX6_reason_49 ?_
          refine lv_iconst (v := (1 : Int32)) hx hb dX6_reason_52 kc_iconst_1 ?_
          obtain ⟨c9, hf⟩ := it_g hf
          refine va_iald hx hb hK.1 hP 1 0 rfl rfl (inb_in c9) dX6_reason_53 ?_
          obtain ⟨c10, hf⟩ := it_g hf
          refine lv_idiv hx hb dX6_reason_54 c10 ?_
          obtain ⟨v11, hv11, hf⟩ := it_b hf
          refine cQi (As := [.int (0 : Int32), .int (x1 / ((g.2 0) (1 : Int32).toNatClampNeg))]) (rest := []) (q0 := 0) (ci := 6) S (c_X6_freeAhead l D cI cN z _ g (0 : Int32) (x1 / ((g.2 0) (1 : Int32).toNatClampNeg)) v11 hv11) (cwV 2 hts gX6_reason_X6_freeAhead rfl rfl rfl (by decide +kernel) ⟨Nat.le_of_ble_eq_true rfl, Nat.le_of_ble_eq_true rfl⟩) hK hP hS hA hP rfl rfl rfl hl.1 rfl (Nat.le_of_ble_eq_true rfl) dX6_reason_55 ⟨Nat.zero_le _, Nat.zero_le _⟩ (fun H locs hP hS => ?_)
          refine lv_istore_n (lv' := [(3, .int v11), (0, .ref (z 0)), (1, .int x1), (2, .int x2)]) hx hb dX6_reason_58 rfl hl (by decide) rfl (fun ls hl => ?_)
          refine lv_aload_n hx hb dX6_reason_59 rfl (lv_at hl 1 rfl) ?_
          refine lv_iconst (v := (0 : Int32)) hx hb dX6_reason_60 kc_iconst_0 ?_
          refine lv_iload_n hx hb dX6_reason_61 rfl (lv_at hl 3 rfl) ?_
          refine lv_aload_n hx hb dX6_reason_62 rfl (lv_at hl 1 rfl) ?_
          refine va_get (D := D) (ci := 6) (v := .ref (z 1)) (C := RX6) (T := TX6) (N := 12) hx hb hts inX6 hown hK.1 hP 0 rfl rfl 0 (by decide) (hts (.fieldLink RX6 7 "ClosExchangeModel" "s" "[I") (List.mem_of_getElem? (i := 1) rfl)) (fun _ h9 => h9) rfl dX6_reason_63 ?_
          refine lv_iconst (v := (1 : Int32)) hx hb dX6_reason_66 kc_iconst_1 ?_
          obtain ⟨c12, hf⟩ := it_g hf
          refine va_iald hx hb hK.1 hP 1 0 rfl rfl (inb_in c12) dX6_reason_67 ?_
          obtain ⟨c13, hf⟩ := it_g hf
          refine lv_idiv hx hb dX6_reason_68 c13 ?_
          obtain ⟨v14, hv14, hf⟩ := it_b hf
          refine cQi (As := [.int (0 : Int32), .int (x2 / ((g.2 0) (1 : Int32).toNatClampNeg))]) (rest := []) (q0 := 0) (ci := 6) S (c_X6_freeBehind l D cI cN z _ g (0 : Int32) (x2 / ((g.2 0) (1 : Int32).toNatClampNeg)) v14 hv14) (cwV 2 hts gX6_reason_X6_freeBehind rfl rfl rfl (by decide +kernel) ⟨Nat.le_of_ble_eq_true rfl, Nat.le_of_ble_eq_true rfl⟩) hK hP hS hA hP rfl rfl rfl hl.1 rfl (Nat.le_of_ble_eq_true rfl) dX6_reason_69 ⟨Nat.zero_le _, Nat.zero_le _⟩ (fun H locs hP hS => ?_)
          refine lv_istore (lv' := [(4, .int v14), (3, .int v11), (0, .ref (z 0)), (1, .int x1), (2, .int x2)]) hx hb dX6_reason_72 hl (by decide) rfl (fun ls hl => ?_)
          refine lv_iload_n hx hb dX6_reason_74 rfl (lv_at hl 1 rfl) ?_
          refine lv_if_ne (tgt := 82) hx hb dX6_reason_75 (by decide) (fun c15 => ?_) (fun c15 => ?_)
          · have hf := it_f hf c15
            refine lv_iload hx hb dX6_reason_82 (lv_at hl 0 rfl) ?_
            refine lv_if_ne (tgt := 91) hx hb dX6_reason_84 (by decide) (fun c16 => ?_) (fun c16 => ?_)
            · have hf := it_f hf c16
              refine lv_iload_n hx hb dX6_reason_91 rfl (lv_at hl 1 rfl) ?_
              refine lv_iload hx hb dX6_reason_92 (lv_at hl 0 rfl) ?_
              refine lv_iand hx hb dX6_reason_94 ?_
              refine lv_if_eq (tgt := 102) hx hb dX6_reason_95 (by decide) (fun c17 => ?_) (fun c17 => ?_)
              · have hf := it_t hf c17
                refine lv_iconst (v := (1 : Int32)) hx hb dX6_reason_102 kc_iconst_1 ?_
                have e0 : (1 : Int32) = r0 := (Option.some.inj hf)
                subst e0
                exact hret H locs ls _ dX6_reason_103 rfl hS
              · have hf := it_f hf c17
                refine lv_iconst (v := (0 : Int32)) hx hb dX6_reason_98 kc_iconst_0 ?_
                refine lv_goto (tgt := 103) hx hb dX6_reason_99 (by decide) ?_
                have e0 : (0 : Int32) = r0 := (Option.some.inj hf)
                subst e0
                exact hret H locs ls _ dX6_reason_103 rfl hS
            · have hf := it_t hf c16
              refine lv_iconst (v := (5 : Int32)) hx hb dX6_reason_87 kc_iconst_5 ?_
              refine lv_goto (tgt := 103) hx hb dX6_reason_88 (by decide) ?_
              have e0 : (5 : Int32) = r0 := (Option.some.inj hf)
              subst e0
              exact hret H locs ls _ dX6_reason_103 rfl hS
          · have hf := it_t hf c15
            refine lv_iconst (v := (4 : Int32)) hx hb dX6_reason_78 kc_iconst_4 ?_
            refine lv_goto (tgt := 103) hx hb dX6_reason_79 (by decide) ?_
            have e0 : (4 : Int32) = r0 := (Option.some.inj hf)
            subst e0
            exact hret H locs ls _ dX6_reason_103 rfl hS
        · have hf := it_f hf c8
          refine lv_iconst (v := (3 : Int32)) hx hb dX6_reason_43 kc_iconst_3 ?_
          have e0 : (3 : Int32) = r0 := (Option.some.inj hf)
          subst e0
          exact hret H locs ls _ dX6_reason_44 rfl hS
      · have hf := it_f hf c6
        refine lv_iconst (v := (2 : Int32)) hx hb dX6_reason_31 kc_iconst_2 ?_
        have e0 : (2 : Int32) = r0 := (Option.some.inj hf)
        subst e0
        exact hret H locs ls _ dX6_reason_32 rfl hS
    · have hf := it_t hf c4
      refine lv_iconst (v := (-1 : Int32)) hx hb dX6_reason_18 kc_iconst_m1 ?_
      have e0 : (-1 : Int32) = r0 := (Option.some.inj hf)
      subst e0
      exact hret H locs ls _ dX6_reason_19 rfl hS
set_option maxRecDepth 100000 in
theorem c_X6_reason (l : Launch) (D : va_G) (cI cN : ClassId) (z : Nat → Nat) (sz : Nat) (g : OS) (x1 : Int32) (x2 : Int32) (r0 : Int32) (hf : fX6_reason g x1 x2 = some r0) : CtP l D cI cN yX6_reason wsX6_reason rm_X6_reason [.ref (z 0), .int x1, .int x2] (mdW cI z g) sz r0 := by
  refine mP (cc := cX6_reason) (maxL := 5) (ty := .int) (by decide) rfl rfl (Nat.le_of_ble_eq_true rfl) ?_
  intro p e s m args below meth c Q S hK hP hS hret ls hl
  exact w_X6_reason_0 S hK hret hf _ _ _ hP hS (lv_sub (show lv_has ls 5 [(0, .ref (z 0)), (1, .int x1), (2, .int x2)] from hl) [0, 1, 2] rfl)
abbrev rm_X6_leastMiddles : Room := { frames := 2, cells := 0, slots := 0, locals := 50 }
set_option maxRecDepth 100000 in
set_option maxHeartbeats 4000000 in
theorem w_X6_leastMiddles_0 {p : Program} {l : Launch} {e : Env} {s : State} {m : MethodId} {args : Array Value} {below : List Frame} {meth : Method} {c : Code} {Q : State → Prop} {D : va_G} {cI cN : ClassId} {z : Nat → Nat} (S : CallFix p m c cX6_leastMiddles 1 s args wsX6_leastMiddles RX6) (hK : KN D cI cN s) {g : OS} {r0 : Int32} (hret : ∀ (H : Heap) (locs : List Loc) (ls : Array Slot) (pc : Nat), decode cX6_leastMiddles pc = .ok (.ireturn, 1) → narrow .int (.int r0) = .int r0 → va_S (nwA s.heap.size) s.heap H locs → W p l e (headSpec wsX6_leastMiddles rm_X6_leastMiddles).room s m args below meth c H locs 0 0 Q (F0 m pc ls [.int r0])) (hf : fX6_leastMiddles g = some r0) (H : Heap) (locs : List Loc) (ls : Array Slot) (hP : va_P D vwCl (mdW cI z g) H) (hS : va_S (nwA s.heap.size) s.heap H locs) (hl : lv_has ls 1 [(0, .ref (z 0))]) : W p l e (headSpec wsX6_leastMiddles rm_X6_leastMiddles).room s m args below meth c H locs 0 0 Q (F0 m 0 ls []) := by
  obtain ⟨hx, hb, hml, hown, hts⟩ := id S
  have hA : ∀ q : Nat, s.heap.size ≤ q → nwA s.heap.size q := fun _ h => h
  unfold fX6_leastMiddles at hf
  refine lv_aload_n hx hb dX6_leastMiddles_0 rfl (lv_at hl 0 rfl) ?_
  refine lv_iconst (v := (0 : Int32)) hx hb dX6_leastMiddles_1 kc_iconst_0 ?_
  obtain ⟨v1, hv1, hf⟩ := it_b hf
  refine cQi (As := [.int (0 : Int32)]) (rest := []) (q0 := 0) (ci := 6) S (c_X6_least l D cI cN z _ g (0 : Int32) v1 hv1) (cwV 1 hts gX6_leastMiddles_X6_least rfl rfl rfl (by decide +kernel) ⟨Nat.le_of_ble_eq_true rfl, Nat.le_of_ble_eq_true rfl⟩) hK hP hS hA hP rfl rfl rfl hl.1 rfl (Nat.le_of_ble_eq_true rfl) dX6_leastMiddles_2 ⟨Nat.zero_le _, Nat.zero_le _⟩ (fun H locs hP hS => ?_)
  have e0 : v1 = r0 := (Option.some.inj hf)
  subst e0
  exact hret H locs ls _ dX6_leastMiddles_5 rfl hS
set_option maxRecDepth 100000 in
theorem c_X6_leastMiddles (l : Launch) (D : va_G) (cI cN : ClassId) (z : Nat → Nat) (sz : Nat) (g : OS) (r0 : Int32) (hf : fX6_leastMiddles g = some r0) : CtP l D cI cN yX6_leastMiddles wsX6_leastMiddles rm_X6_leastMiddles [.ref (z 0)] (mdW cI z g) sz r0 := by
  refine mP (cc := cX6_leastMiddles) (maxL := 1) (ty := .int) (by decide) rfl rfl (Nat.le_of_ble_eq_true rfl) ?_
  intro p e s m args below meth c Q S hK hP hS hret ls hl
  exact w_X6_leastMiddles_0 S hK hret hf _ _ _ hP hS (lv_sub (show lv_has ls 1 [(0, .ref (z 0))] from hl) [0] rfl)
abbrev rm_X6_wouldDrop : Room := { frames := 6, cells := 0, slots := 0, locals := 155 }
set_option maxRecDepth 100000 in
set_option maxHeartbeats 4000000 in
theorem w_X6_wouldDrop_0 {p : Program} {l : Launch} {e : Env} {s : State} {m : MethodId} {args : Array Value} {below : List Frame} {meth : Method} {c : Code} {Q : State → Prop} {D : va_G} {cI cN : ClassId} {A : Nat → Prop} {z : Nat → Nat} (S : CallFix p m c cX6_wouldDrop 2 s args wsX6_wouldDrop RX6) (hK : KN D cI cN s) (hA : ∀ q : Nat, s.heap.size ≤ q → A q) {g : OS} {x1 : Int32} {r0 : Int32} {g' : OS} (hret : ∀ (H : Heap) (locs : List Loc) (ls : Array Slot) (pc : Nat), decode cX6_wouldDrop pc = .ok (.ireturn, 1) → narrow .int (.int r0) = .int r0 → va_P D vwCl (mdW cI z g') H → va_D A (mdW cI z g') → va_S A s.heap H locs → W p l e (headSpec wsX6_wouldDrop rm_X6_wouldDrop).room s m args below meth c H locs 0 0 Q (F0 m pc ls [.int r0])) (hf : fX6_wouldDrop g x1 = some (r0, g')) (H : Heap) (locs : List Loc) (ls : Array Slot) (hP : va_P D vwCl (mdW cI z g) H) (hD : va_D A (mdW cI z g)) (hS : va_S A s.heap H locs) (hl : lv_has ls 2 [(0, .ref (z 0)), (1, .int x1)]) : W p l e (headSpec wsX6_wouldDrop rm_X6_wouldDrop).room s m args below meth c H locs 0 0 Q (F0 m 0 ls []) := by
  obtain ⟨hx, hb, hml, hown, hts⟩ := id S
  unfold fX6_wouldDrop at hf
  refine lv_aload_n hx hb dX6_wouldDrop_0 rfl (lv_at hl 0 rfl) ?_
  refine lv_iconst (v := (0 : Int32)) hx hb dX6_wouldDrop_1 kc_iconst_0 ?_
  refine lv_bipush (v := (6 : Int32)) hx hb dX6_wouldDrop_2 kc_bipush_6 ?_
  obtain ⟨v1, hv1, hf⟩ := it_b hf
  refine cBv (As := [.int (0 : Int32), .int (6 : Int32)]) (rest := []) (q0 := 0) (ci := 6) [(true, (mdW cI z g), (mdW cI z v1))] ⟨ad_mod, (fun h => Bool.noConfusion h), trivial⟩ S (c_X6_copies l D cI cN z _ g (0 : Int32) (6 : Int32) v1 hv1) (cwV 2 hts gX6_wouldDrop_X6_copies rfl rfl rfl (by decide +kernel) ⟨Nat.le_of_ble_eq_true rfl, Nat.le_of_ble_eq_true rfl⟩) hK hP hD hS hA rfl rfl rfl hl.1 rfl (Nat.le_of_ble_eq_true rfl) dX6_wouldDrop_4 ⟨Nat.zero_le _, Nat.zero_le _⟩ (fun H locs hP hD hS => ?_)
  refine lv_aload_n hx hb dX6_wouldDrop_7 rfl (lv_at hl 0 rfl) ?_
  refine lv_sipush (v := (924 : Int32)) hx hb dX6_wouldDrop_8 kc_sipush_924 ?_
  refine lv_iload_n hx hb dX6_wouldDrop_11 rfl (lv_at hl 1 rfl) ?_
  obtain ⟨v2, hv2, hf⟩ := it_b hf
  refine cBi (As := [.int (924 : Int32), .int x1]) (rest := []) (q0 := 0) (ci := 6) [(true, (mdW cI z v1), (mdW cI z v2.2))] ⟨ad_mod, (fun h => Bool.noConfusion h), trivial⟩ S (c_X6_takesOut l D cI cN z _ v1 (924 : Int32) x1 v2.1 v2.2 hv2) (cwV 2 hts gX6_wouldDrop_X6_takesOut rfl rfl rfl (by decide +kernel) ⟨Nat.le_of_ble_eq_true rfl, Nat.le_of_ble_eq_true rfl⟩) hK hP hD hS hA rfl rfl rfl hl.1 rfl (Nat.le_of_ble_eq_true rfl) dX6_wouldDrop_12 ⟨Nat.zero_le _, Nat.zero_le _⟩ (fun H locs hP hD hS => ?_)
  have e0 : v2.1 = r0 := congrArg (fun z => z.1) (Option.some.inj hf)
  have e1 : v2.2 = g' := congrArg (fun z => z.2) (Option.some.inj hf)
  subst e0
  subst e1
  exact hret H locs ls _ dX6_wouldDrop_15 rfl hP hD hS
set_option maxRecDepth 100000 in
theorem c_X6_wouldDrop (l : Launch) (D : va_G) (cI cN : ClassId) (z : Nat → Nat) (sz : Nat) (g : OS) (x1 : Int32) (r0 : Int32) (g' : OS) (hf : fX6_wouldDrop g x1 = some (r0, g')) : CtI l D cI cN yX6_wouldDrop wsX6_wouldDrop rm_X6_wouldDrop 0 0 [.ref (z 0), .int x1] (mdW cI z g) sz r0 (mdW cI z g') := by
  refine mW (cc := cX6_wouldDrop) (maxL := 2) (ty := .int) (by decide) rfl rfl (Nat.le_of_ble_eq_true rfl) ?_
  intro p e s m args below meth c Q A S hK hP hD hS hA hret ls hl
  exact w_X6_wouldDrop_0 S hK hA hret hf _ _ _ hP hD hS (lv_sub (show lv_has ls 2 [(0, .ref (z 0)), (1, .int x1)] from hl) [0, 1] rfl)
abbrev rm_X6_reachable : Room := { frames := 3, cells := 0, slots := 0, locals := 71 }
theorem in_X6_reachable_X6 : ∀ w ∈ u_ws RX6 TX6 12, w ∈ wsX6_reachable := fun w h => List.mem_cons_of_mem _ (List.mem_append_right _ h)
set_option maxRecDepth 100000 in
set_option maxHeartbeats 4000000 in
theorem w_X6_reachable_44 {p : Program} {l : Launch} {e : Env} {s : State} {m : MethodId} {args : Array Value} {below : List Frame} {meth : Method} {c : Code} {Q : State → Prop} {D : va_G} {cI cN : ClassId} {z : Nat → Nat} (S : CallFix p m c cX6_reachable 6 s args wsX6_reachable RX6) (hK : KN D cI cN s) {g : OS} {x2 : Int32} {r0 : Int32} (hret : ∀ (H : Heap) (locs : List Loc) (ls : Array Slot) (pc : Nat), decode cX6_reachable pc = .ok (.ireturn, 1) → narrow .int (.int r0) = .int r0 → va_S (nwA s.heap.size) s.heap H locs → W p l e (headSpec wsX6_reachable rm_X6_reachable).room s m args below meth c H locs 0 0 Q (F0 m pc ls [.int r0])) : ∀ (k : Nat) (x3 : Int32) (x4 : Int32), fX6_reachable_44 g x2 k x3 x4 = some r0 → ∀ (H : Heap) (locs : List Loc) (ls : Array Slot), va_P D vwCl (mdW cI z g) H → va_S (nwA s.heap.size) s.heap H locs → lv_has ls 6 [(0, .ref (z 0)), (2, .int x2), (3, .int x3), (4, .int x4)] → W p l e (headSpec wsX6_reachable rm_X6_reachable).room s m args below meth c H locs 0 0 Q (F0 m 44 ls []) := by
  obtain ⟨hx, hb, hml, hown, hts⟩ := id S
  have inX6 := in_X6_reachable_X6
  have hA : ∀ q : Nat, s.heap.size ≤ q → nwA s.heap.size q := fun _ h => h
  intro k
  induction k with
  | zero => intro x3 x4 hf; rw [fX6_reachable_44_z] at hf; cases hf
  | succ k ih =>
    intro x3 x4 hf H locs ls hP hS hl
    rw [fX6_reachable_44_s] at hf
    refine lv_iload hx hb dX6_reachable_44 (lv_at hl 3 rfl) ?_
    refine lv_aload_n hx hb dX6_reachable_46 rfl (lv_at hl 0 rfl) ?_
    refine lv_iconst (v := (0 : Int32)) hx hb dX6_reachable_47 kc_iconst_0 ?_
    obtain ⟨v8, hv8, hf⟩ := it_b hf
    refine cQi (As := [.int (0 : Int32)]) (rest := [.int x4]) (q0 := 0) (ci := 6) S (c_X6_lines l D cI cN z _ g (0 : Int32) v8 hv8) (cwV 1 hts gX6_reachable_X6_lines rfl rfl rfl (by decide +kernel) ⟨Nat.le_of_ble_eq_true rfl, Nat.le_of_ble_eq_true rfl⟩) hK hP hS hA hP rfl rfl rfl hl.1 rfl (Nat.le_of_ble_eq_true rfl) dX6_reachable_48 ⟨Nat.zero_le _, Nat.zero_le _⟩ (fun H locs hP hS => ?_)
    refine lv_icmp_ge (tgt := 110) hx hb dX6_reachable_51 (by decide) (fun c9 => ?_) (fun c9 => ?_)
    · have hf := it_t hf c9
      refine lv_iload_n hx hb dX6_reachable_110 rfl (lv_at hl 2 rfl) ?_
      have e0 : x3 = r0 := (Option.some.inj hf)
      subst e0
      exact hret H locs ls _ dX6_reachable_111 rfl hS
    · have hf := it_f hf c9
      refine lv_aload_n hx hb dX6_reachable_54 rfl (lv_at hl 0 rfl) ?_
      refine lv_iconst (v := (0 : Int32)) hx hb dX6_reachable_55 kc_iconst_0 ?_
      refine lv_iload hx hb dX6_reachable_56 (lv_at hl 3 rfl) ?_
      obtain ⟨v10, hv10, hf⟩ := it_b hf
      refine cQi (As := [.int (0 : Int32), .int x4]) (rest := []) (q0 := 0) (ci := 6) S (c_X6_inletTo l D cI cN z _ g (0 : Int32) x4 v10 hv10) (cwV 2 hts gX6_reachable_X6_inletTo rfl rfl rfl (by decide +kernel) ⟨Nat.le_of_ble_eq_true rfl, Nat.le_of_ble_eq_true rfl⟩) hK hP hS hA hP rfl rfl rfl hl.1 rfl (Nat.le_of_ble_eq_true rfl) dX6_reachable_58 ⟨Nat.zero_le _, Nat.zero_le _⟩ (fun H locs hP hS => ?_)
      refine lv_iconst (v := (-1 : Int32)) hx hb dX6_reachable_61 kc_iconst_m1 ?_
      obtain ⟨v16, hg, hf⟩ := it_b hf
      have hj : ∀ (H : Heap) (locs : List Loc) (ls : Array Slot), va_P D vwCl (mdW cI z g) H → va_S (nwA s.heap.size) s.heap H locs → lv_has ls 6 [(0, .ref (z 0)), (2, .int x2), (3, .int x3), (4, .int x4)] → W p l e (headSpec wsX6_reachable rm_X6_reachable).room s m args below meth c H locs 0 0 Q (F0 m 89 ls [.int v16]) := by
        intro H locs ls hP hS hl
        refine lv_istore (lv' := [(5, .int v16), (0, .ref (z 0)), (2, .int x2), (3, .int x3), (4, .int x4)]) hx hb dX6_reachable_89 hl (by decide) rfl (fun ls hl => ?_)
        refine lv_iload_n hx hb dX6_reachable_91 rfl (lv_at hl 3 rfl) ?_
        refine lv_iload hx hb dX6_reachable_92 (lv_at hl 0 rfl) ?_
        refine lv_if_eq (tgt := 101) hx hb dX6_reachable_94 (by decide) (fun c17 => ?_) (fun c17 => ?_)
        · have hf := it_t hf c17
          refine lv_iconst (v := (0 : Int32)) hx hb dX6_reachable_101 kc_iconst_0 ?_
          refine lv_iadd hx hb dX6_reachable_102 ?_
          refine lv_istore_n (lv' := [(3, .int (x3 + (0 : Int32))), (5, .int v16), (0, .ref (z 0)), (2, .int x2), (4, .int x4)]) hx hb dX6_reachable_103 rfl hl (by decide) rfl (fun ls hl => ?_)
          refine lv_iinc (v := (x4 + (1 : Int32))) (lv' := [(4, .int (x4 + (1 : Int32))), (3, .int (x3 + (0 : Int32))), (5, .int v16), (0, .ref (z 0)), (2, .int x2)]) hx hb dX6_reachable_104 hl (k := 4) rfl rfl (by decide) rfl (fun ls hl => ?_)
          refine lv_goto (tgt := 44) hx hb dX6_reachable_107 (by decide) ?_
          exact ih _ _ hf H locs ls hP hS (lv_sub hl [3, 4, 1, 0] rfl)
        · have hf := it_f hf c17
          refine lv_iconst (v := (1 : Int32)) hx hb dX6_reachable_97 kc_iconst_1 ?_
          refine lv_goto (tgt := 102) hx hb dX6_reachable_98 (by decide) ?_
          refine lv_iadd hx hb dX6_reachable_102 ?_
          refine lv_istore_n (lv' := [(3, .int (x3 + (1 : Int32))), (5, .int v16), (0, .ref (z 0)), (2, .int x2), (4, .int x4)]) hx hb dX6_reachable_103 rfl hl (by decide) rfl (fun ls hl => ?_)
          refine lv_iinc (v := (x4 + (1 : Int32))) (lv' := [(4, .int (x4 + (1 : Int32))), (3, .int (x3 + (1 : Int32))), (5, .int v16), (0, .ref (z 0)), (2, .int x2)]) hx hb dX6_reachable_104 hl (k := 4) rfl rfl (by decide) rfl (fun ls hl => ?_)
          refine lv_goto (tgt := 44) hx hb dX6_reachable_107 (by decide) ?_
          exact ih _ _ hf H locs ls hP hS (lv_sub hl [3, 4, 1, 0] rfl)
      have hf := hg
      refine lv_icmp_ne (tgt := 88) hx hb dX6_reachable_62 (by decide) (fun c11 => ?_) (fun c11 => ?_)
      · have hf := it_f hf c11
        refine lv_iconst (v := (0 : Int32)) hx hb dX6_reachable_88 kc_iconst_0 ?_
        have e0 := Option.some.inj hf
        subst e0
        exact hj H locs ls hP hS (lv_sub hl [0, 1, 2, 3] rfl)
      · have hf := it_t hf c11
        refine lv_iload_n hx hb dX6_reachable_65 rfl (lv_at hl 1 rfl) ?_
        refine lv_aload_n hx hb dX6_reachable_66 rfl (lv_at hl 0 rfl) ?_
        refine lv_iconst (v := (0 : Int32)) hx hb dX6_reachable_67 kc_iconst_0 ?_
        refine lv_iload hx hb dX6_reachable_68 (lv_at hl 3 rfl) ?_
        refine lv_aload_n hx hb dX6_reachable_70 rfl (lv_at hl 0 rfl) ?_
        refine va_get (D := D) (ci := 6) (v := .ref (z 1)) (C := RX6) (T := TX6) (N := 12) hx hb hts inX6 hown hK.1 hP 0 rfl rfl 0 (by decide) (hts (.fieldLink RX6 7 "ClosExchangeModel" "s" "[I") (List.mem_of_getElem? (i := 1) rfl)) (fun _ h9 => h9) rfl dX6_reachable_71 ?_
        refine lv_iconst (v := (1 : Int32)) hx hb dX6_reachable_74 kc_iconst_1 ?_
        obtain ⟨c12, hf⟩ := it_g hf
        refine va_iald hx hb hK.1 hP 1 0 rfl rfl (inb_in c12) dX6_reachable_75 ?_
        obtain ⟨c13, hf⟩ := it_g hf
        refine lv_idiv hx hb dX6_reachable_76 c13 ?_
        obtain ⟨v14, hv14, hf⟩ := it_b hf
        refine cQi (As := [.int (0 : Int32), .int (x4 / ((g.2 0) (1 : Int32).toNatClampNeg))]) (rest := [.int x2]) (q0 := 0) (ci := 6) S (c_X6_freeBehind l D cI cN z _ g (0 : Int32) (x4 / ((g.2 0) (1 : Int32).toNatClampNeg)) v14 hv14) (cwV 2 hts gX6_reachable_X6_freeBehind rfl rfl rfl (by decide +kernel) ⟨Nat.le_of_ble_eq_true rfl, Nat.le_of_ble_eq_true rfl⟩) hK hP hS hA hP rfl rfl rfl hl.1 rfl (Nat.le_of_ble_eq_true rfl) dX6_reachable_77 ⟨Nat.zero_le _, Nat.zero_le _⟩ (fun H locs hP hS => ?_)
        refine lv_iand hx hb dX6_reachable_80 ?_
        refine lv_if_eq (tgt := 88) hx hb dX6_reachable_81 (by decide) (fun c15 => ?_) (fun c15 => ?_)
        · have hf := it_t hf c15
          refine lv_iconst (v := (0 : Int32)) hx hb dX6_reachable_88 kc_iconst_0 ?_
          have e0 := Option.some.inj hf
          subst e0
          exact hj H locs ls hP hS (lv_sub hl [0, 1, 2, 3] rfl)
        · have hf := it_f hf c15
          refine lv_iconst (v := (1 : Int32)) hx hb dX6_reachable_84 kc_iconst_1 ?_
          refine lv_goto (tgt := 89) hx hb dX6_reachable_85 (by decide) ?_
          have e0 := Option.some.inj hf
          subst e0
          exact hj H locs ls hP hS (lv_sub hl [0, 1, 2, 3] rfl)
set_option maxRecDepth 100000 in
set_option maxHeartbeats 4000000 in
theorem w_X6_reachable_0 {p : Program} {l : Launch} {e : Env} {s : State} {m : MethodId} {args : Array Value} {below : List Frame} {meth : Method} {c : Code} {Q : State → Prop} {D : va_G} {cI cN : ClassId} {z : Nat → Nat} (S : CallFix p m c cX6_reachable 6 s args wsX6_reachable RX6) (hK : KN D cI cN s) {g : OS} {x1 : Int32} {r0 : Int32} (hret : ∀ (H : Heap) (locs : List Loc) (ls : Array Slot) (pc : Nat), decode cX6_reachable pc = .ok (.ireturn, 1) → narrow .int (.int r0) = .int r0 → va_S (nwA s.heap.size) s.heap H locs → W p l e (headSpec wsX6_reachable rm_X6_reachable).room s m args below meth c H locs 0 0 Q (F0 m pc ls [.int r0])) (hf : fX6_reachable g x1 = some r0) (H : Heap) (locs : List Loc) (ls : Array Slot) (hP : va_P D vwCl (mdW cI z g) H) (hS : va_S (nwA s.heap.size) s.heap H locs) (hl : lv_has ls 6 [(0, .ref (z 0)), (1, .int x1)]) : W p l e (headSpec wsX6_reachable rm_X6_reachable).room s m args below meth c H locs 0 0 Q (F0 m 0 ls []) := by
  obtain ⟨hx, hb, hml, hown, hts⟩ := id S
  have inX6 := in_X6_reachable_X6
  have hA : ∀ q : Nat, s.heap.size ≤ q → nwA s.heap.size q := fun _ h => h
  unfold fX6_reachable at hf
  refine lv_aload_n hx hb dX6_reachable_0 rfl (lv_at hl 0 rfl) ?_
  refine lv_iconst (v := (0 : Int32)) hx hb dX6_reachable_1 kc_iconst_0 ?_
  refine lv_iload_n hx hb dX6_reachable_2 rfl (lv_at hl 1 rfl) ?_
  obtain ⟨v1, hv1, hf⟩ := it_b hf
  refine cQi (As := [.int (0 : Int32), .int x1]) (rest := []) (q0 := 0) (ci := 6) S (c_X6_isLine l D cI cN z _ g (0 : Int32) x1 v1 hv1) (cwV 2 hts gX6_reachable_X6_isLine rfl rfl rfl (by decide +kernel) ⟨Nat.le_of_ble_eq_true rfl, Nat.le_of_ble_eq_true rfl⟩) hK hP hS hA hP rfl rfl rfl hl.1 rfl (Nat.le_of_ble_eq_true rfl) dX6_reachable_3 ⟨Nat.zero_le _, Nat.zero_le _⟩ (fun H locs hP hS => ?_)
  refine lv_if_ne (tgt := 11) hx hb dX6_reachable_6 (by decide) (fun c2 => ?_) (fun c2 => ?_)
  · have hf := it_f hf c2
    refine lv_aload_n hx hb dX6_reachable_11 rfl (lv_at hl 0 rfl) ?_
    refine lv_iconst (v := (0 : Int32)) hx hb dX6_reachable_12 kc_iconst_0 ?_
    refine lv_iload_n hx hb dX6_reachable_13 rfl (lv_at hl 1 rfl) ?_
    refine lv_iconst (v := (0 : Int32)) hx hb dX6_reachable_14 kc_iconst_0 ?_
    obtain ⟨v3, hv3, hf⟩ := it_b hf
    refine cQi (As := [.int (0 : Int32), .int x1, .int (0 : Int32)]) (rest := []) (q0 := 0) (ci := 6) S (c_X6_of l D cI cN z _ g (0 : Int32) x1 (0 : Int32) v3 hv3) (cwV 3 hts gX6_reachable_X6_of rfl rfl rfl (by decide +kernel) ⟨Nat.le_of_ble_eq_true rfl, Nat.le_of_ble_eq_true rfl⟩) hK hP hS hA hP rfl rfl rfl hl.1 rfl (Nat.le_of_ble_eq_true rfl) dX6_reachable_15 ⟨Nat.zero_le _, Nat.zero_le _⟩ (fun H locs hP hS => ?_)
    refine lv_iconst (v := (-1 : Int32)) hx hb dX6_reachable_18 kc_iconst_m1 ?_
    refine lv_icmp_eq (tgt := 25) hx hb dX6_reachable_19 (by decide) (fun c4 => ?_) (fun c4 => ?_)
    · have hf := it_t hf c4
      refine lv_aload_n hx hb dX6_reachable_25 rfl (lv_at hl 0 rfl) ?_
      refine lv_iconst (v := (0 : Int32)) hx hb dX6_reachable_26 kc_iconst_0 ?_
      refine lv_iload_n hx hb dX6_reachable_27 rfl (lv_at hl 1 rfl) ?_
      refine lv_aload_n hx hb dX6_reachable_28 rfl (lv_at hl 0 rfl) ?_
      refine va_get (D := D) (ci := 6) (v := .ref (z 1)) (C := RX6) (T := TX6) (N := 12) hx hb hts inX6 hown hK.1 hP 0 rfl rfl 0 (by decide) (hts (.fieldLink RX6 7 "ClosExchangeModel" "s" "[I") (List.mem_of_getElem? (i := 1) rfl)) (fun _ h9 => h9) rfl dX6_reachable_29 ?_
      refine lv_iconst (v := (1 : Int32)) hx hb dX6_reachable_32 kc_iconst_1 ?_
      obtain ⟨c5, hf⟩ := it_g hf
      refine va_iald hx hb hK.1 hP 1 0 rfl rfl (inb_in c5) dX6_reachable_33 ?_
      obtain ⟨c6, hf⟩ := it_g hf
      refine lv_idiv hx hb dX6_reachable_34 c6 ?_
      obtain ⟨v7, hv7, hf⟩ := it_b hf
      refine cQi (As := [.int (0 : Int32), .int (x1 / ((g.2 0) (1 : Int32).toNatClampNeg))]) (rest := []) (q0 := 0) (ci := 6) S (c_X6_freeAhead l D cI cN z _ g (0 : Int32) (x1 / ((g.2 0) (1 : Int32).toNatClampNeg)) v7 hv7) (cwV 2 hts gX6_reachable_X6_freeAhead rfl rfl rfl (by decide +kernel) ⟨Nat.le_of_ble_eq_true rfl, Nat.le_of_ble_eq_true rfl⟩) hK hP hS hA hP rfl rfl rfl hl.1 rfl (Nat.le_of_ble_eq_true rfl) dX6_reachable_35 ⟨Nat.zero_le _, Nat.zero_le _⟩ (fun H locs hP hS => ?_)
      refine lv_istore_n (lv' := [(2, .int v7), (0, .ref (z 0)), (1, .int x1)]) hx hb dX6_reachable_38 rfl hl (by decide) rfl (fun ls hl => ?_)
      refine lv_iconst (v := (0 : Int32)) hx hb dX6_reachable_39 kc_iconst_0 ?_
      refine lv_istore_n (lv' := [(3, .int (0 : Int32)), (2, .int v7), (0, .ref (z 0)), (1, .int x1)]) hx hb dX6_reachable_40 rfl hl (by decide) rfl (fun ls hl => ?_)
      refine lv_iconst (v := (0 : Int32)) hx hb dX6_reachable_41 kc_iconst_0 ?_
      refine lv_istore (lv' := [(4, .int (0 : Int32)), (3, .int (0 : Int32)), (2, .int v7), (0, .ref (z 0)), (1, .int x1)]) hx hb dX6_reachable_42 hl (by decide) rfl (fun ls hl => ?_)
      exact w_X6_reachable_44 S hK hret _ _ _ hf H locs ls hP hS (lv_sub hl [3, 2, 1, 0] rfl)
    · have hf := it_f hf c4
      refine lv_bipush (v := (-3 : Int32)) hx hb dX6_reachable_22 kc_bipush_m3 ?_
      have e0 : (-3 : Int32) = r0 := (Option.some.inj hf)
      subst e0
      exact hret H locs ls _ dX6_reachable_24 rfl hS
  · have hf := it_t hf c2
    refine lv_iconst (v := (-1 : Int32)) hx hb dX6_reachable_9 kc_iconst_m1 ?_
    have e0 : (-1 : Int32) = r0 := (Option.some.inj hf)
    subst e0
    exact hret H locs ls _ dX6_reachable_10 rfl hS
set_option maxRecDepth 100000 in
theorem c_X6_reachable (l : Launch) (D : va_G) (cI cN : ClassId) (z : Nat → Nat) (sz : Nat) (g : OS) (x1 : Int32) (r0 : Int32) (hf : fX6_reachable g x1 = some r0) : CtP l D cI cN yX6_reachable wsX6_reachable rm_X6_reachable [.ref (z 0), .int x1] (mdW cI z g) sz r0 := by
  refine mP (cc := cX6_reachable) (maxL := 6) (ty := .int) (by decide) rfl rfl (Nat.le_of_ble_eq_true rfl) ?_
  intro p e s m args below meth c Q S hK hP hS hret ls hl
  exact w_X6_reachable_0 S hK hret hf _ _ _ hP hS (lv_sub (show lv_has ls 6 [(0, .ref (z 0)), (1, .int x1)] from hl) [0, 1] rfl)
