abbrev rm_L_up : Room := { frames := 0, cells := 0, slots := 0, locals := 0 }
set_option maxRecDepth 100000 in
set_option maxHeartbeats 4000000 in
theorem w_L_up_0 {p : Program} {l : Launch} {e : Env} {s : State} {m : MethodId} {args : Array Value} {below : List Frame} {meth : Method} {c : Code} {Q : State → Prop} {D : va_G} {cI cN : ClassId}  (S : CallFix p m c cL_up 2 s args wsL_up RL) (hK : KN D cI cN s) {x0 : Int32} {x1 : Int32} {r0 : Int32} (hret : ∀ (H : Heap) (locs : List Loc) (ls : Array Slot) (pc : Nat), decode cL_up pc = .ok (.ireturn, 1) → narrow .int (.int r0) = .int r0 → va_S (nwA s.heap.size) s.heap H locs → W p l e (headSpec wsL_up rm_L_up).room s m args below meth c H locs 0 0 Q (F0 m pc ls [.int r0])) (hf : fL_up x0 x1 = some r0) (H : Heap) (locs : List Loc) (ls : Array Slot) (hP : va_P D vwCl ([] : va_W) H) (hS : va_S (nwA s.heap.size) s.heap H locs) (hl : lv_has ls 2 [(0, .int x0), (1, .int x1)]) : W p l e (headSpec wsL_up rm_L_up).room s m args below meth c H locs 0 0 Q (F0 m 0 ls []) := by
  obtain ⟨hx, hb, hml, hown, hts⟩ := id S
  have hA : ∀ q : Nat, s.heap.size ≤ q → nwA s.heap.size q := fun _ h => h
  unfold fL_up at hf
  refine lv_iload_n hx hb dL_up_0 rfl (lv_at hl 0 rfl) ?_
  refine lv_ldc (v := (2147483647 : Int32)) hx hb hown (hts (.constant RL 8 (2147483647)) (List.mem_of_getElem? (i := 1) rfl)) dL_up_1 ?_
  refine lv_iand hx hb dL_up_3 ?_
  refine lv_iload_n hx hb dL_up_4 rfl (lv_at hl 1 rfl) ?_
  obtain ⟨c1, hf⟩ := it_g hf
  refine lv_irem hx hb dL_up_5 c1 ?_
  have e0 : ((x0 &&& (2147483647 : Int32)) - (x0 &&& (2147483647 : Int32)) / x1 * x1) = r0 := (Option.some.inj hf)
  subst e0
  exact hret H locs ls _ dL_up_6 rfl hS
set_option maxRecDepth 100000 in
theorem c_L_up (l : Launch) (D : va_G) (cI cN : ClassId)  (sz : Nat) (x0 : Int32) (x1 : Int32) (r0 : Int32) (hf : fL_up x0 x1 = some r0) : CtP l D cI cN yL_up wsL_up rm_L_up [.int x0, .int x1] ([] : va_W) sz r0 := by
  refine mP (cc := cL_up) (maxL := 2) (ty := .int) (by decide) rfl rfl (Nat.le_of_ble_eq_true rfl) ?_
  intro p e s m args below meth c Q S hK hP hS hret ls hl
  exact w_L_up_0 S hK hret hf _ _ _ hP hS (lv_sub (show lv_has ls 2 [(0, .int x0), (1, .int x1)] from hl) [0, 1] rfl)
abbrev rm_L_bits : Room := { frames := 0, cells := 0, slots := 0, locals := 0 }
set_option maxRecDepth 100000 in
set_option maxHeartbeats 4000000 in
theorem w_L_bits_4 {p : Program} {l : Launch} {e : Env} {s : State} {m : MethodId} {args : Array Value} {below : List Frame} {meth : Method} {c : Code} {Q : State → Prop} {D : va_G} {cI cN : ClassId}  (S : CallFix p m c cL_bits 3 s args wsL_bits RL) (hK : KN D cI cN s) {x0 : Int32} {r0 : Int32} (hret : ∀ (H : Heap) (locs : List Loc) (ls : Array Slot) (pc : Nat), decode cL_bits pc = .ok (.ireturn, 1) → narrow .int (.int r0) = .int r0 → va_S (nwA s.heap.size) s.heap H locs → W p l e (headSpec wsL_bits rm_L_bits).room s m args below meth c H locs 0 0 Q (F0 m pc ls [.int r0])) : ∀ (k : Nat) (x1 : Int32) (x2 : Int32), fL_bits_4 x0 k x1 x2 = some r0 → ∀ (H : Heap) (locs : List Loc) (ls : Array Slot), va_P D vwCl ([] : va_W) H → va_S (nwA s.heap.size) s.heap H locs → lv_has ls 3 [(0, .int x0), (1, .int x1), (2, .int x2)] → W p l e (headSpec wsL_bits rm_L_bits).room s m args below meth c H locs 0 0 Q (F0 m 4 ls []) := by
  obtain ⟨hx, hb, hml, hown, hts⟩ := id S
  have hA : ∀ q : Nat, s.heap.size ≤ q → nwA s.heap.size q := fun _ h => h
  intro k
  induction k with
  | zero => intro x1 x2 hf; rw [fL_bits_4_z] at hf; cases hf
  | succ k ih =>
    intro x1 x2 hf H locs ls hP hS hl
    rw [fL_bits_4_s] at hf
    refine lv_iload_n hx hb dL_bits_4 rfl (lv_at hl 2 rfl) ?_
    refine lv_bipush (v := (8 : Int32)) hx hb dL_bits_5 kc_bipush_8 ?_
    refine lv_icmp_ge (tgt := 24) hx hb dL_bits_7 (by decide) (fun c1 => ?_) (fun c1 => ?_)
    · have hf := it_t hf c1
      refine lv_iload_n hx hb dL_bits_24 rfl (lv_at hl 1 rfl) ?_
      have e0 : x1 = r0 := (Option.some.inj hf)
      subst e0
      exact hret H locs ls _ dL_bits_25 rfl hS
    · have hf := it_f hf c1
      refine lv_iload_n hx hb dL_bits_10 rfl (lv_at hl 1 rfl) ?_
      refine lv_iload_n hx hb dL_bits_11 rfl (lv_at hl 0 rfl) ?_
      refine lv_iload_n hx hb dL_bits_12 rfl (lv_at hl 2 rfl) ?_
      refine lv_ishr hx hb dL_bits_13 ?_
      refine lv_iconst (v := (1 : Int32)) hx hb dL_bits_14 kc_iconst_1 ?_
      refine lv_iand hx hb dL_bits_15 ?_
      refine lv_iadd hx hb dL_bits_16 ?_
      refine lv_istore_n (lv' := [(1, .int (x1 + ((x0 >>> (x2 &&& 31)) &&& (1 : Int32)))), (0, .int x0), (2, .int x2)]) hx hb dL_bits_17 rfl hl (by decide) rfl (fun ls hl => ?_)
      refine lv_iinc (v := (x2 + (1 : Int32))) (lv' := [(2, .int (x2 + (1 : Int32))), (1, .int (x1 + ((x0 >>> (x2 &&& 31)) &&& (1 : Int32)))), (0, .int x0)]) hx hb dL_bits_18 hl (k := 2) rfl rfl (by decide) rfl (fun ls hl => ?_)
      refine lv_goto (tgt := 4) hx hb dL_bits_21 (by decide) ?_
      exact ih _ _ hf H locs ls hP hS (lv_sub hl [2, 1, 0] rfl)
set_option maxRecDepth 100000 in
set_option maxHeartbeats 4000000 in
theorem w_L_bits_0 {p : Program} {l : Launch} {e : Env} {s : State} {m : MethodId} {args : Array Value} {below : List Frame} {meth : Method} {c : Code} {Q : State → Prop} {D : va_G} {cI cN : ClassId}  (S : CallFix p m c cL_bits 3 s args wsL_bits RL) (hK : KN D cI cN s) {x0 : Int32} {r0 : Int32} (hret : ∀ (H : Heap) (locs : List Loc) (ls : Array Slot) (pc : Nat), decode cL_bits pc = .ok (.ireturn, 1) → narrow .int (.int r0) = .int r0 → va_S (nwA s.heap.size) s.heap H locs → W p l e (headSpec wsL_bits rm_L_bits).room s m args below meth c H locs 0 0 Q (F0 m pc ls [.int r0])) (hf : fL_bits x0 = some r0) (H : Heap) (locs : List Loc) (ls : Array Slot) (hP : va_P D vwCl ([] : va_W) H) (hS : va_S (nwA s.heap.size) s.heap H locs) (hl : lv_has ls 3 [(0, .int x0)]) : W p l e (headSpec wsL_bits rm_L_bits).room s m args below meth c H locs 0 0 Q (F0 m 0 ls []) := by
  obtain ⟨hx, hb, hml, hown, hts⟩ := id S
  have hA : ∀ q : Nat, s.heap.size ≤ q → nwA s.heap.size q := fun _ h => h
  unfold fL_bits at hf
  refine lv_iconst (v := (0 : Int32)) hx hb dL_bits_0 kc_iconst_0 ?_
  refine lv_istore_n (lv' := [(1, .int (0 : Int32)), (0, .int x0)]) hx hb dL_bits_1 rfl hl (by decide) rfl (fun ls hl => ?_)
  refine lv_iconst (v := (0 : Int32)) hx hb dL_bits_2 kc_iconst_0 ?_
  refine lv_istore_n (lv' := [(2, .int (0 : Int32)), (1, .int (0 : Int32)), (0, .int x0)]) hx hb dL_bits_3 rfl hl (by decide) rfl (fun ls hl => ?_)
  exact w_L_bits_4 S hK hret _ _ _ hf H locs ls hP hS (lv_sub hl [2, 1, 0] rfl)
set_option maxRecDepth 100000 in
theorem c_L_bits (l : Launch) (D : va_G) (cI cN : ClassId)  (sz : Nat) (x0 : Int32) (r0 : Int32) (hf : fL_bits x0 = some r0) : CtP l D cI cN yL_bits wsL_bits rm_L_bits [.int x0] ([] : va_W) sz r0 := by
  refine mP (cc := cL_bits) (maxL := 3) (ty := .int) (by decide) rfl rfl (Nat.le_of_ble_eq_true rfl) ?_
  intro p e s m args below meth c Q S hK hP hS hret ls hl
  exact w_L_bits_0 S hK hret hf _ _ _ hP hS (lv_sub (show lv_has ls 3 [(0, .int x0)] from hl) [0] rfl)
abbrev rm_L_ends : Room := { frames := 3, cells := 0, slots := 0, locals := 65 }
set_option maxRecDepth 100000 in
set_option maxHeartbeats 4000000 in
theorem w_L_ends_7 {p : Program} {l : Launch} {e : Env} {s : State} {m : MethodId} {args : Array Value} {below : List Frame} {meth : Method} {c : Code} {Q : State → Prop} {D : va_G} {cI cN : ClassId} {ka a1 a2 a3 a4 : Nat} {h : Nat → Nat} {hq : Nat → Nat → Nat} {u : Nat → Nat} {q : Nat → Nat} (S : CallFix p m c cL_ends 6 s args wsL_ends RL) (hK : KN D cI cN s) {kx : OS} {hi : HS} {x : OS} {n : OS} {x1 : Int32} {r0 : Int64} (hret : ∀ (H : Heap) (locs : List Loc) (ls : Array Slot) (pc : Nat), decode cL_ends pc = .ok (.lreturn, 1) → va_S (nwA s.heap.size) s.heap H locs → W p l e (headSpec wsL_ends rm_L_ends).room s m args below meth c H locs 0 0 Q (F0 m pc ls [.long r0])) : ∀ (k : Nat) (x2 : Int64) (x4 : Int32), fL_ends_7 kx hi x n x1 k x2 x4 = some r0 → ∀ (H : Heap) (locs : List Loc) (ls : Array Slot), va_P D vwCl ((cxW ka (q 0) a1 a2 a3 a4 (h 0) (u 0) (kx.1 7)) ++ ((hiW cI cN h hq hi) ++ ((txW cI u x) ++ (nwW cI q n)))) H → va_S (nwA s.heap.size) s.heap H locs → lv_has ls 6 [(0, .ref ka), (1, .int x1), (2, .long x2), (4, .int x4)] → W p l e (headSpec wsL_ends rm_L_ends).room s m args below meth c H locs 0 0 Q (F0 m 7 ls []) := by
  obtain ⟨hx, hb, hml, hown, hts⟩ := id S
  have hA : ∀ q : Nat, s.heap.size ≤ q → nwA s.heap.size q := fun _ h => h
  intro k
  induction k with
  | zero => intro x2 x4 hf; rw [fL_ends_7_z] at hf; cases hf
  | succ k ih =>
    intro x2 x4 hf H locs ls hP hS hl
    rw [fL_ends_7_s] at hf
    refine lv_iload hx hb dL_ends_7 (lv_at hl 3 rfl) ?_
    refine lv_aload_n hx hb dL_ends_9 rfl (lv_at hl 0 rfl) ?_
    refine lv_iconst (v := (0 : Int32)) hx hb dL_ends_10 kc_iconst_0 ?_
    obtain ⟨v1, hv1, hf⟩ := it_b hf
    refine cQi (As := [.int (0 : Int32)]) (rest := [.int x4]) (q0 := 0) (ci := 5) S (c_X5_total l D cI cN ka a1 a2 a3 a4 h hq u q _ kx hi x n (0 : Int32) v1 hv1) (cwV 1 hts gL_ends_X5_total rfl rfl rfl (by decide +kernel) ⟨Nat.le_of_ble_eq_true rfl, Nat.le_of_ble_eq_true rfl⟩) hK hP hS hA hP rfl rfl rfl hl.1 rfl (Nat.le_of_ble_eq_true rfl) dL_ends_11 ⟨Nat.zero_le _, Nat.zero_le _⟩ (fun H locs hP hS => ?_)
    refine lv_aload_n hx hb dL_ends_14 rfl (lv_at hl 0 rfl) ?_
    refine lv_iconst (v := (1 : Int32)) hx hb dL_ends_15 kc_iconst_1 ?_
    obtain ⟨v2, hv2, hf⟩ := it_b hf
    refine cQi (As := [.int (1 : Int32)]) (rest := [.int v1, .int x4]) (q0 := 0) (ci := 5) S (c_X5_total l D cI cN ka a1 a2 a3 a4 h hq u q _ kx hi x n (1 : Int32) v2 hv2) (cwV 1 hts gL_ends_X5_total rfl rfl rfl (by decide +kernel) ⟨Nat.le_of_ble_eq_true rfl, Nat.le_of_ble_eq_true rfl⟩) hK hP hS hA hP rfl rfl rfl hl.1 rfl (Nat.le_of_ble_eq_true rfl) dL_ends_16 ⟨Nat.zero_le _, Nat.zero_le _⟩ (fun H locs hP hS => ?_)
    refine lv_imul hx hb dL_ends_19 ?_
    refine lv_icmp_ge (tgt := 69) hx hb dL_ends_20 (by decide) (fun c3 => ?_) (fun c3 => ?_)
    · have hf := it_t hf c3
      refine lv_lload_n hx hb dL_ends_69 rfl (lv_at hl 2 rfl) ?_
      have e0 : x2 = r0 := (Option.some.inj hf)
      subst e0
      exact hret H locs ls _ dL_ends_70 hS
    · have hf := it_f hf c3
      refine lv_aload_n hx hb dL_ends_23 rfl (lv_at hl 0 rfl) ?_
      refine lv_iload hx hb dL_ends_24 (lv_at hl 3 rfl) ?_
      refine cQi (As := [.int x4]) (rest := []) (q0 := 0) (ci := 5) S (c_X5_callOfInlet l D cI cN ka a1 a2 a3 a4 (h 0) (u 0) q _ kx n x4 (fX5_callOfInlet kx n x4) rfl) (cwV 1 hts gL_ends_X5_callOfInlet rfl rfl rfl (by decide +kernel) ⟨Nat.le_of_ble_eq_true rfl, Nat.le_of_ble_eq_true rfl⟩) hK hP hS hA (P_sel [(true, (cxW ka (q 0) a1 a2 a3 a4 (h 0) (u 0) (kx.1 7)), (cxW ka (q 0) a1 a2 a3 a4 (h 0) (u 0) (kx.1 7))), (false, (hiW cI cN h hq hi), (hiW cI cN h hq hi)), (false, (txW cI u x), (txW cI u x)), (true, (nwW cI q n), (nwW cI q n))] hP) rfl rfl rfl hl.1 rfl (Nat.le_of_ble_eq_true rfl) dL_ends_26 ⟨Nat.zero_le _, Nat.zero_le _⟩ (fun H locs hP hS => ?_)
      refine lv_istore (lv' := [(5, .int (fX5_callOfInlet kx n x4)), (0, .ref ka), (1, .int x1), (2, .long x2), (4, .int x4)]) hx hb dL_ends_29 hl (by decide) rfl (fun ls hl => ?_)
      refine lv_iload hx hb dL_ends_31 (lv_at hl 4 rfl) ?_
      refine lv_iload_n hx hb dL_ends_33 rfl (lv_at hl 2 rfl) ?_
      refine lv_icmp_ne (tgt := 41) hx hb dL_ends_34 (by decide) (fun c4 => ?_) (fun c4 => ?_)
      · have hf := it_f hf c4
        refine lv_ldc2 (v := (31 : Int64)) hx hb hown (hts (.constantLong RL 20 (31)) (List.mem_of_getElem? (i := 2) rfl)) dL_ends_41 ?_
        refine lv_ldc2 (v := (31 : Int64)) hx hb hown (hts (.constantLong RL 20 (31)) (List.mem_of_getElem? (i := 2) rfl)) dL_ends_44 ?_
        refine lv_lload_n hx hb dL_ends_47 rfl (lv_at hl 3 rfl) ?_
        refine lv_lmul hx hb dL_ends_48 ?_
        refine lv_iload hx hb dL_ends_49 (lv_at hl 0 rfl) ?_
        refine lv_i2l (v := (((fX5_callOfInlet kx n x4)).toInt64)) hx hb dL_ends_51 rfl ?_
        refine lv_ladd hx hb dL_ends_52 ?_
        refine lv_lmul hx hb dL_ends_53 ?_
        refine lv_aload_n hx hb dL_ends_54 rfl (lv_at hl 1 rfl) ?_
        refine lv_iload hx hb dL_ends_55 (lv_at hl 0 rfl) ?_
        obtain ⟨v5, hv5, hf⟩ := it_b hf
        refine cQi (As := [.int (fX5_callOfInlet kx n x4)]) (rest := [.long ((31 : Int64) * (((31 : Int64) * x2) + (((fX5_callOfInlet kx n x4)).toInt64)))]) (q0 := 0) (ci := 5) S (c_X5_outletOf l D cI cN ka a1 a2 a3 a4 (h 0) (u 0) q _ kx n (fX5_callOfInlet kx n x4) v5 hv5) (cwV 1 hts gL_ends_X5_outletOf rfl rfl rfl (by decide +kernel) ⟨Nat.le_of_ble_eq_true rfl, Nat.le_of_ble_eq_true rfl⟩) hK hP hS hA (P_sel [(true, (cxW ka (q 0) a1 a2 a3 a4 (h 0) (u 0) (kx.1 7)), (cxW ka (q 0) a1 a2 a3 a4 (h 0) (u 0) (kx.1 7))), (false, (hiW cI cN h hq hi), (hiW cI cN h hq hi)), (false, (txW cI u x), (txW cI u x)), (true, (nwW cI q n), (nwW cI q n))] hP) rfl rfl rfl hl.1 rfl (Nat.le_of_ble_eq_true rfl) dL_ends_57 ⟨Nat.zero_le _, Nat.zero_le _⟩ (fun H locs hP hS => ?_)
        refine lv_i2l (v := ((v5).toInt64)) hx hb dL_ends_60 rfl ?_
        refine lv_ladd hx hb dL_ends_61 ?_
        refine lv_lstore_n (lv' := [(2, .long (((31 : Int64) * (((31 : Int64) * x2) + (((fX5_callOfInlet kx n x4)).toInt64))) + ((v5).toInt64))), (5, .int (fX5_callOfInlet kx n x4)), (0, .ref ka), (1, .int x1), (4, .int x4)]) hx hb dL_ends_62 rfl hl (by decide) rfl (fun ls hl => ?_)
        refine lv_iinc (v := (x4 + (1 : Int32))) (lv' := [(4, .int (x4 + (1 : Int32))), (2, .long (((31 : Int64) * (((31 : Int64) * x2) + (((fX5_callOfInlet kx n x4)).toInt64))) + ((v5).toInt64))), (5, .int (fX5_callOfInlet kx n x4)), (0, .ref ka), (1, .int x1)]) hx hb dL_ends_63 hl (k := 4) rfl rfl (by decide) rfl (fun ls hl => ?_)
        refine lv_goto (tgt := 7) hx hb dL_ends_66 (by decide) ?_
        exact ih _ _ hf H locs ls hP hS (lv_sub hl [3, 4, 1, 0] rfl)
      · have hf := it_t hf c4
        refine lv_lload_n hx hb dL_ends_37 rfl (lv_at hl 3 rfl) ?_
        refine lv_goto (tgt := 62) hx hb dL_ends_38 (by decide) ?_
        refine lv_lstore_n (lv' := [(2, .long x2), (5, .int (fX5_callOfInlet kx n x4)), (0, .ref ka), (1, .int x1), (4, .int x4)]) hx hb dL_ends_62 rfl hl (by decide) rfl (fun ls hl => ?_)
        refine lv_iinc (v := (x4 + (1 : Int32))) (lv' := [(4, .int (x4 + (1 : Int32))), (2, .long x2), (5, .int (fX5_callOfInlet kx n x4)), (0, .ref ka), (1, .int x1)]) hx hb dL_ends_63 hl (k := 4) rfl rfl (by decide) rfl (fun ls hl => ?_)
        refine lv_goto (tgt := 7) hx hb dL_ends_66 (by decide) ?_
        exact ih _ _ hf H locs ls hP hS (lv_sub hl [3, 4, 1, 0] rfl)
set_option maxRecDepth 100000 in
set_option maxHeartbeats 4000000 in
theorem w_L_ends_0 {p : Program} {l : Launch} {e : Env} {s : State} {m : MethodId} {args : Array Value} {below : List Frame} {meth : Method} {c : Code} {Q : State → Prop} {D : va_G} {cI cN : ClassId} {ka a1 a2 a3 a4 : Nat} {h : Nat → Nat} {hq : Nat → Nat → Nat} {u : Nat → Nat} {q : Nat → Nat} (S : CallFix p m c cL_ends 6 s args wsL_ends RL) (hK : KN D cI cN s) {kx : OS} {hi : HS} {x : OS} {n : OS} {x1 : Int32} {r0 : Int64} (hret : ∀ (H : Heap) (locs : List Loc) (ls : Array Slot) (pc : Nat), decode cL_ends pc = .ok (.lreturn, 1) → va_S (nwA s.heap.size) s.heap H locs → W p l e (headSpec wsL_ends rm_L_ends).room s m args below meth c H locs 0 0 Q (F0 m pc ls [.long r0])) (hf : fL_ends kx hi x n x1 = some r0) (H : Heap) (locs : List Loc) (ls : Array Slot) (hP : va_P D vwCl ((cxW ka (q 0) a1 a2 a3 a4 (h 0) (u 0) (kx.1 7)) ++ ((hiW cI cN h hq hi) ++ ((txW cI u x) ++ (nwW cI q n)))) H) (hS : va_S (nwA s.heap.size) s.heap H locs) (hl : lv_has ls 6 [(0, .ref ka), (1, .int x1)]) : W p l e (headSpec wsL_ends rm_L_ends).room s m args below meth c H locs 0 0 Q (F0 m 0 ls []) := by
  obtain ⟨hx, hb, hml, hown, hts⟩ := id S
  have hA : ∀ q : Nat, s.heap.size ≤ q → nwA s.heap.size q := fun _ h => h
  unfold fL_ends at hf
  refine lv_ldc2 (v := (5 : Int64)) hx hb hown (hts (.constantLong RL 9 (5)) (List.mem_of_getElem? (i := 1) rfl)) dL_ends_0 ?_
  refine lv_lstore_n (lv' := [(2, .long (5 : Int64)), (0, .ref ka), (1, .int x1)]) hx hb dL_ends_3 rfl hl (by decide) rfl (fun ls hl => ?_)
  refine lv_iconst (v := (0 : Int32)) hx hb dL_ends_4 kc_iconst_0 ?_
  refine lv_istore (lv' := [(4, .int (0 : Int32)), (2, .long (5 : Int64)), (0, .ref ka), (1, .int x1)]) hx hb dL_ends_5 hl (by decide) rfl (fun ls hl => ?_)
  exact w_L_ends_7 S hK hret _ _ _ hf H locs ls hP hS (lv_sub hl [2, 3, 1, 0] rfl)
set_option maxRecDepth 100000 in
theorem c_L_ends (l : Launch) (D : va_G) (cI cN : ClassId) (ka a1 a2 a3 a4 : Nat) (h : Nat → Nat) (hq : Nat → Nat → Nat) (u : Nat → Nat) (q : Nat → Nat) (sz : Nat) (kx : OS) (hi : HS) (x : OS) (n : OS) (x1 : Int32) (r0 : Int64) (hf : fL_ends kx hi x n x1 = some r0) : CtL l D cI cN yL_ends wsL_ends rm_L_ends [.ref ka, .int x1] ((cxW ka (q 0) a1 a2 a3 a4 (h 0) (u 0) (kx.1 7)) ++ ((hiW cI cN h hq hi) ++ ((txW cI u x) ++ (nwW cI q n)))) sz r0 := by
  refine mL (cc := cL_ends) (maxL := 6) (by decide) rfl rfl (Nat.le_of_ble_eq_true rfl) ?_
  intro p e s m args below meth c Q S hK hP hS hret ls hl
  exact w_L_ends_0 S hK hret hf _ _ _ hP hS (lv_sub (show lv_has ls 6 [(0, .ref ka), (1, .int x1)] from hl) [0, 1] rfl)
abbrev rm_L_told : Room := { frames := 4, cells := 0, slots := 0, locals := 90 }
set_option maxRecDepth 100000 in
set_option maxHeartbeats 4000000 in
theorem w_L_told_45 {p : Program} {l : Launch} {e : Env} {s : State} {m : MethodId} {args : Array Value} {below : List Frame} {meth : Method} {c : Code} {Q : State → Prop} {D : va_G} {cI cN : ClassId} {ka a1 a2 a3 a4 : Nat} {h : Nat → Nat} {hq : Nat → Nat → Nat} {u : Nat → Nat} {q : Nat → Nat} (S : CallFix p m c cL_told 4 s args wsL_told RL) (hK : KN D cI cN s) {kx : OS} {hi : HS} {x : OS} {n : OS} {r0 : Int64} (hret : ∀ (H : Heap) (locs : List Loc) (ls : Array Slot) (pc : Nat), decode cL_told pc = .ok (.lreturn, 1) → va_S (nwA s.heap.size) s.heap H locs → W p l e (headSpec wsL_told rm_L_told).room s m args below meth c H locs 0 0 Q (F0 m pc ls [.long r0])) : ∀ (k : Nat) (x1 : Int64) (x3 : Int32), fL_told_45 kx hi x n k x1 x3 = some r0 → ∀ (H : Heap) (locs : List Loc) (ls : Array Slot), va_P D vwCl ((cxW ka (q 0) a1 a2 a3 a4 (h 0) (u 0) (kx.1 7)) ++ ((hiW cI cN h hq hi) ++ ((txW cI u x) ++ (nwW cI q n)))) H → va_S (nwA s.heap.size) s.heap H locs → lv_has ls 4 [(0, .ref ka), (1, .long x1), (3, .int x3)] → W p l e (headSpec wsL_told rm_L_told).room s m args below meth c H locs 0 0 Q (F0 m 45 ls []) := by
  obtain ⟨hx, hb, hml, hown, hts⟩ := id S
  have hA : ∀ q : Nat, s.heap.size ≤ q → nwA s.heap.size q := fun _ h => h
  intro k
  induction k with
  | zero => intro x1 x3 hf; rw [fL_told_45_z] at hf; cases hf
  | succ k ih =>
    intro x1 x3 hf H locs ls hP hS hl
    rw [fL_told_45_s] at hf
    refine lv_iload_n hx hb dL_told_45 rfl (lv_at hl 2 rfl) ?_
    refine lv_aload_n hx hb dL_told_46 rfl (lv_at hl 0 rfl) ?_
    refine lv_iconst (v := (0 : Int32)) hx hb dL_told_47 kc_iconst_0 ?_
    obtain ⟨v3, hv3, hf⟩ := it_b hf
    refine cQi (As := [.int (0 : Int32)]) (rest := [.int x3]) (q0 := 0) (ci := 5) S (c_X5_total l D cI cN ka a1 a2 a3 a4 h hq u q _ kx hi x n (0 : Int32) v3 hv3) (cwV 1 hts gL_told_X5_total rfl rfl rfl (by decide +kernel) ⟨Nat.le_of_ble_eq_true rfl, Nat.le_of_ble_eq_true rfl⟩) hK hP hS hA hP rfl rfl rfl hl.1 rfl (Nat.le_of_ble_eq_true rfl) dL_told_48 ⟨Nat.zero_le _, Nat.zero_le _⟩ (fun H locs hP hS => ?_)
    refine lv_aload_n hx hb dL_told_51 rfl (lv_at hl 0 rfl) ?_
    refine lv_iconst (v := (1 : Int32)) hx hb dL_told_52 kc_iconst_1 ?_
    obtain ⟨v4, hv4, hf⟩ := it_b hf
    refine cQi (As := [.int (1 : Int32)]) (rest := [.int v3, .int x3]) (q0 := 0) (ci := 5) S (c_X5_total l D cI cN ka a1 a2 a3 a4 h hq u q _ kx hi x n (1 : Int32) v4 hv4) (cwV 1 hts gL_told_X5_total rfl rfl rfl (by decide +kernel) ⟨Nat.le_of_ble_eq_true rfl, Nat.le_of_ble_eq_true rfl⟩) hK hP hS hA hP rfl rfl rfl hl.1 rfl (Nat.le_of_ble_eq_true rfl) dL_told_53 ⟨Nat.zero_le _, Nat.zero_le _⟩ (fun H locs hP hS => ?_)
    refine lv_imul hx hb dL_told_56 ?_
    refine lv_icmp_ge (tgt := 83) hx hb dL_told_57 (by decide) (fun c5 => ?_) (fun c5 => ?_)
    · have hf := it_t hf c5
      refine lv_lload_n hx hb dL_told_83 rfl (lv_at hl 1 rfl) ?_
      have e0 : x1 = r0 := (Option.some.inj hf)
      subst e0
      exact hret H locs ls _ dL_told_84 hS
    · have hf := it_f hf c5
      refine lv_ldc2 (v := (31 : Int64)) hx hb hown (hts (.constantLong RL 20 (31)) (List.mem_of_getElem? (i := 1) rfl)) dL_told_60 ?_
      refine lv_lload_n hx hb dL_told_63 rfl (lv_at hl 1 rfl) ?_
      refine lv_lmul hx hb dL_told_64 ?_
      refine lv_aload_n hx hb dL_told_65 rfl (lv_at hl 0 rfl) ?_
      refine lv_aload_n hx hb dL_told_66 rfl (lv_at hl 0 rfl) ?_
      refine lv_iload_n hx hb dL_told_67 rfl (lv_at hl 2 rfl) ?_
      refine cQi (As := [.int x3]) (rest := [.ref ka, .long ((31 : Int64) * x1)]) (q0 := 0) (ci := 5) S (c_X5_callOfInlet l D cI cN ka a1 a2 a3 a4 (h 0) (u 0) q _ kx n x3 (fX5_callOfInlet kx n x3) rfl) (cwV 1 hts gL_told_X5_callOfInlet rfl rfl rfl (by decide +kernel) ⟨Nat.le_of_ble_eq_true rfl, Nat.le_of_ble_eq_true rfl⟩) hK hP hS hA (P_sel [(true, (cxW ka (q 0) a1 a2 a3 a4 (h 0) (u 0) (kx.1 7)), (cxW ka (q 0) a1 a2 a3 a4 (h 0) (u 0) (kx.1 7))), (false, (hiW cI cN h hq hi), (hiW cI cN h hq hi)), (false, (txW cI u x), (txW cI u x)), (true, (nwW cI q n), (nwW cI q n))] hP) rfl rfl rfl hl.1 rfl (Nat.le_of_ble_eq_true rfl) dL_told_68 ⟨Nat.zero_le _, Nat.zero_le _⟩ (fun H locs hP hS => ?_)
      obtain ⟨v6, hv6, hf⟩ := it_b hf
      refine cQi (As := [.int (fX5_callOfInlet kx n x3)]) (rest := [.long ((31 : Int64) * x1)]) (q0 := 0) (ci := 5) S (c_X5_middleOf l D cI cN ka a1 a2 a3 a4 (h 0) (u 0) q _ kx n (fX5_callOfInlet kx n x3) v6 hv6) (cwV 1 hts gL_told_X5_middleOf rfl rfl rfl (by decide +kernel) ⟨Nat.le_of_ble_eq_true rfl, Nat.le_of_ble_eq_true rfl⟩) hK hP hS hA (P_sel [(true, (cxW ka (q 0) a1 a2 a3 a4 (h 0) (u 0) (kx.1 7)), (cxW ka (q 0) a1 a2 a3 a4 (h 0) (u 0) (kx.1 7))), (false, (hiW cI cN h hq hi), (hiW cI cN h hq hi)), (false, (txW cI u x), (txW cI u x)), (true, (nwW cI q n), (nwW cI q n))] hP) rfl rfl rfl hl.1 rfl (Nat.le_of_ble_eq_true rfl) dL_told_71 ⟨Nat.zero_le _, Nat.zero_le _⟩ (fun H locs hP hS => ?_)
      refine lv_i2l (v := ((v6).toInt64)) hx hb dL_told_74 rfl ?_
      refine lv_ladd hx hb dL_told_75 ?_
      refine lv_lstore_n (lv' := [(1, .long (((31 : Int64) * x1) + ((v6).toInt64))), (0, .ref ka), (3, .int x3)]) hx hb dL_told_76 rfl hl (by decide) rfl (fun ls hl => ?_)
      refine lv_iinc (v := (x3 + (1 : Int32))) (lv' := [(3, .int (x3 + (1 : Int32))), (1, .long (((31 : Int64) * x1) + ((v6).toInt64))), (0, .ref ka)]) hx hb dL_told_77 hl (k := 2) rfl rfl (by decide) rfl (fun ls hl => ?_)
      refine lv_goto (tgt := 45) hx hb dL_told_80 (by decide) ?_
      exact ih _ _ hf H locs ls hP hS (lv_sub hl [2, 1, 0] rfl)
set_option maxRecDepth 100000 in
set_option maxHeartbeats 4000000 in
theorem w_L_told_18 {p : Program} {l : Launch} {e : Env} {s : State} {m : MethodId} {args : Array Value} {below : List Frame} {meth : Method} {c : Code} {Q : State → Prop} {D : va_G} {cI cN : ClassId} {ka a1 a2 a3 a4 : Nat} {h : Nat → Nat} {hq : Nat → Nat → Nat} {u : Nat → Nat} {q : Nat → Nat} (S : CallFix p m c cL_told 4 s args wsL_told RL) (hK : KN D cI cN s) {kx : OS} {hi : HS} {x : OS} {n : OS} {r0 : Int64} (hret : ∀ (H : Heap) (locs : List Loc) (ls : Array Slot) (pc : Nat), decode cL_told pc = .ok (.lreturn, 1) → va_S (nwA s.heap.size) s.heap H locs → W p l e (headSpec wsL_told rm_L_told).room s m args below meth c H locs 0 0 Q (F0 m pc ls [.long r0])) : ∀ (k : Nat) (x1 : Int64) (x3 : Int32), fL_told_18 kx hi x n k x1 x3 = some r0 → ∀ (H : Heap) (locs : List Loc) (ls : Array Slot), va_P D vwCl ((cxW ka (q 0) a1 a2 a3 a4 (h 0) (u 0) (kx.1 7)) ++ ((hiW cI cN h hq hi) ++ ((txW cI u x) ++ (nwW cI q n)))) H → va_S (nwA s.heap.size) s.heap H locs → lv_has ls 4 [(0, .ref ka), (1, .long x1), (3, .int x3)] → W p l e (headSpec wsL_told rm_L_told).room s m args below meth c H locs 0 0 Q (F0 m 18 ls []) := by
  obtain ⟨hx, hb, hml, hown, hts⟩ := id S
  have hA : ∀ q : Nat, s.heap.size ≤ q → nwA s.heap.size q := fun _ h => h
  intro k
  induction k with
  | zero => intro x1 x3 hf; rw [fL_told_18_z] at hf; cases hf
  | succ k ih =>
    intro x1 x3 hf H locs ls hP hS hl
    rw [fL_told_18_s] at hf
    refine lv_iload_n hx hb dL_told_18 rfl (lv_at hl 2 rfl) ?_
    refine lv_bipush (v := (10 : Int32)) hx hb dL_told_19 kc_bipush_10 ?_
    refine lv_icmp_ge (tgt := 43) hx hb dL_told_21 (by decide) (fun c2 => ?_) (fun c2 => ?_)
    · have hf := it_t hf c2
      refine lv_iconst (v := (0 : Int32)) hx hb dL_told_43 kc_iconst_0 ?_
      refine lv_istore_n (lv' := [(3, .int (0 : Int32)), (0, .ref ka), (1, .long x1)]) hx hb dL_told_44 rfl hl (by decide) rfl (fun ls hl => ?_)
      exact w_L_told_45 S hK hret _ _ _ hf H locs ls hP hS (lv_sub hl [1, 2, 0] rfl)
    · have hf := it_f hf c2
      refine lv_ldc2 (v := (31 : Int64)) hx hb hown (hts (.constantLong RL 20 (31)) (List.mem_of_getElem? (i := 1) rfl)) dL_told_24 ?_
      refine lv_lload_n hx hb dL_told_27 rfl (lv_at hl 1 rfl) ?_
      refine lv_lmul hx hb dL_told_28 ?_
      refine lv_aload_n hx hb dL_told_29 rfl (lv_at hl 0 rfl) ?_
      refine lv_iload_n hx hb dL_told_30 rfl (lv_at hl 2 rfl) ?_
      obtain ⟨v7, hv7, hf⟩ := it_b hf
      refine cQi (As := [.int x3]) (rest := [.long ((31 : Int64) * x1)]) (q0 := 0) (ci := 5) S (c_X5_total l D cI cN ka a1 a2 a3 a4 h hq u q _ kx hi x n x3 v7 hv7) (cwV 1 hts gL_told_X5_total rfl rfl rfl (by decide +kernel) ⟨Nat.le_of_ble_eq_true rfl, Nat.le_of_ble_eq_true rfl⟩) hK hP hS hA hP rfl rfl rfl hl.1 rfl (Nat.le_of_ble_eq_true rfl) dL_told_31 ⟨Nat.zero_le _, Nat.zero_le _⟩ (fun H locs hP hS => ?_)
      refine lv_i2l (v := ((v7).toInt64)) hx hb dL_told_34 rfl ?_
      refine lv_ladd hx hb dL_told_35 ?_
      refine lv_lstore_n (lv' := [(1, .long (((31 : Int64) * x1) + ((v7).toInt64))), (0, .ref ka), (3, .int x3)]) hx hb dL_told_36 rfl hl (by decide) rfl (fun ls hl => ?_)
      refine lv_iinc (v := (x3 + (1 : Int32))) (lv' := [(3, .int (x3 + (1 : Int32))), (1, .long (((31 : Int64) * x1) + ((v7).toInt64))), (0, .ref ka)]) hx hb dL_told_37 hl (k := 2) rfl rfl (by decide) rfl (fun ls hl => ?_)
      refine lv_goto (tgt := 18) hx hb dL_told_40 (by decide) ?_
      exact ih _ _ hf H locs ls hP hS (lv_sub hl [2, 1, 0] rfl)
set_option maxRecDepth 100000 in
set_option maxHeartbeats 4000000 in
theorem w_L_told_0 {p : Program} {l : Launch} {e : Env} {s : State} {m : MethodId} {args : Array Value} {below : List Frame} {meth : Method} {c : Code} {Q : State → Prop} {D : va_G} {cI cN : ClassId} {ka a1 a2 a3 a4 : Nat} {h : Nat → Nat} {hq : Nat → Nat → Nat} {u : Nat → Nat} {q : Nat → Nat} (S : CallFix p m c cL_told 4 s args wsL_told RL) (hK : KN D cI cN s) {kx : OS} {hi : HS} {x : OS} {n : OS} {r0 : Int64} (hret : ∀ (H : Heap) (locs : List Loc) (ls : Array Slot) (pc : Nat), decode cL_told pc = .ok (.lreturn, 1) → va_S (nwA s.heap.size) s.heap H locs → W p l e (headSpec wsL_told rm_L_told).room s m args below meth c H locs 0 0 Q (F0 m pc ls [.long r0])) (hf : fL_told kx hi x n = some r0) (H : Heap) (locs : List Loc) (ls : Array Slot) (hP : va_P D vwCl ((cxW ka (q 0) a1 a2 a3 a4 (h 0) (u 0) (kx.1 7)) ++ ((hiW cI cN h hq hi) ++ ((txW cI u x) ++ (nwW cI q n)))) H) (hS : va_S (nwA s.heap.size) s.heap H locs) (hl : lv_has ls 4 [(0, .ref ka)]) : W p l e (headSpec wsL_told rm_L_told).room s m args below meth c H locs 0 0 Q (F0 m 0 ls []) := by
  obtain ⟨hx, hb, hml, hown, hts⟩ := id S
  have hA : ∀ q : Nat, s.heap.size ≤ q → nwA s.heap.size q := fun _ h => h
  unfold fL_told at hf
  refine lv_ldc2 (v := (31 : Int64)) hx hb hown (hts (.constantLong RL 20 (31)) (List.mem_of_getElem? (i := 1) rfl)) dL_told_0 ?_
  refine lv_aload_n hx hb dL_told_3 rfl (lv_at hl 0 rfl) ?_
  refine lv_iconst (v := (-1 : Int32)) hx hb dL_told_4 kc_iconst_m1 ?_
  obtain ⟨v1, hv1, hf⟩ := it_b hf
  refine cTl (As := [.ref ka, .int (-1 : Int32)]) (rest := [.long (31 : Int64)]) S (c_L_ends l D cI cN ka a1 a2 a3 a4 h hq u q _ kx hi x n (-1 : Int32) v1 hv1) (va_cwS 2 hts gL_told_L_ends rfl rfl rfl (by decide +kernel) ⟨Nat.le_of_ble_eq_true rfl, Nat.le_of_ble_eq_true rfl⟩) hK hP hS hA hP rfl hl.1 rfl (Nat.le_of_ble_eq_true rfl) dL_told_5 ⟨Nat.zero_le _, Nat.zero_le _⟩ (fun H locs hP hS => ?_)
  refine lv_lmul hx hb dL_told_8 ?_
  refine lv_aload_n hx hb dL_told_9 rfl (lv_at hl 0 rfl) ?_
  refine cQi (As := []) (rest := [.long ((31 : Int64) * v1)]) (q0 := 0) (ci := 5) S (c_X5_inService l D cI cN ka a1 a2 a3 a4 (h 0) (u 0) q _ kx n (fX5_inService kx n) rfl) (cwV 0 hts gL_told_X5_inService rfl rfl rfl (by decide +kernel) ⟨Nat.le_of_ble_eq_true rfl, Nat.le_of_ble_eq_true rfl⟩) hK hP hS hA (P_sel [(true, (cxW ka (q 0) a1 a2 a3 a4 (h 0) (u 0) (kx.1 7)), (cxW ka (q 0) a1 a2 a3 a4 (h 0) (u 0) (kx.1 7))), (false, (hiW cI cN h hq hi), (hiW cI cN h hq hi)), (false, (txW cI u x), (txW cI u x)), (true, (nwW cI q n), (nwW cI q n))] hP) rfl rfl rfl hl.1 rfl (Nat.le_of_ble_eq_true rfl) dL_told_10 ⟨Nat.zero_le _, Nat.zero_le _⟩ (fun H locs hP hS => ?_)
  refine lv_i2l (v := (((fX5_inService kx n)).toInt64)) hx hb dL_told_13 rfl ?_
  refine lv_ladd hx hb dL_told_14 ?_
  refine lv_lstore_n (lv' := [(1, .long (((31 : Int64) * v1) + (((fX5_inService kx n)).toInt64))), (0, .ref ka)]) hx hb dL_told_15 rfl hl (by decide) rfl (fun ls hl => ?_)
  refine lv_iconst (v := (0 : Int32)) hx hb dL_told_16 kc_iconst_0 ?_
  refine lv_istore_n (lv' := [(3, .int (0 : Int32)), (1, .long (((31 : Int64) * v1) + (((fX5_inService kx n)).toInt64))), (0, .ref ka)]) hx hb dL_told_17 rfl hl (by decide) rfl (fun ls hl => ?_)
  exact w_L_told_18 S hK hret _ _ _ hf H locs ls hP hS (lv_sub hl [2, 1, 0] rfl)
set_option maxRecDepth 100000 in
theorem c_L_told (l : Launch) (D : va_G) (cI cN : ClassId) (ka a1 a2 a3 a4 : Nat) (h : Nat → Nat) (hq : Nat → Nat → Nat) (u : Nat → Nat) (q : Nat → Nat) (sz : Nat) (kx : OS) (hi : HS) (x : OS) (n : OS) (r0 : Int64) (hf : fL_told kx hi x n = some r0) : CtL l D cI cN yL_told wsL_told rm_L_told [.ref ka] ((cxW ka (q 0) a1 a2 a3 a4 (h 0) (u 0) (kx.1 7)) ++ ((hiW cI cN h hq hi) ++ ((txW cI u x) ++ (nwW cI q n)))) sz r0 := by
  refine mL (cc := cL_told) (maxL := 4) (by decide) rfl rfl (Nat.le_of_ble_eq_true rfl) ?_
  intro p e s m args below meth c Q S hK hP hS hret ls hl
  exact w_L_told_0 S hK hret hf _ _ _ hP hS (lv_sub (show lv_has ls 4 [(0, .ref ka)] from hl) [0] rfl)
