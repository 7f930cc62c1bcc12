abbrev rm_X3_lowestBits : Room := { frames := 1, cells := 0, slots := 0, locals := 21 }
set_option maxRecDepth 100000 in
set_option maxHeartbeats 4000000 in
theorem w_X3_lowestBits_7 {p : Program} {l : Launch} {e : Env} {s : State} {m : MethodId} {args : Array Value} {below : List Frame} {meth : Method} {c : Code} {Q : State → Prop} {D : va_G} {cI cN : ClassId}  (S : CallFix p m c cX3_lowestBits 5 s args wsX3_lowestBits RX3) (hK : KN D cI cN s) {x0 : Int32} {x1 : Int32} {r0 : Int32} (hret : ∀ (H : Heap) (locs : List Loc) (ls : Array Slot) (pc : Nat), decode cX3_lowestBits pc = .ok (.ireturn, 1) → narrow .int (.int r0) = .int r0 → va_S (nwA s.heap.size) s.heap H locs → W p l e (headSpec wsX3_lowestBits rm_X3_lowestBits).room s m args below meth c H locs 0 0 Q (F0 m pc ls [.int r0])) : ∀ (k : Nat) (x2 : Int32) (x3 : Int32) (x4 : Int32), fX3_lowestBits_7 x0 x1 k x2 x3 x4 = some r0 → ∀ (H : Heap) (locs : List Loc) (ls : Array Slot), va_P D vwCl ([] : va_W) H → va_S (nwA s.heap.size) s.heap H locs → lv_has ls 5 [(0, .int x0), (1, .int x1), (2, .int x2), (3, .int x3), (4, .int x4)] → W p l e (headSpec wsX3_lowestBits rm_X3_lowestBits).room s m args below meth c H locs 0 0 Q (F0 m 7 ls []) := by
  obtain ⟨hx, hb, hml, hown, hts⟩ := id S
  have hA : ∀ q : Nat, s.heap.size ≤ q → nwA s.heap.size q := fun _ h => h
  intro k
  induction k with
  | zero => intro x2 x3 x4 hf; rw [fX3_lowestBits_7_z] at hf; cases hf
  | succ k ih =>
    intro x2 x3 x4 hf H locs ls hP hS hl
    rw [fX3_lowestBits_7_s] at hf
    refine lv_iload hx hb dX3_lowestBits_7 (lv_at hl 4 rfl) ?_
    refine lv_bipush (v := (8 : Int32)) hx hb dX3_lowestBits_9 kc_bipush_8 ?_
    refine lv_icmp_ge (tgt := 44) hx hb dX3_lowestBits_11 (by decide) (fun c1 => ?_) (fun c1 => ?_)
    · have hf := it_t hf c1
      refine lv_iload_n hx hb dX3_lowestBits_44 rfl (lv_at hl 2 rfl) ?_
      have e0 : x2 = r0 := (Option.some.inj hf)
      subst e0
      exact hret H locs ls _ dX3_lowestBits_45 rfl hS
    · have hf := it_f hf c1
      refine lv_iload_n hx hb dX3_lowestBits_14 rfl (lv_at hl 3 rfl) ?_
      refine lv_iload_n hx hb dX3_lowestBits_15 rfl (lv_at hl 1 rfl) ?_
      refine lv_icmp_ge (tgt := 44) hx hb dX3_lowestBits_16 (by decide) (fun c2 => ?_) (fun c2 => ?_)
      · have hf := it_t hf c2
        refine lv_iload_n hx hb dX3_lowestBits_44 rfl (lv_at hl 2 rfl) ?_
        have e0 : x2 = r0 := (Option.some.inj hf)
        subst e0
        exact hret H locs ls _ dX3_lowestBits_45 rfl hS
      · have hf := it_f hf c2
        refine lv_iload_n hx hb dX3_lowestBits_19 rfl (lv_at hl 0 rfl) ?_
        refine lv_iload hx hb dX3_lowestBits_20 (lv_at hl 4 rfl) ?_
        refine cNi (As := [.int x0, .int x4]) (rest := []) S (c_X5_hasBit l D cI cN _ x0 x4 (fX5_hasBit x0 x4) rfl) ⟨va_cnB 2 hts gX3_lowestBits_X5_hasBit_n64 rfl rfl rfl hK.2.2.1 (hts (.initialized RX5) (List.mem_of_getElem? (i := 2) rfl)) (by decide +kernel) ⟨Nat.le_of_ble_eq_true rfl, Nat.le_of_ble_eq_true rfl⟩, (hts (.static yX5_hasBit) (List.mem_of_getElem? (i := 1) rfl)), trivial⟩ hK hP hS hA [] rfl rfl hl.1 rfl (Nat.le_of_ble_eq_true rfl) dX3_lowestBits_22 ⟨Nat.zero_le _, Nat.zero_le _⟩ (fun H locs hP hS => ?_)
        refine lv_if_eq (tgt := 38) hx hb dX3_lowestBits_25 (by decide) (fun c3 => ?_) (fun c3 => ?_)
        · have hf := it_t hf c3
          refine lv_iinc (v := (x4 + (1 : Int32))) (lv' := [(4, .int (x4 + (1 : Int32))), (0, .int x0), (1, .int x1), (2, .int x2), (3, .int x3)]) hx hb dX3_lowestBits_38 hl (k := 4) rfl rfl (by decide) rfl (fun ls hl => ?_)
          refine lv_goto (tgt := 7) hx hb dX3_lowestBits_41 (by decide) ?_
          exact ih _ _ _ hf H locs ls hP hS (lv_sub hl [1, 2, 3, 4, 0] rfl)
        · have hf := it_f hf c3
          refine lv_iload_n hx hb dX3_lowestBits_28 rfl (lv_at hl 2 rfl) ?_
          refine lv_iconst (v := (1 : Int32)) hx hb dX3_lowestBits_29 kc_iconst_1 ?_
          refine lv_iload hx hb dX3_lowestBits_30 (lv_at hl 4 rfl) ?_
          refine lv_ishl hx hb dX3_lowestBits_32 ?_
          refine lv_ior hx hb dX3_lowestBits_33 ?_
          refine lv_istore_n (lv' := [(2, .int (x2 ||| ((1 : Int32) <<< (x4 &&& 31)))), (0, .int x0), (1, .int x1), (3, .int x3), (4, .int x4)]) hx hb dX3_lowestBits_34 rfl hl (by decide) rfl (fun ls hl => ?_)
          refine lv_iinc (v := (x3 + (1 : Int32))) (lv' := [(3, .int (x3 + (1 : Int32))), (2, .int (x2 ||| ((1 : Int32) <<< (x4 &&& 31)))), (0, .int x0), (1, .int x1), (4, .int x4)]) hx hb dX3_lowestBits_35 hl (k := 3) rfl rfl (by decide) rfl (fun ls hl => ?_)
          refine lv_iinc (v := (x4 + (1 : Int32))) (lv' := [(4, .int (x4 + (1 : Int32))), (3, .int (x3 + (1 : Int32))), (2, .int (x2 ||| ((1 : Int32) <<< (x4 &&& 31)))), (0, .int x0), (1, .int x1)]) hx hb dX3_lowestBits_38 hl (k := 4) rfl rfl (by decide) rfl (fun ls hl => ?_)
          refine lv_goto (tgt := 7) hx hb dX3_lowestBits_41 (by decide) ?_
          exact ih _ _ _ hf H locs ls hP hS (lv_sub hl [3, 4, 2, 1, 0] rfl)
set_option maxRecDepth 100000 in
set_option maxHeartbeats 4000000 in
theorem w_X3_lowestBits_0 {p : Program} {l : Launch} {e : Env} {s : State} {m : MethodId} {args : Array Value} {below : List Frame} {meth : Method} {c : Code} {Q : State → Prop} {D : va_G} {cI cN : ClassId}  (S : CallFix p m c cX3_lowestBits 5 s args wsX3_lowestBits RX3) (hK : KN D cI cN s) {x0 : Int32} {x1 : Int32} {r0 : Int32} (hret : ∀ (H : Heap) (locs : List Loc) (ls : Array Slot) (pc : Nat), decode cX3_lowestBits pc = .ok (.ireturn, 1) → narrow .int (.int r0) = .int r0 → va_S (nwA s.heap.size) s.heap H locs → W p l e (headSpec wsX3_lowestBits rm_X3_lowestBits).room s m args below meth c H locs 0 0 Q (F0 m pc ls [.int r0])) (hf : fX3_lowestBits x0 x1 = some r0) (H : Heap) (locs : List Loc) (ls : Array Slot) (hP : va_P D vwCl ([] : va_W) H) (hS : va_S (nwA s.heap.size) s.heap H locs) (hl : lv_has ls 5 [(0, .int x0), (1, .int x1)]) : W p l e (headSpec wsX3_lowestBits rm_X3_lowestBits).room s m args below meth c H locs 0 0 Q (F0 m 0 ls []) := by
  obtain ⟨hx, hb, hml, hown, hts⟩ := id S
  have hA : ∀ q : Nat, s.heap.size ≤ q → nwA s.heap.size q := fun _ h => h
  unfold fX3_lowestBits at hf
  refine lv_iconst (v := (0 : Int32)) hx hb dX3_lowestBits_0 kc_iconst_0 ?_
  refine lv_istore_n (lv' := [(2, .int (0 : Int32)), (0, .int x0), (1, .int x1)]) hx hb dX3_lowestBits_1 rfl hl (by decide) rfl (fun ls hl => ?_)
  refine lv_iconst (v := (0 : Int32)) hx hb dX3_lowestBits_2 kc_iconst_0 ?_
  refine lv_istore_n (lv' := [(3, .int (0 : Int32)), (2, .int (0 : Int32)), (0, .int x0), (1, .int x1)]) hx hb dX3_lowestBits_3 rfl hl (by decide) rfl (fun ls hl => ?_)
  refine lv_iconst (v := (0 : Int32)) hx hb dX3_lowestBits_4 kc_iconst_0 ?_
  refine lv_istore (lv' := [(4, .int (0 : Int32)), (3, .int (0 : Int32)), (2, .int (0 : Int32)), (0, .int x0), (1, .int x1)]) hx hb dX3_lowestBits_5 hl (by decide) rfl (fun ls hl => ?_)
  exact w_X3_lowestBits_7 S hK hret _ _ _ _ hf H locs ls hP hS (lv_sub hl [3, 4, 2, 1, 0] rfl)
set_option maxRecDepth 100000 in
theorem c_X3_lowestBits (l : Launch) (D : va_G) (cI cN : ClassId)  (sz : Nat) (x0 : Int32) (x1 : Int32) (r0 : Int32) (hf : fX3_lowestBits x0 x1 = some r0) : CtP l D cI cN yX3_lowestBits wsX3_lowestBits rm_X3_lowestBits [.int x0, .int x1] ([] : va_W) sz r0 := by
  refine mP (cc := cX3_lowestBits) (maxL := 5) (ty := .int) (by decide) rfl rfl (Nat.le_of_ble_eq_true rfl) ?_
  intro p e s m args below meth c Q S hK hP hS hret ls hl
  exact w_X3_lowestBits_0 S hK hret hf _ _ _ hP hS (lv_sub (show lv_has ls 5 [(0, .int x0), (1, .int x1)] from hl) [0, 1] rfl)
abbrev rm_X3_choose : Room := { frames := 2, cells := 0, slots := 0, locals := 44 }
theorem in_X3_choose_X1 : ∀ w ∈ u_ws RX1 TX1 16, w ∈ wsX3_choose := fun w h => List.mem_cons_of_mem _ (List.mem_append_left _ (List.mem_append_right _ h))
set_option maxRecDepth 100000 in
set_option maxHeartbeats 4000000 in
theorem w_X3_choose_36 {p : Program} {l : Launch} {e : Env} {s : State} {m : MethodId} {args : Array Value} {below : List Frame} {meth : Method} {c : Code} {Q : State → Prop} {D : va_G} {cI cN : ClassId} {t : Nat → Nat} {q : Nat → Nat} (S : CallFix p m c cX3_choose 8 s args wsX3_choose RX3) (hK : KN D cI cN s) {r : OS} {n : OS} {x2 : Int32} {x3 : Int32} {r0 : Int32} (hret : ∀ (H : Heap) (locs : List Loc) (ls : Array Slot) (pc : Nat), decode cX3_choose pc = .ok (.ireturn, 1) → narrow .int (.int r0) = .int r0 → va_S (nwA s.heap.size) s.heap H locs → W p l e (headSpec wsX3_choose rm_X3_choose).room s m args below meth c H locs 0 0 Q (F0 m pc ls [.int r0])) : ∀ (k : Nat) (x4 : Int32) (x5 : Int32) (x6 : Int32), fX3_choose_36 r n x2 x3 k x4 x5 x6 = some r0 → ∀ (H : Heap) (locs : List Loc) (ls : Array Slot), va_P D vwCl ((rtW cI t r) ++ (nwW cI q n)) H → va_S (nwA s.heap.size) s.heap H locs → lv_has ls 8 [(1, .ref (q 0)), (2, .int x2), (3, .int x3), (4, .int x4), (5, .int x5), (6, .int x6)] → W p l e (headSpec wsX3_choose rm_X3_choose).room s m args below meth c H locs 0 0 Q (F0 m 36 ls []) := by
  obtain ⟨hx, hb, hml, hown, hts⟩ := id S
  have inX1 := in_X3_choose_X1
  have hA : ∀ q : Nat, s.heap.size ≤ q → nwA s.heap.size q := fun _ h => h
  intro k
  induction k with
  | zero => intro x4 x5 x6 hf; rw [fX3_choose_36_z] at hf; cases hf
  | succ k ih =>
    intro x4 x5 x6 hf H locs ls hP hS hl
    rw [fX3_choose_36_s] at hf
    refine lv_iload hx hb dX3_choose_36 (lv_at hl 5 rfl) ?_
    refine lv_bipush (v := (8 : Int32)) hx hb dX3_choose_38 kc_bipush_8 ?_
    refine lv_icmp_ge (tgt := 88) hx hb dX3_choose_40 (by decide) (fun c4 => ?_) (fun c4 => ?_)
    · have hf := it_t hf c4
      refine lv_iload hx hb dX3_choose_88 (lv_at hl 3 rfl) ?_
      have e0 : x4 = r0 := (Option.some.inj hf)
      subst e0
      exact hret H locs ls _ dX3_choose_90 rfl hS
    · have hf := it_f hf c4
      refine lv_iload_n hx hb dX3_choose_43 rfl (lv_at hl 1 rfl) ?_
      refine lv_iload hx hb dX3_choose_44 (lv_at hl 5 rfl) ?_
      refine cNi (As := [.int x2, .int x6]) (rest := []) S (c_X5_hasBit l D cI cN _ x2 x6 (fX5_hasBit x2 x6) rfl) ⟨va_cnB 2 hts gX3_choose_X5_hasBit_n64 rfl rfl rfl hK.2.2.1 (hts (.initialized RX5) (List.mem_of_getElem? (i := 3) rfl)) (by decide +kernel) ⟨Nat.le_of_ble_eq_true rfl, Nat.le_of_ble_eq_true rfl⟩, (hts (.static yX5_hasBit) (List.mem_of_getElem? (i := 2) rfl)), trivial⟩ hK hP hS hA [] rfl rfl hl.1 rfl (Nat.le_of_ble_eq_true rfl) dX3_choose_46 ⟨Nat.zero_le _, Nat.zero_le _⟩ (fun H locs hP hS => ?_)
      refine lv_if_eq (tgt := 82) hx hb dX3_choose_49 (by decide) (fun c5 => ?_) (fun c5 => ?_)
      · have hf := it_t hf c5
        refine lv_iinc (v := (x6 + (1 : Int32))) (lv' := [(6, .int (x6 + (1 : Int32))), (1, .ref (q 0)), (2, .int x2), (3, .int x3), (4, .int x4), (5, .int x5)]) hx hb dX3_choose_82 hl (k := 5) rfl rfl (by decide) rfl (fun ls hl => ?_)
        refine lv_goto (tgt := 36) hx hb dX3_choose_85 (by decide) ?_
        exact ih _ _ _ hf H locs ls hP hS (lv_sub hl [1, 2, 3, 4, 5, 0] rfl)
      · have hf := it_f hf c5
        refine lv_iload_n hx hb dX3_choose_52 rfl (lv_at hl 2 rfl) ?_
        refine lv_aload_n hx hb dX3_choose_53 rfl (lv_at hl 0 rfl) ?_
        refine lv_iload hx hb dX3_choose_54 (lv_at hl 5 rfl) ?_
        obtain ⟨v6, hv6, hf⟩ := it_b hf
        refine cQi (As := [.int x6]) (rest := [.int x3]) (q0 := 5) (ci := 1) S (c_X1_loadOf l D cI cN q _ n x6 v6 hv6) (cwV 1 hts gX3_choose_X1_loadOf rfl rfl rfl (by decide +kernel) ⟨Nat.le_of_ble_eq_true rfl, Nat.le_of_ble_eq_true rfl⟩) hK hP hS hA (P_sel [(false, (rtW cI t r), (rtW cI t r)), (true, (nwW cI q n), (nwW cI q n))] hP) rfl rfl rfl hl.1 rfl (Nat.le_of_ble_eq_true rfl) dX3_choose_56 ⟨Nat.zero_le _, Nat.zero_le _⟩ (fun H locs hP hS => ?_)
        refine lv_imul hx hb dX3_choose_59 ?_
        refine lv_istore (lv' := [(7, .int (x3 * v6)), (1, .ref (q 0)), (2, .int x2), (3, .int x3), (4, .int x4), (5, .int x5), (6, .int x6)]) hx hb dX3_choose_60 hl (by decide) rfl (fun ls hl => ?_)
        refine lv_iload hx hb dX3_choose_62 (lv_at hl 4 rfl) ?_
        refine lv_if_lt (tgt := 74) hx hb dX3_choose_64 (by decide) (fun c7 => ?_) (fun c7 => ?_)
        · have hf := it_t hf c7
          refine lv_iload hx hb dX3_choose_74 (lv_at hl 6 rfl) ?_
          refine lv_istore (lv' := [(4, .int x6), (7, .int (x3 * v6)), (1, .ref (q 0)), (2, .int x2), (3, .int x3), (5, .int x5), (6, .int x6)]) hx hb dX3_choose_76 hl (by decide) rfl (fun ls hl => ?_)
          refine lv_iload hx hb dX3_choose_78 (lv_at hl 1 rfl) ?_
          refine lv_istore (lv' := [(5, .int (x3 * v6)), (4, .int x6), (7, .int (x3 * v6)), (1, .ref (q 0)), (2, .int x2), (3, .int x3), (6, .int x6)]) hx hb dX3_choose_80 hl (by decide) rfl (fun ls hl => ?_)
          refine lv_iinc (v := (x6 + (1 : Int32))) (lv' := [(6, .int (x6 + (1 : Int32))), (5, .int (x3 * v6)), (4, .int x6), (7, .int (x3 * v6)), (1, .ref (q 0)), (2, .int x2), (3, .int x3)]) hx hb dX3_choose_82 hl (k := 6) rfl rfl (by decide) rfl (fun ls hl => ?_)
          refine lv_goto (tgt := 36) hx hb dX3_choose_85 (by decide) ?_
          exact ih _ _ _ hf H locs ls hP hS (lv_sub hl [4, 5, 6, 2, 1, 0] rfl)
        · have hf := it_f hf c7
          refine lv_iload hx hb dX3_choose_67 (lv_at hl 0 rfl) ?_
          refine lv_iload hx hb dX3_choose_69 (lv_at hl 5 rfl) ?_
          refine lv_icmp_le (tgt := 82) hx hb dX3_choose_71 (by decide) (fun c8 => ?_) (fun c8 => ?_)
          · have hf := it_t hf c8
            refine lv_iinc (v := (x6 + (1 : Int32))) (lv' := [(6, .int (x6 + (1 : Int32))), (7, .int (x3 * v6)), (1, .ref (q 0)), (2, .int x2), (3, .int x3), (4, .int x4), (5, .int x5)]) hx hb dX3_choose_82 hl (k := 6) rfl rfl (by decide) rfl (fun ls hl => ?_)
            refine lv_goto (tgt := 36) hx hb dX3_choose_85 (by decide) ?_
            exact ih _ _ _ hf H locs ls hP hS (lv_sub hl [2, 3, 4, 5, 6, 0] rfl)
          · have hf := it_f hf c8
            refine lv_iload hx hb dX3_choose_74 (lv_at hl 6 rfl) ?_
            refine lv_istore (lv' := [(4, .int x6), (7, .int (x3 * v6)), (1, .ref (q 0)), (2, .int x2), (3, .int x3), (5, .int x5), (6, .int x6)]) hx hb dX3_choose_76 hl (by decide) rfl (fun ls hl => ?_)
            refine lv_iload hx hb dX3_choose_78 (lv_at hl 1 rfl) ?_
            refine lv_istore (lv' := [(5, .int (x3 * v6)), (4, .int x6), (7, .int (x3 * v6)), (1, .ref (q 0)), (2, .int x2), (3, .int x3), (6, .int x6)]) hx hb dX3_choose_80 hl (by decide) rfl (fun ls hl => ?_)
            refine lv_iinc (v := (x6 + (1 : Int32))) (lv' := [(6, .int (x6 + (1 : Int32))), (5, .int (x3 * v6)), (4, .int x6), (7, .int (x3 * v6)), (1, .ref (q 0)), (2, .int x2), (3, .int x3)]) hx hb dX3_choose_82 hl (k := 6) rfl rfl (by decide) rfl (fun ls hl => ?_)
            refine lv_goto (tgt := 36) hx hb dX3_choose_85 (by decide) ?_
            exact ih _ _ _ hf H locs ls hP hS (lv_sub hl [4, 5, 6, 2, 1, 0] rfl)
set_option maxRecDepth 100000 in
set_option maxHeartbeats 4000000 in
theorem w_X3_choose_0 {p : Program} {l : Launch} {e : Env} {s : State} {m : MethodId} {args : Array Value} {below : List Frame} {meth : Method} {c : Code} {Q : State → Prop} {D : va_G} {cI cN : ClassId} {t : Nat → Nat} {q : Nat → Nat} (S : CallFix p m c cX3_choose 8 s args wsX3_choose RX3) (hK : KN D cI cN s) {r : OS} {n : OS} {x2 : Int32} {r0 : Int32} (hret : ∀ (H : Heap) (locs : List Loc) (ls : Array Slot) (pc : Nat), decode cX3_choose pc = .ok (.ireturn, 1) → narrow .int (.int r0) = .int r0 → va_S (nwA s.heap.size) s.heap H locs → W p l e (headSpec wsX3_choose rm_X3_choose).room s m args below meth c H locs 0 0 Q (F0 m pc ls [.int r0])) (hf : fX3_choose r n x2 = some r0) (H : Heap) (locs : List Loc) (ls : Array Slot) (hP : va_P D vwCl ((rtW cI t r) ++ (nwW cI q n)) H) (hS : va_S (nwA s.heap.size) s.heap H locs) (hl : lv_has ls 8 [(1, .ref (q 0)), (2, .int x2)]) : W p l e (headSpec wsX3_choose rm_X3_choose).room s m args below meth c H locs 0 0 Q (F0 m 0 ls []) := by
  obtain ⟨hx, hb, hml, hown, hts⟩ := id S
  have inX1 := in_X3_choose_X1
  have hA : ∀ q : Nat, s.heap.size ≤ q → nwA s.heap.size q := fun _ h => h
  unfold fX3_choose at hf
  refine lv_aload_n hx hb dX3_choose_0 rfl (lv_at hl 0 rfl) ?_
  refine va_get (D := D) (ci := 1) (v := .int (n.1 4)) (C := RX1) (T := TX1) (N := 16) hx hb hts inX1 hown hK.1 hP 5 rfl rfl 4 (by decide) (hts (.fieldLink RX3 146 "ClosExchange$Network" "choiceRule" "I") (List.mem_of_getElem? (i := 1) rfl)) (fun _ h9 => h9) rfl dX3_choose_1 ?_
  refine lv_iconst (v := (1 : Int32)) hx hb dX3_choose_4 kc_iconst_1 ?_
  obtain ⟨v3, hg, hf⟩ := it_j hf
  have hj : ∀ (H : Heap) (locs : List Loc) (ls : Array Slot), va_P D vwCl ((rtW cI t r) ++ (nwW cI q n)) H → va_S (nwA s.heap.size) s.heap H locs → lv_has ls 8 [(1, .ref (q 0)), (2, .int x2)] → W p l e (headSpec wsX3_choose rm_X3_choose).room s m args below meth c H locs 0 0 Q (F0 m 25 ls [.int v3]) := by
    intro H locs ls hP hS hl
    refine lv_istore_n (lv' := [(3, .int v3), (1, .ref (q 0)), (2, .int x2)]) hx hb dX3_choose_25 rfl hl (by decide) rfl (fun ls hl => ?_)
    refine lv_bipush (v := (-6 : Int32)) hx hb dX3_choose_26 kc_bipush_m6 ?_
    refine lv_istore (lv' := [(4, .int (-6 : Int32)), (3, .int v3), (1, .ref (q 0)), (2, .int x2)]) hx hb dX3_choose_28 hl (by decide) rfl (fun ls hl => ?_)
    refine lv_iconst (v := (0 : Int32)) hx hb dX3_choose_30 kc_iconst_0 ?_
    refine lv_istore (lv' := [(5, .int (0 : Int32)), (4, .int (-6 : Int32)), (3, .int v3), (1, .ref (q 0)), (2, .int x2)]) hx hb dX3_choose_31 hl (by decide) rfl (fun ls hl => ?_)
    refine lv_iconst (v := (0 : Int32)) hx hb dX3_choose_33 kc_iconst_0 ?_
    refine lv_istore (lv' := [(6, .int (0 : Int32)), (5, .int (0 : Int32)), (4, .int (-6 : Int32)), (3, .int v3), (1, .ref (q 0)), (2, .int x2)]) hx hb dX3_choose_34 hl (by decide) rfl (fun ls hl => ?_)
    exact w_X3_choose_36 S hK hret _ _ _ _ hf H locs ls hP hS (lv_sub hl [4, 5, 3, 2, 1, 0] rfl)
  have hf := hg
  refine lv_icmp_ne (tgt := 12) hx hb dX3_choose_5 (by decide) (fun c1 => ?_) (fun c1 => ?_)
  · have hf := it_f hf c1
    refine lv_aload_n hx hb dX3_choose_12 rfl (lv_at hl 0 rfl) ?_
    refine va_get (D := D) (ci := 1) (v := .int (n.1 4)) (C := RX1) (T := TX1) (N := 16) hx hb hts inX1 hown hK.1 hP 5 rfl rfl 4 (by decide) (hts (.fieldLink RX3 146 "ClosExchange$Network" "choiceRule" "I") (List.mem_of_getElem? (i := 1) rfl)) (fun _ h9 => h9) rfl dX3_choose_13 ?_
    refine lv_iconst (v := (2 : Int32)) hx hb dX3_choose_16 kc_iconst_2 ?_
    refine lv_icmp_ne (tgt := 24) hx hb dX3_choose_17 (by decide) (fun c2 => ?_) (fun c2 => ?_)
    · have hf := it_f hf c2
      refine lv_iconst (v := (0 : Int32)) hx hb dX3_choose_24 kc_iconst_0 ?_
      have e0 := hf
      subst e0
      exact hj H locs ls hP hS (lv_sub hl [0, 1] rfl)
    · have hf := it_t hf c2
      refine lv_iconst (v := (-1 : Int32)) hx hb dX3_choose_20 kc_iconst_m1 ?_
      refine lv_goto (tgt := 25) hx hb dX3_choose_21 (by decide) ?_
      have e0 := hf
      subst e0
      exact hj H locs ls hP hS (lv_sub hl [0, 1] rfl)
  · have hf := it_t hf c1
    refine lv_iconst (v := (1 : Int32)) hx hb dX3_choose_8 kc_iconst_1 ?_
    refine lv_goto (tgt := 25) hx hb dX3_choose_9 (by decide) ?_
    have e0 := hf
    subst e0
    exact hj H locs ls hP hS (lv_sub hl [0, 1] rfl)
set_option maxRecDepth 100000 in
theorem c_X3_choose (l : Launch) (D : va_G) (cI cN : ClassId) (t : Nat → Nat) (q : Nat → Nat) (sz : Nat) (r : OS) (n : OS) (x2 : Int32) (r0 : Int32) (hf : fX3_choose r n x2 = some r0) : CtP l D cI cN yX3_choose wsX3_choose rm_X3_choose [.ref (t 0), .ref (q 0), .int x2] ((rtW cI t r) ++ (nwW cI q n)) sz r0 := by
  refine mP (cc := cX3_choose) (maxL := 8) (ty := .int) (by decide) rfl rfl (Nat.le_of_ble_eq_true rfl) ?_
  intro p e s m args below meth c Q S hK hP hS hret ls hl
  exact w_X3_choose_0 S hK hret hf _ _ _ hP hS (lv_sub (show lv_has ls 8 [(0, .ref (t 0)), (1, .ref (q 0)), (2, .int x2)] from hl) [1, 2] rfl)
abbrev rm_X3_countChanged : Room := { frames := 1, cells := 0, slots := 0, locals := 21 }
theorem in_X3_countChanged_X1 : ∀ w ∈ u_ws RX1 TX1 16, w ∈ wsX3_countChanged := fun w h => List.mem_cons_of_mem _ (List.mem_append_left _ (List.mem_append_left _ (List.mem_append_right _ h)))
theorem in_X3_countChanged_X3 : ∀ w ∈ u_ws RX3 TX3 5, w ∈ wsX3_countChanged := fun w h => List.mem_cons_of_mem _ (List.mem_append_left _ (List.mem_append_right _ h))
set_option maxRecDepth 100000 in
set_option maxHeartbeats 4000000 in
theorem w_X3_countChanged_4 {p : Program} {l : Launch} {e : Env} {s : State} {m : MethodId} {args : Array Value} {below : List Frame} {meth : Method} {c : Code} {Q : State → Prop} {D : va_G} {cI cN : ClassId} {t : Nat → Nat} {q : Nat → Nat} (S : CallFix p m c cX3_countChanged 4 s args wsX3_countChanged RX3) (hK : KN D cI cN s) {r : OS} {n : OS} {r0 : Int32} (hret : ∀ (H : Heap) (locs : List Loc) (ls : Array Slot) (pc : Nat), decode cX3_countChanged pc = .ok (.ireturn, 1) → narrow .int (.int r0) = .int r0 → va_S (nwA s.heap.size) s.heap H locs → W p l e (headSpec wsX3_countChanged rm_X3_countChanged).room s m args below meth c H locs 0 0 Q (F0 m pc ls [.int r0])) : ∀ (k : Nat) (x2 : Int32) (x3 : Int32), fX3_countChanged_4 r n k x2 x3 = some r0 → ∀ (H : Heap) (locs : List Loc) (ls : Array Slot), va_P D vwCl ((rtW cI t r) ++ (nwW cI q n)) H → va_S (nwA s.heap.size) s.heap H locs → lv_has ls 4 [(0, .ref (t 0)), (1, .ref (q 0)), (2, .int x2), (3, .int x3)] → W p l e (headSpec wsX3_countChanged rm_X3_countChanged).room s m args below meth c H locs 0 0 Q (F0 m 4 ls []) := by
  obtain ⟨hx, hb, hml, hown, hts⟩ := id S
  have inX1 := in_X3_countChanged_X1
  have inX3 := in_X3_countChanged_X3
  have hA : ∀ q : Nat, s.heap.size ≤ q → nwA s.heap.size q := fun _ h => h
  intro k
  induction k with
  | zero => intro x2 x3 hf; rw [fX3_countChanged_4_z] at hf; cases hf
  | succ k ih =>
    intro x2 x3 hf H locs ls hP hS hl
    rw [fX3_countChanged_4_s] at hf
    refine lv_iload_n hx hb dX3_countChanged_4 rfl (lv_at hl 3 rfl) ?_
    refine lv_bipush (v := (48 : Int32)) hx hb dX3_countChanged_5 kc_bipush_48 ?_
    refine lv_icmp_ge (tgt := 43) hx hb dX3_countChanged_7 (by decide) (fun c1 => ?_) (fun c1 => ?_)
    · have hf := it_t hf c1
      refine lv_iload_n hx hb dX3_countChanged_43 rfl (lv_at hl 2 rfl) ?_
      have e0 : x2 = r0 := (Option.some.inj hf)
      subst e0
      exact hret H locs ls _ dX3_countChanged_44 rfl hS
    · have hf := it_f hf c1
      refine lv_iload_n hx hb dX3_countChanged_10 rfl (lv_at hl 2 rfl) ?_
      refine lv_aload_n hx hb dX3_countChanged_11 rfl (lv_at hl 1 rfl) ?_
      refine va_get (D := D) (ci := 1) (v := .ref (q 3)) (C := RX1) (T := TX1) (N := 16) hx hb hts inX1 hown hK.1 hP 5 rfl rfl 12 (by decide) (hts (.fieldLink RX3 68 "ClosExchange$Network" "vias" "LClosExchange$Row;") (List.mem_of_getElem? (i := 1) rfl)) (fun _ h9 => h9) rfl dX3_countChanged_12 ?_
      refine lv_iload_n hx hb dX3_countChanged_15 rfl (lv_at hl 3 rfl) ?_
      refine cQi (As := [.int x3]) (rest := [.int x2]) (q0 := 8) (ci := 4) S (c_X4_get l D cI cN (q 3) (q 9) 48 (Nat.le_of_ble_eq_true rfl) _ (n.2 2) x3) (cwV 1 hts gX3_countChanged_X4_get rfl rfl rfl (by decide +kernel) ⟨Nat.le_of_ble_eq_true rfl, Nat.le_of_ble_eq_true rfl⟩) hK hP hS hA (P_two (i0 := 8) (i1 := 14) hP rfl rfl) rfl rfl rfl hl.1 rfl (Nat.le_of_ble_eq_true rfl) dX3_countChanged_16 ⟨Nat.zero_le _, Nat.zero_le _⟩ (fun H locs hP hS => ?_)
      refine lv_aload_n hx hb dX3_countChanged_19 rfl (lv_at hl 0 rfl) ?_
      refine va_get (D := D) (ci := 3) (v := .ref (t 2)) (C := RX3) (T := TX3) (N := 5) hx hb hts inX3 hown hK.1 hP 0 rfl rfl 4 (by decide) (hts (.fieldLink RX3 20 "ClosExchange$Router" "formerVias" "LClosExchange$Row;") (List.mem_of_getElem? (i := 2) rfl)) (fun _ h9 => h9) rfl dX3_countChanged_20 ?_
      refine lv_iload_n hx hb dX3_countChanged_23 rfl (lv_at hl 3 rfl) ?_
      refine cQi (As := [.int x3]) (rest := [.int (rget (n.2 2) 48 x3), .int x2]) (q0 := 2) (ci := 4) S (c_X4_get l D cI cN (t 2) (t 4) 48 (Nat.le_of_ble_eq_true rfl) _ (r.2 1) x3) (cwV 1 hts gX3_countChanged_X4_get rfl rfl rfl (by decide +kernel) ⟨Nat.le_of_ble_eq_true rfl, Nat.le_of_ble_eq_true rfl⟩) hK hP hS hA (P_two (i0 := 2) (i1 := 4) hP rfl rfl) rfl rfl rfl hl.1 rfl (Nat.le_of_ble_eq_true rfl) dX3_countChanged_24 ⟨Nat.zero_le _, Nat.zero_le _⟩ (fun H locs hP hS => ?_)
      refine lv_icmp_eq (tgt := 34) hx hb dX3_countChanged_27 (by decide) (fun c2 => ?_) (fun c2 => ?_)
      · have hf := it_t hf c2
        refine lv_iconst (v := (0 : Int32)) hx hb dX3_countChanged_34 kc_iconst_0 ?_
        refine lv_iadd hx hb dX3_countChanged_35 ?_
        refine lv_istore_n (lv' := [(2, .int (x2 + (0 : Int32))), (0, .ref (t 0)), (1, .ref (q 0)), (3, .int x3)]) hx hb dX3_countChanged_36 rfl hl (by decide) rfl (fun ls hl => ?_)
        refine lv_iinc (v := (x3 + (1 : Int32))) (lv' := [(3, .int (x3 + (1 : Int32))), (2, .int (x2 + (0 : Int32))), (0, .ref (t 0)), (1, .ref (q 0))]) hx hb dX3_countChanged_37 hl (k := 3) rfl rfl (by decide) rfl (fun ls hl => ?_)
        refine lv_goto (tgt := 4) hx hb dX3_countChanged_40 (by decide) ?_
        exact ih _ _ hf H locs ls hP hS (lv_sub hl [2, 3, 1, 0] rfl)
      · have hf := it_f hf c2
        refine lv_iconst (v := (1 : Int32)) hx hb dX3_countChanged_30 kc_iconst_1 ?_
        refine lv_goto (tgt := 35) hx hb dX3_countChanged_31 (by decide) ?_
        refine lv_iadd hx hb dX3_countChanged_35 ?_
        refine lv_istore_n (lv' := [(2, .int (x2 + (1 : Int32))), (0, .ref (t 0)), (1, .ref (q 0)), (3, .int x3)]) hx hb dX3_countChanged_36 rfl hl (by decide) rfl (fun ls hl => ?_)
        refine lv_iinc (v := (x3 + (1 : Int32))) (lv' := [(3, .int (x3 + (1 : Int32))), (2, .int (x2 + (1 : Int32))), (0, .ref (t 0)), (1, .ref (q 0))]) hx hb dX3_countChanged_37 hl (k := 3) rfl rfl (by decide) rfl (fun ls hl => ?_)
        refine lv_goto (tgt := 4) hx hb dX3_countChanged_40 (by decide) ?_
        exact ih _ _ hf H locs ls hP hS (lv_sub hl [2, 3, 1, 0] rfl)
set_option maxRecDepth 100000 in
set_option maxHeartbeats 4000000 in
theorem w_X3_countChanged_0 {p : Program} {l : Launch} {e : Env} {s : State} {m : MethodId} {args : Array Value} {below : List Frame} {meth : Method} {c : Code} {Q : State → Prop} {D : va_G} {cI cN : ClassId} {t : Nat → Nat} {q : Nat → Nat} (S : CallFix p m c cX3_countChanged 4 s args wsX3_countChanged RX3) (hK : KN D cI cN s) {r : OS} {n : OS} {r0 : Int32} (hret : ∀ (H : Heap) (locs : List Loc) (ls : Array Slot) (pc : Nat), decode cX3_countChanged pc = .ok (.ireturn, 1) → narrow .int (.int r0) = .int r0 → va_S (nwA s.heap.size) s.heap H locs → W p l e (headSpec wsX3_countChanged rm_X3_countChanged).room s m args below meth c H locs 0 0 Q (F0 m pc ls [.int r0])) (hf : fX3_countChanged r n = some r0) (H : Heap) (locs : List Loc) (ls : Array Slot) (hP : va_P D vwCl ((rtW cI t r) ++ (nwW cI q n)) H) (hS : va_S (nwA s.heap.size) s.heap H locs) (hl : lv_has ls 4 [(0, .ref (t 0)), (1, .ref (q 0))]) : W p l e (headSpec wsX3_countChanged rm_X3_countChanged).room s m args below meth c H locs 0 0 Q (F0 m 0 ls []) := by
  obtain ⟨hx, hb, hml, hown, hts⟩ := id S
  have inX1 := in_X3_countChanged_X1
  have inX3 := in_X3_countChanged_X3
  have hA : ∀ q : Nat, s.heap.size ≤ q → nwA s.heap.size q := fun _ h => h
  unfold fX3_countChanged at hf
  refine lv_iconst (v := (0 : Int32)) hx hb dX3_countChanged_0 kc_iconst_0 ?_
  refine lv_istore_n (lv' := [(2, .int (0 : Int32)), (0, .ref (t 0)), (1, .ref (q 0))]) hx hb dX3_countChanged_1 rfl hl (by decide) rfl (fun ls hl => ?_)
  refine lv_iconst (v := (0 : Int32)) hx hb dX3_countChanged_2 kc_iconst_0 ?_
  refine lv_istore_n (lv' := [(3, .int (0 : Int32)), (2, .int (0 : Int32)), (0, .ref (t 0)), (1, .ref (q 0))]) hx hb dX3_countChanged_3 rfl hl (by decide) rfl (fun ls hl => ?_)
  exact w_X3_countChanged_4 S hK hret _ _ _ hf H locs ls hP hS (lv_sub hl [2, 3, 1, 0] rfl)
set_option maxRecDepth 100000 in
theorem c_X3_countChanged (l : Launch) (D : va_G) (cI cN : ClassId) (t : Nat → Nat) (q : Nat → Nat) (sz : Nat) (r : OS) (n : OS) (r0 : Int32) (hf : fX3_countChanged r n = some r0) : CtP l D cI cN yX3_countChanged wsX3_countChanged rm_X3_countChanged [.ref (t 0), .ref (q 0)] ((rtW cI t r) ++ (nwW cI q n)) sz r0 := by
  refine mP (cc := cX3_countChanged) (maxL := 4) (ty := .int) (by decide) rfl rfl (Nat.le_of_ble_eq_true rfl) ?_
  intro p e s m args below meth c Q S hK hP hS hret ls hl
  exact w_X3_countChanged_0 S hK hret hf _ _ _ hP hS (lv_sub (show lv_has ls 4 [(0, .ref (t 0)), (1, .ref (q 0))] from hl) [0, 1] rfl)
abbrev rm_X3_follow : Room := { frames := 1, cells := 0, slots := 0, locals := 22 }
theorem in_X3_follow_X1 : ∀ w ∈ u_ws RX1 TX1 16, w ∈ wsX3_follow := fun w h => List.mem_cons_of_mem _ (List.mem_append_left _ (List.mem_append_right _ h))
theorem in_X3_follow_X3 : ∀ w ∈ u_ws RX3 TX3 5, w ∈ wsX3_follow := fun w h => List.mem_cons_of_mem _ (List.mem_append_left _ (List.mem_append_left _ (List.mem_append_right _ h)))
set_option maxRecDepth 100000 in
set_option maxHeartbeats 4000000 in
theorem w_X3_follow_22 {p : Program} {l : Launch} {e : Env} {s : State} {m : MethodId} {args : Array Value} {below : List Frame} {meth : Method} {c : Code} {Q : State → Prop} {D : va_G} {cI cN : ClassId} {A : Nat → Prop} {t : Nat → Nat} {q : Nat → Nat} (S : CallFix p m c cX3_follow 9 s args wsX3_follow RX3) (hK : KN D cI cN s) (hA : ∀ q : Nat, s.heap.size ≤ q → A q) {n : OS} {x2 : Int32} {x3 : Int32} {r' : OS} (hret : ∀ (H : Heap) (locs : List Loc) (ls : Array Slot) (pc : Nat), decode cX3_follow pc = .ok (.return_, 1) → va_P D vwCl ((rtW cI t r') ++ (nwW cI q n)) H → va_D A ((rtW cI t r') ++ (nwW cI q n)) → va_S A s.heap H locs → W p l e (headSpec wsX3_follow rm_X3_follow).room s m args below meth c H locs 0 0 Q (F0 m pc ls [])) : ∀ (k : Nat) (x5 : Int32) (x6 : Int32) (r : OS), fX3_follow_22 n x2 x3 k x5 x6 r = some r' → ∀ (H : Heap) (locs : List Loc) (ls : Array Slot), va_P D vwCl ((rtW cI t r) ++ (nwW cI q n)) H → va_D A ((rtW cI t r) ++ (nwW cI q n)) → va_S A s.heap H locs → lv_has ls 9 [(0, .ref (t 0)), (1, .ref (q 0)), (2, .int x2), (3, .int x3), (5, .int x5), (6, .int x6)] → W p l e (headSpec wsX3_follow rm_X3_follow).room s m args below meth c H locs 0 0 Q (F0 m 22 ls []) := by
  obtain ⟨hx, hb, hml, hown, hts⟩ := id S
  have inX1 := in_X3_follow_X1
  have inX3 := in_X3_follow_X3
  intro k
  induction k with
  | zero => intro x5 x6 r hf; rw [fX3_follow_22_z] at hf; cases hf
  | succ k ih =>
    intro x5 x6 r hf H locs ls hP hD hS hl
    rw [fX3_follow_22_s] at hf
    refine lv_iload hx hb dX3_follow_22 (lv_at hl 5 rfl) ?_
    refine lv_bipush (v := (16 : Int32)) hx hb dX3_follow_24 kc_bipush_16 ?_
    refine lv_icmp_ge (tgt := 139) hx hb dX3_follow_26 (by decide) (fun c1 => ?_) (fun c1 => ?_)
    · have hf := it_t hf c1
      have e0 : r = r' := (Option.some.inj hf)
      subst e0
      exact hret H locs ls _ dX3_follow_139 hP hD hS
    · have hf := it_f hf c1
      refine lv_iload hx hb dX3_follow_29 (lv_at hl 5 rfl) ?_
      refine lv_iconst (v := (2 : Int32)) hx hb dX3_follow_31 kc_iconst_2 ?_
      refine lv_irem hx hb dX3_follow_32 (by decide) ?_
      obtain ⟨v3, hg, hf⟩ := it_j hf
      have hj : ∀ (H : Heap) (locs : List Loc) (ls : Array Slot), va_P D vwCl ((rtW cI t r) ++ (nwW cI q n)) H → va_D A ((rtW cI t r) ++ (nwW cI q n)) → va_S A s.heap H locs → lv_has ls 9 [(0, .ref (t 0)), (1, .ref (q 0)), (2, .int x2), (3, .int x3), (5, .int x5), (6, .int x6)] → W p l e (headSpec wsX3_follow rm_X3_follow).room s m args below meth c H locs 0 0 Q (F0 m 41 ls [.int v3]) := by
        intro H locs ls hP hD hS hl
        refine lv_istore (lv' := [(7, .int v3), (0, .ref (t 0)), (1, .ref (q 0)), (2, .int x2), (3, .int x3), (5, .int x5), (6, .int x6)]) hx hb dX3_follow_41 hl (by decide) rfl (fun ls hl => ?_)
        refine lv_iload hx hb dX3_follow_43 (lv_at hl 0 rfl) ?_
        obtain ⟨v5, hg, hf⟩ := it_j hf
        have hj : ∀ (H : Heap) (locs : List Loc) (ls : Array Slot), va_P D vwCl ((rtW cI t r) ++ (nwW cI q n)) H → va_D A ((rtW cI t r) ++ (nwW cI q n)) → va_S A s.heap H locs → lv_has ls 9 [(0, .ref (t 0)), (1, .ref (q 0)), (2, .int x2), (3, .int x3), (6, .int x6), (7, .int v3)] → W p l e (headSpec wsX3_follow rm_X3_follow).room s m args below meth c H locs 0 0 Q (F0 m 77 ls [.int v5]) := by
          intro H locs ls hP hD hS hl
          refine lv_istore (lv' := [(8, .int v5), (0, .ref (t 0)), (1, .ref (q 0)), (2, .int x2), (3, .int x3), (6, .int x6), (7, .int v3)]) hx hb dX3_follow_77 hl (by decide) rfl (fun ls hl => ?_)
          refine lv_iload hx hb dX3_follow_79 (lv_at hl 0 rfl) ?_
          refine lv_if_ge (tgt := 87) hx hb dX3_follow_81 (by decide) (fun c6 => ?_) (fun c6 => ?_)
          · have hf := it_t hf c6
            refine lv_aload_n hx hb dX3_follow_87 rfl (lv_at hl 1 rfl) ?_
            refine va_get (D := D) (ci := 3) (v := .ref (t 1)) (C := RX3) (T := TX3) (N := 5) hx hb hts inX3 hown hK.1 hP 0 rfl rfl 0 (by decide) (hts (.fieldLink RX3 14 "ClosExchange$Router" "chain" "LClosExchange$Row;") (List.mem_of_getElem? (i := 6) rfl)) (fun _ h9 => h9) rfl dX3_follow_88 ?_
            refine lv_iload hx hb dX3_follow_91 (lv_at hl 5 rfl) ?_
            refine lv_iload hx hb dX3_follow_93 (lv_at hl 0 rfl) ?_
            obtain ⟨w7, hw7, hf⟩ := it_j hf
            refine cRv (As := [.int x6, .int v5]) (rest := []) (i0 := 1) (i1 := 3) (wf := ((rtW cI t (setR r 0 w7)) ++ (nwW cI q n))) S (c_X4_set l D cI cN (t 1) (t 3) 16 (Nat.le_of_ble_eq_true rfl) _ (r.2 0) x6 v5 w7 hw7) (cwV 2 hts gX3_follow_X4_set rfl rfl rfl (by decide +kernel) ⟨Nat.le_of_ble_eq_true rfl, Nat.le_of_ble_eq_true rfl⟩) hK hP hD hS hA rfl rfl (by decide) rfl rfl hl.1 rfl (Nat.le_of_ble_eq_true rfl) dX3_follow_95 ⟨Nat.zero_le _, Nat.zero_le _⟩ (fun H locs hP hD hS => ?_)
            refine lv_aload_n hx hb dX3_follow_98 rfl (lv_at hl 1 rfl) ?_
            refine lv_dup hx hb dX3_follow_99 rfl ?_
            refine va_get (D := D) (ci := 3) (v := .int (r.1 1)) (C := RX3) (T := TX3) (N := 5) hx hb hts inX3 hown hK.1 hP 0 rfl rfl 1 (by decide) (hts (.fieldLink RX3 119 "ClosExchange$Router" "chainLength" "I") (List.mem_of_getElem? (i := 3) rfl)) (fun _ h9 => h9) rfl dX3_follow_100 ?_
            refine lv_iconst (v := (1 : Int32)) hx hb dX3_follow_103 kc_iconst_1 ?_
            refine lv_iadd hx hb dX3_follow_104 ?_
            obtain ⟨w8, hw8, hf⟩ := it_j hf
            rw [hw8]
            refine gput (D := D) (ci := 3) (v := .int w8) (ty := .int) (C := RX3) (T := TX3) (N := 5) (wf := ((rtW cI t (setF (setR r 0 w7) 1 w8)) ++ (nwW cI q n))) hx hb hts inX3 tyX3 tyX3_ok nmX3 hown hK.1 hP hD hS 0 rfl rfl 1 (by decide) (hts (.fieldLink RX3 119 "ClosExchange$Router" "chainLength" "I") (List.mem_of_getElem? (i := 3) rfl)) (fun _ h9 => h9) rfl (by decide +kernel) rfl rfl (Nat.le_of_ble_eq_true rfl) dX3_follow_105 rfl (fun H locs hP hD hS => ?_)
            refine lv_aload_n hx hb dX3_follow_108 rfl (lv_at hl 2 rfl) ?_
            refine lv_iload hx hb dX3_follow_109 (lv_at hl 6 rfl) ?_
            obtain ⟨v10, hg, hf⟩ := it_j hf
            have hj : ∀ (H : Heap) (locs : List Loc) (ls : Array Slot), va_P D vwCl ((rtW cI t (setF (setR r 0 w7) 1 w8)) ++ (nwW cI q n)) H → va_D A ((rtW cI t (setF (setR r 0 w7) 1 w8)) ++ (nwW cI q n)) → va_S A s.heap H locs → lv_has ls 9 [(0, .ref (t 0)), (1, .ref (q 0)), (2, .int x2), (3, .int x3), (6, .int x6)] → W p l e (headSpec wsX3_follow rm_X3_follow).room s m args below meth c H locs 0 0 Q (F0 m 128 ls [.int v10, .ref (q 0)]) := by
              intro H locs ls hP hD hS hl
              refine cQi (As := [.int v10]) (rest := []) (q0 := 5) (ci := 1) S (c_X1_boardOf l D cI cN q _ n v10 (fX1_boardOf n v10) rfl) (cwV 1 hts gX3_follow_X1_boardOf rfl rfl rfl (by decide +kernel) ⟨Nat.le_of_ble_eq_true rfl, Nat.le_of_ble_eq_true rfl⟩) hK hP hS hA (P_sel [(false, (rtW cI t (setF (setR r 0 w7) 1 w8)), (rtW cI t (setF (setR r 0 w7) 1 w8))), (true, (nwW cI q n), (nwW cI q n))] hP) rfl rfl rfl hl.1 rfl (Nat.le_of_ble_eq_true rfl) dX3_follow_128 ⟨Nat.zero_le _, Nat.zero_le _⟩ (fun H locs hP hS => ?_)
              refine lv_istore (lv' := [(5, .int (fX1_boardOf n v10)), (0, .ref (t 0)), (1, .ref (q 0)), (2, .int x2), (3, .int x3), (6, .int x6)]) hx hb dX3_follow_131 hl (by decide) rfl (fun ls hl => ?_)
              refine lv_iinc (v := (x6 + (1 : Int32))) (lv' := [(6, .int (x6 + (1 : Int32))), (5, .int (fX1_boardOf n v10)), (0, .ref (t 0)), (1, .ref (q 0)), (2, .int x2), (3, .int x3)]) hx hb dX3_follow_133 hl (k := 5) rfl rfl (by decide) rfl (fun ls hl => ?_)
              refine lv_goto (tgt := 22) hx hb dX3_follow_136 (by decide) ?_
              exact ih _ _ _ hf H locs ls hP hD hS (lv_sub hl [2, 3, 4, 5, 1, 0] rfl)
            have hf := hg
            refine lv_if_eq (tgt := 119) hx hb dX3_follow_111 (by decide) (fun c9 => ?_) (fun c9 => ?_)
            · have hf := it_t hf c9
              refine lv_aload_n hx hb dX3_follow_119 rfl (lv_at hl 2 rfl) ?_
              refine va_get (D := D) (ci := 1) (v := .ref (q 2)) (C := RX1) (T := TX1) (N := 16) hx hb hts inX1 hown hK.1 hP 5 rfl rfl 11 (by decide) (hts (.fieldLink RX3 113 "ClosExchange$Network" "outlets" "LClosExchange$Row;") (List.mem_of_getElem? (i := 7) rfl)) (fun _ h9 => h9) rfl dX3_follow_120 ?_
              refine lv_iload hx hb dX3_follow_123 (lv_at hl 0 rfl) ?_
              refine cQi (As := [.int v5]) (rest := [.ref (q 0)]) (q0 := 7) (ci := 4) S (c_X4_get l D cI cN (q 2) (q 8) 48 (Nat.le_of_ble_eq_true rfl) _ (n.2 1) v5) (cwV 1 hts gX3_follow_X4_get rfl rfl rfl (by decide +kernel) ⟨Nat.le_of_ble_eq_true rfl, Nat.le_of_ble_eq_true rfl⟩) hK hP hS hA (P_two (i0 := 7) (i1 := 13) hP rfl rfl) rfl rfl rfl hl.1 rfl (Nat.le_of_ble_eq_true rfl) dX3_follow_125 ⟨Nat.zero_le _, Nat.zero_le _⟩ (fun H locs hP hS => ?_)
              have e0 := hf
              subst e0
              exact hj H locs ls hP hD hS (lv_sub hl [1, 2, 3, 4, 5] rfl)
            · have hf := it_f hf c9
              refine lv_iload hx hb dX3_follow_114 (lv_at hl 0 rfl) ?_
              refine lv_goto (tgt := 128) hx hb dX3_follow_116 (by decide) ?_
              have e0 := hf
              subst e0
              exact hj H locs ls hP hD hS (lv_sub hl [1, 2, 3, 4, 5] rfl)
          · have hf := it_f hf c6
            refine lv_goto (tgt := 139) hx hb dX3_follow_84 (by decide) ?_
            have e0 : r = r' := (Option.some.inj hf)
            subst e0
            exact hret H locs ls _ dX3_follow_139 hP hD hS
        have hf := hg
        refine lv_if_eq (tgt := 64) hx hb dX3_follow_45 (by decide) (fun c4 => ?_) (fun c4 => ?_)
        · have hf := it_t hf c4
          refine lv_aload_n hx hb dX3_follow_64 rfl (lv_at hl 2 rfl) ?_
          refine va_get (D := D) (ci := 1) (v := .ref (q 5)) (C := RX1) (T := TX1) (N := 16) hx hb hts inX1 hown hK.1 hP 5 rfl rfl 14 (by decide) (hts (.fieldLink RX3 125 "ClosExchange$Network" "firstLinks" "LClosExchange$Row;") (List.mem_of_getElem? (i := 5) rfl)) (fun _ h9 => h9) rfl dX3_follow_65 ?_
          refine lv_iload hx hb dX3_follow_68 (lv_at hl 5 rfl) ?_
          refine lv_iload_n hx hb dX3_follow_70 rfl (lv_at hl 4 rfl) ?_
          refine cNi (As := [.int x5, .int x3]) (rest := [.ref (q 5)]) S (c_X5_link l D cI cN _ x5 x3 (fX5_link x5 x3) rfl) ⟨va_cnB 2 hts gX3_follow_X5_link_n161 rfl rfl rfl hK.2.2.2 (hts (.initialized RX5) (List.mem_of_getElem? (i := 9) rfl)) (by decide +kernel) ⟨Nat.le_of_ble_eq_true rfl, Nat.le_of_ble_eq_true rfl⟩, (hts (.static yX5_link) (List.mem_of_getElem? (i := 8) rfl)), trivial⟩ hK hP hS hA [] rfl rfl hl.1 rfl (Nat.le_of_ble_eq_true rfl) dX3_follow_71 ⟨Nat.zero_le _, Nat.zero_le _⟩ (fun H locs hP hS => ?_)
          refine cQi (As := [.int (fX5_link x5 x3)]) (rest := []) (q0 := 10) (ci := 4) S (c_X4_get l D cI cN (q 5) (q 11) 64 (Nat.le_of_ble_eq_true rfl) _ (n.2 4) (fX5_link x5 x3)) (cwV 1 hts gX3_follow_X4_get rfl rfl rfl (by decide +kernel) ⟨Nat.le_of_ble_eq_true rfl, Nat.le_of_ble_eq_true rfl⟩) hK hP hS hA (P_two (i0 := 10) (i1 := 16) hP rfl rfl) rfl rfl rfl hl.1 rfl (Nat.le_of_ble_eq_true rfl) dX3_follow_74 ⟨Nat.zero_le _, Nat.zero_le _⟩ (fun H locs hP hS => ?_)
          have e0 := hf
          subst e0
          exact hj H locs ls hP hD hS (lv_sub hl [1, 2, 3, 4, 6, 0] rfl)
        · have hf := it_f hf c4
          refine lv_aload_n hx hb dX3_follow_48 rfl (lv_at hl 2 rfl) ?_
          refine va_get (D := D) (ci := 1) (v := .ref (q 6)) (C := RX1) (T := TX1) (N := 16) hx hb hts inX1 hown hK.1 hP 5 rfl rfl 15 (by decide) (hts (.fieldLink RX3 132 "ClosExchange$Network" "lastLinks" "LClosExchange$Row;") (List.mem_of_getElem? (i := 4) rfl)) (fun _ h9 => h9) rfl dX3_follow_49 ?_
          refine lv_iload hx hb dX3_follow_52 (lv_at hl 5 rfl) ?_
          refine lv_iload_n hx hb dX3_follow_54 rfl (lv_at hl 3 rfl) ?_
          refine cNi (As := [.int x5, .int x2]) (rest := [.ref (q 6)]) S (c_X5_link l D cI cN _ x5 x2 (fX5_link x5 x2) rfl) ⟨va_cnB 2 hts gX3_follow_X5_link_n161 rfl rfl rfl hK.2.2.2 (hts (.initialized RX5) (List.mem_of_getElem? (i := 9) rfl)) (by decide +kernel) ⟨Nat.le_of_ble_eq_true rfl, Nat.le_of_ble_eq_true rfl⟩, (hts (.static yX5_link) (List.mem_of_getElem? (i := 8) rfl)), trivial⟩ hK hP hS hA [] rfl rfl hl.1 rfl (Nat.le_of_ble_eq_true rfl) dX3_follow_55 ⟨Nat.zero_le _, Nat.zero_le _⟩ (fun H locs hP hS => ?_)
          refine cQi (As := [.int (fX5_link x5 x2)]) (rest := []) (q0 := 11) (ci := 4) S (c_X4_get l D cI cN (q 6) (q 12) 64 (Nat.le_of_ble_eq_true rfl) _ (n.2 5) (fX5_link x5 x2)) (cwV 1 hts gX3_follow_X4_get rfl rfl rfl (by decide +kernel) ⟨Nat.le_of_ble_eq_true rfl, Nat.le_of_ble_eq_true rfl⟩) hK hP hS hA (P_two (i0 := 11) (i1 := 17) hP rfl rfl) rfl rfl rfl hl.1 rfl (Nat.le_of_ble_eq_true rfl) dX3_follow_58 ⟨Nat.zero_le _, Nat.zero_le _⟩ (fun H locs hP hS => ?_)
          refine lv_goto (tgt := 77) hx hb dX3_follow_61 (by decide) ?_
          have e0 := hf
          subst e0
          exact hj H locs ls hP hD hS (lv_sub hl [1, 2, 3, 4, 6, 0] rfl)
      have hf := hg
      refine lv_if_ne (tgt := 40) hx hb dX3_follow_33 (by decide) (fun c2 => ?_) (fun c2 => ?_)
      · have hf := it_f hf c2
        refine lv_iconst (v := (0 : Int32)) hx hb dX3_follow_40 kc_iconst_0 ?_
        have e0 := hf
        subst e0
        exact hj H locs ls hP hD hS (lv_sub hl [0, 1, 2, 3, 4, 5] rfl)
      · have hf := it_t hf c2
        refine lv_iconst (v := (1 : Int32)) hx hb dX3_follow_36 kc_iconst_1 ?_
        refine lv_goto (tgt := 41) hx hb dX3_follow_37 (by decide) ?_
        have e0 := hf
        subst e0
        exact hj H locs ls hP hD hS (lv_sub hl [0, 1, 2, 3, 4, 5] rfl)
set_option maxRecDepth 100000 in
set_option maxHeartbeats 4000000 in
theorem w_X3_follow_0 {p : Program} {l : Launch} {e : Env} {s : State} {m : MethodId} {args : Array Value} {below : List Frame} {meth : Method} {c : Code} {Q : State → Prop} {D : va_G} {cI cN : ClassId} {A : Nat → Prop} {t : Nat → Nat} {q : Nat → Nat} (S : CallFix p m c cX3_follow 9 s args wsX3_follow RX3) (hK : KN D cI cN s) (hA : ∀ q : Nat, s.heap.size ≤ q → A q) {r : OS} {n : OS} {x2 : Int32} {x3 : Int32} {x4 : Int32} {r' : OS} (hret : ∀ (H : Heap) (locs : List Loc) (ls : Array Slot) (pc : Nat), decode cX3_follow pc = .ok (.return_, 1) → va_P D vwCl ((rtW cI t r') ++ (nwW cI q n)) H → va_D A ((rtW cI t r') ++ (nwW cI q n)) → va_S A s.heap H locs → W p l e (headSpec wsX3_follow rm_X3_follow).room s m args below meth c H locs 0 0 Q (F0 m pc ls [])) (hf : fX3_follow r n x2 x3 x4 = some r') (H : Heap) (locs : List Loc) (ls : Array Slot) (hP : va_P D vwCl ((rtW cI t r) ++ (nwW cI q n)) H) (hD : va_D A ((rtW cI t r) ++ (nwW cI q n))) (hS : va_S A s.heap H locs) (hl : lv_has ls 9 [(0, .ref (t 0)), (1, .ref (q 0)), (2, .int x2), (3, .int x3), (4, .int x4)]) : W p l e (headSpec wsX3_follow rm_X3_follow).room s m args below meth c H locs 0 0 Q (F0 m 0 ls []) := by
  obtain ⟨hx, hb, hml, hown, hts⟩ := id S
  have inX1 := in_X3_follow_X1
  have inX3 := in_X3_follow_X3
  unfold fX3_follow at hf
  refine lv_aload_n hx hb dX3_follow_0 rfl (lv_at hl 0 rfl) ?_
  refine lv_iload_n hx hb dX3_follow_1 rfl (lv_at hl 2 rfl) ?_
  refine gput (D := D) (ci := 3) (v := .int x2) (ty := .int) (C := RX3) (T := TX3) (N := 5) (wf := ((rtW cI t (setF r 2 x2)) ++ (nwW cI q n))) hx hb hts inX3 tyX3 tyX3_ok nmX3 hown hK.1 hP hD hS 0 rfl rfl 2 (by decide) (hts (.fieldLink RX3 143 "ClosExchange$Router" "pairP" "I") (List.mem_of_getElem? (i := 1) rfl)) (fun _ h9 => h9) rfl (by decide +kernel) rfl rfl (Nat.le_of_ble_eq_true rfl) dX3_follow_2 rfl (fun H locs hP hD hS => ?_)
  refine lv_aload_n hx hb dX3_follow_5 rfl (lv_at hl 0 rfl) ?_
  refine lv_iload_n hx hb dX3_follow_6 rfl (lv_at hl 3 rfl) ?_
  refine gput (D := D) (ci := 3) (v := .int x3) (ty := .int) (C := RX3) (T := TX3) (N := 5) (wf := ((rtW cI t (setF (setF r 2 x2) 3 x3)) ++ (nwW cI q n))) hx hb hts inX3 tyX3 tyX3_ok nmX3 hown hK.1 hP hD hS 0 rfl rfl 3 (by decide) (hts (.fieldLink RX3 158 "ClosExchange$Router" "pairQ" "I") (List.mem_of_getElem? (i := 2) rfl)) (fun _ h9 => h9) rfl (by decide +kernel) rfl rfl (Nat.le_of_ble_eq_true rfl) dX3_follow_7 rfl (fun H locs hP hD hS => ?_)
  refine lv_aload_n hx hb dX3_follow_10 rfl (lv_at hl 0 rfl) ?_
  refine lv_iconst (v := (0 : Int32)) hx hb dX3_follow_11 kc_iconst_0 ?_
  refine gput (D := D) (ci := 3) (v := .int (0 : Int32)) (ty := .int) (C := RX3) (T := TX3) (N := 5) (wf := ((rtW cI t (setF (setF (setF r 2 x2) 3 x3) 1 (0 : Int32))) ++ (nwW cI q n))) hx hb hts inX3 tyX3 tyX3_ok nmX3 hown hK.1 hP hD hS 0 rfl rfl 1 (by decide) (hts (.fieldLink RX3 119 "ClosExchange$Router" "chainLength" "I") (List.mem_of_getElem? (i := 3) rfl)) (fun _ h9 => h9) rfl (by decide +kernel) rfl rfl (Nat.le_of_ble_eq_true rfl) dX3_follow_12 rfl (fun H locs hP hD hS => ?_)
  refine lv_iload hx hb dX3_follow_15 (lv_at hl 4 rfl) ?_
  refine lv_istore (lv' := [(5, .int x4), (0, .ref (t 0)), (1, .ref (q 0)), (2, .int x2), (3, .int x3), (4, .int x4)]) hx hb dX3_follow_17 hl (by decide) rfl (fun ls hl => ?_)
  refine lv_iconst (v := (0 : Int32)) hx hb dX3_follow_19 kc_iconst_0 ?_
  refine lv_istore (lv' := [(6, .int (0 : Int32)), (5, .int x4), (0, .ref (t 0)), (1, .ref (q 0)), (2, .int x2), (3, .int x3), (4, .int x4)]) hx hb dX3_follow_20 hl (by decide) rfl (fun ls hl => ?_)
  exact w_X3_follow_22 S hK hA hret _ _ _ _ hf H locs ls hP hD hS (lv_sub hl [2, 3, 4, 5, 1, 0] rfl)
set_option maxRecDepth 100000 in
theorem c_X3_follow (l : Launch) (D : va_G) (cI cN : ClassId) (t : Nat → Nat) (q : Nat → Nat) (sz : Nat) (r : OS) (n : OS) (x2 : Int32) (x3 : Int32) (x4 : Int32) (r' : OS) (hf : fX3_follow r n x2 x3 x4 = some r') : CtV l D cI cN yX3_follow wsX3_follow rm_X3_follow 0 0 [.ref (t 0), .ref (q 0), .int x2, .int x3, .int x4] ((rtW cI t r) ++ (nwW cI q n)) sz ((rtW cI t r') ++ (nwW cI q n)) := by
  refine mV (cc := cX3_follow) (maxL := 9) (by decide) rfl (Nat.le_of_ble_eq_true rfl) ?_
  intro p e s m args below meth c Q A S _ hK hP hD hS hA hret ls hl
  exact w_X3_follow_0 S hK hA hret hf _ _ _ hP hD hS (lv_sub (show lv_has ls 9 [(0, .ref (t 0)), (1, .ref (q 0)), (2, .int x2), (3, .int x3), (4, .int x4)] from hl) [0, 1, 2, 3, 4] rfl)
abbrev rm_X3_findPair : Room := { frames := 2, cells := 0, slots := 0, locals := 50 }
theorem in_X3_findPair_X1 : ∀ w ∈ u_ws RX1 TX1 16, w ∈ wsX3_findPair := fun w h => List.mem_cons_of_mem _ (List.mem_append_left _ (List.mem_append_left _ (List.mem_append_right _ h)))
theorem in_X3_findPair_X3 : ∀ w ∈ u_ws RX3 TX3 5, w ∈ wsX3_findPair := fun w h => List.mem_cons_of_mem _ (List.mem_append_left _ (List.mem_append_right _ h))
set_option maxRecDepth 100000 in
set_option maxHeartbeats 4000000 in
theorem w_X3_findPair_14 {p : Program} {l : Launch} {e : Env} {s : State} {m : MethodId} {args : Array Value} {below : List Frame} {meth : Method} {c : Code} {Q : State → Prop} {D : va_G} {cI cN : ClassId} {A : Nat → Prop} {t : Nat → Nat} {q : Nat → Nat} (S : CallFix p m c cX3_findPair 11 s args wsX3_findPair RX3) (hK : KN D cI cN s) (hA : ∀ q : Nat, s.heap.size ≤ q → A q) {n : OS} {x2 : Int32} {x3 : Int32} {x4 : Int32} {r' : OS} (hret : ∀ (H : Heap) (locs : List Loc) (ls : Array Slot) (pc : Nat), decode cX3_findPair pc = .ok (.return_, 1) → va_P D vwCl ((rtW cI t r') ++ (nwW cI q n)) H → va_D A ((rtW cI t r') ++ (nwW cI q n)) → va_S A s.heap H locs → W p l e (headSpec wsX3_findPair rm_X3_findPair).room s m args below meth c H locs 0 0 Q (F0 m pc ls [])) : ∀ (k : Nat) (x5 : Int32) (x6 : Int32) (x7 : Int32) (x8 : Int32) (r : OS), fX3_findPair_14 n x2 x3 x4 k x5 x6 x7 x8 r = some r' → ∀ (H : Heap) (locs : List Loc) (ls : Array Slot), va_P D vwCl ((rtW cI t r) ++ (nwW cI q n)) H → va_D A ((rtW cI t r) ++ (nwW cI q n)) → va_S A s.heap H locs → lv_has ls 11 [(0, .ref (t 0)), (1, .ref (q 0)), (2, .int x2), (3, .int x3), (4, .int x4), (5, .int x5), (6, .int x6), (7, .int x7), (8, .int x8)] → W p l e (headSpec wsX3_findPair rm_X3_findPair).room s m args below meth c H locs 0 0 Q (F0 m 14 ls []) := by
  obtain ⟨hx, hb, hml, hown, hts⟩ := id S
  have inX1 := in_X3_findPair_X1
  have inX3 := in_X3_findPair_X3
  intro k
  induction k with
  | zero => intro x5 x6 x7 x8 r hf; rw [fX3_findPair_14_z] at hf; cases hf
  | succ k ih =>
    intro x5 x6 x7 x8 r hf H locs ls hP hD hS hl
    rw [fX3_findPair_14_s] at hf
    refine lv_iload hx hb dX3_findPair_14 (lv_at hl 8 rfl) ?_
    refine lv_bipush (v := (64 : Int32)) hx hb dX3_findPair_16 kc_bipush_64 ?_
    refine lv_icmp_ge (tgt := 106) hx hb dX3_findPair_18 (by decide) (fun c1 => ?_) (fun c1 => ?_)
    · have hf := it_t hf c1
      refine lv_aload_n hx hb dX3_findPair_106 rfl (lv_at hl 0 rfl) ?_
      refine lv_aload_n hx hb dX3_findPair_107 rfl (lv_at hl 1 rfl) ?_
      refine lv_iload hx hb dX3_findPair_108 (lv_at hl 5 rfl) ?_
      refine lv_iload hx hb dX3_findPair_110 (lv_at hl 6 rfl) ?_
      refine lv_iload hx hb dX3_findPair_112 (lv_at hl 4 rfl) ?_
      obtain ⟨v2, hv2, hf⟩ := it_b hf
      refine cBv (As := [.ref (q 0), .int x5, .int x6, .int x4]) (rest := []) (q0 := 0) (ci := 3) [(true, (rtW cI t r), (rtW cI t v2)), (true, (nwW cI q n), (nwW cI q n))] ⟨ad_rtr, (fun h => Bool.noConfusion h), ad_net, (fun h => Bool.noConfusion h), trivial⟩ S (c_X3_follow l D cI cN t q _ r n x5 x6 x4 v2 hv2) (cwV 4 hts gX3_findPair_X3_follow rfl rfl rfl (by decide +kernel) ⟨Nat.le_of_ble_eq_true rfl, Nat.le_of_ble_eq_true rfl⟩) hK hP hD hS hA rfl rfl rfl hl.1 rfl (Nat.le_of_ble_eq_true rfl) dX3_findPair_114 ⟨Nat.zero_le _, Nat.zero_le _⟩ (fun H locs hP hD hS => ?_)
      have e0 : v2 = r' := (Option.some.inj hf)
      subst e0
      exact hret H locs ls _ dX3_findPair_117 hP hD hS
    · have hf := it_f hf c1
      refine lv_iload hx hb dX3_findPair_21 (lv_at hl 8 rfl) ?_
      refine lv_bipush (v := (8 : Int32)) hx hb dX3_findPair_23 kc_bipush_8 ?_
      refine lv_idiv hx hb dX3_findPair_25 (by decide) ?_
      refine lv_istore (lv' := [(9, .int (x8 / (8 : Int32))), (0, .ref (t 0)), (1, .ref (q 0)), (2, .int x2), (3, .int x3), (4, .int x4), (5, .int x5), (6, .int x6), (7, .int x7), (8, .int x8)]) hx hb dX3_findPair_26 hl (by decide) rfl (fun ls hl => ?_)
      refine lv_iload hx hb dX3_findPair_28 (lv_at hl 9 rfl) ?_
      refine lv_bipush (v := (8 : Int32)) hx hb dX3_findPair_30 kc_bipush_8 ?_
      refine lv_irem hx hb dX3_findPair_32 (by decide) ?_
      refine lv_istore (lv' := [(10, .int (x8 - x8 / (8 : Int32) * (8 : Int32))), (9, .int (x8 / (8 : Int32))), (0, .ref (t 0)), (1, .ref (q 0)), (2, .int x2), (3, .int x3), (4, .int x4), (5, .int x5), (6, .int x6), (7, .int x7), (8, .int x8)]) hx hb dX3_findPair_33 hl (by decide) rfl (fun ls hl => ?_)
      refine lv_iload_n hx hb dX3_findPair_35 rfl (lv_at hl 4 rfl) ?_
      refine lv_iload hx hb dX3_findPair_36 (lv_at hl 1 rfl) ?_
      refine cNi (As := [.int x2, .int (x8 / (8 : Int32))]) (rest := []) S (c_X5_hasBit l D cI cN _ x2 (x8 / (8 : Int32)) (fX5_hasBit x2 (x8 / (8 : Int32))) rfl) ⟨va_cnB 2 hts gX3_findPair_X5_hasBit_n64 rfl rfl rfl hK.2.2.1 (hts (.initialized RX5) (List.mem_of_getElem? (i := 4) rfl)) (by decide +kernel) ⟨Nat.le_of_ble_eq_true rfl, Nat.le_of_ble_eq_true rfl⟩, (hts (.static yX5_hasBit) (List.mem_of_getElem? (i := 3) rfl)), trivial⟩ hK hP hS hA [] rfl rfl hl.1 rfl (Nat.le_of_ble_eq_true rfl) dX3_findPair_38 ⟨Nat.zero_le _, Nat.zero_le _⟩ (fun H locs hP hS => ?_)
      refine lv_if_eq (tgt := 100) hx hb dX3_findPair_41 (by decide) (fun c3 => ?_) (fun c3 => ?_)
      · have hf := it_t hf c3
        refine lv_iinc (v := (x8 + (1 : Int32))) (lv' := [(8, .int (x8 + (1 : Int32))), (10, .int (x8 - x8 / (8 : Int32) * (8 : Int32))), (9, .int (x8 / (8 : Int32))), (0, .ref (t 0)), (1, .ref (q 0)), (2, .int x2), (3, .int x3), (4, .int x4), (5, .int x5), (6, .int x6), (7, .int x7)]) hx hb dX3_findPair_100 hl (k := 10) rfl rfl (by decide) rfl (fun ls hl => ?_)
        refine lv_goto (tgt := 14) hx hb dX3_findPair_103 (by decide) ?_
        exact ih _ _ _ _ _ hf H locs ls hP hD hS (lv_sub hl [3, 4, 5, 6, 7, 8, 9, 10, 0] rfl)
      · have hf := it_f hf c3
        refine lv_iload_n hx hb dX3_findPair_44 rfl (lv_at hl 5 rfl) ?_
        refine lv_iload hx hb dX3_findPair_45 (lv_at hl 0 rfl) ?_
        refine cNi (As := [.int x3, .int (x8 - x8 / (8 : Int32) * (8 : Int32))]) (rest := []) S (c_X5_hasBit l D cI cN _ x3 (x8 - x8 / (8 : Int32) * (8 : Int32)) (fX5_hasBit x3 (x8 - x8 / (8 : Int32) * (8 : Int32))) rfl) ⟨va_cnB 2 hts gX3_findPair_X5_hasBit_n64 rfl rfl rfl hK.2.2.1 (hts (.initialized RX5) (List.mem_of_getElem? (i := 4) rfl)) (by decide +kernel) ⟨Nat.le_of_ble_eq_true rfl, Nat.le_of_ble_eq_true rfl⟩, (hts (.static yX5_hasBit) (List.mem_of_getElem? (i := 3) rfl)), trivial⟩ hK hP hS hA [] rfl rfl hl.1 rfl (Nat.le_of_ble_eq_true rfl) dX3_findPair_47 ⟨Nat.zero_le _, Nat.zero_le _⟩ (fun H locs hP hS => ?_)
        refine lv_if_eq (tgt := 100) hx hb dX3_findPair_50 (by decide) (fun c4 => ?_) (fun c4 => ?_)
        · have hf := it_t hf c4
          refine lv_iinc (v := (x8 + (1 : Int32))) (lv' := [(8, .int (x8 + (1 : Int32))), (10, .int (x8 - x8 / (8 : Int32) * (8 : Int32))), (9, .int (x8 / (8 : Int32))), (0, .ref (t 0)), (1, .ref (q 0)), (2, .int x2), (3, .int x3), (4, .int x4), (5, .int x5), (6, .int x6), (7, .int x7)]) hx hb dX3_findPair_100 hl (k := 10) rfl rfl (by decide) rfl (fun ls hl => ?_)
          refine lv_goto (tgt := 14) hx hb dX3_findPair_103 (by decide) ?_
          exact ih _ _ _ _ _ hf H locs ls hP hD hS (lv_sub hl [3, 4, 5, 6, 7, 8, 9, 10, 0] rfl)
        · have hf := it_f hf c4
          refine lv_aload_n hx hb dX3_findPair_53 rfl (lv_at hl 2 rfl) ?_
          refine lv_aload_n hx hb dX3_findPair_54 rfl (lv_at hl 3 rfl) ?_
          refine lv_iload hx hb dX3_findPair_55 (lv_at hl 1 rfl) ?_
          refine lv_iload hx hb dX3_findPair_57 (lv_at hl 0 rfl) ?_
          refine lv_iload hx hb dX3_findPair_59 (lv_at hl 6 rfl) ?_
          obtain ⟨v5, hv5, hf⟩ := it_b hf
          refine cBv (As := [.ref (q 0), .int (x8 / (8 : Int32)), .int (x8 - x8 / (8 : Int32) * (8 : Int32)), .int x4]) (rest := []) (q0 := 0) (ci := 3) [(true, (rtW cI t r), (rtW cI t v5)), (true, (nwW cI q n), (nwW cI q n))] ⟨ad_rtr, (fun h => Bool.noConfusion h), ad_net, (fun h => Bool.noConfusion h), trivial⟩ S (c_X3_follow l D cI cN t q _ r n (x8 / (8 : Int32)) (x8 - x8 / (8 : Int32) * (8 : Int32)) x4 v5 hv5) (cwV 4 hts gX3_findPair_X3_follow rfl rfl rfl (by decide +kernel) ⟨Nat.le_of_ble_eq_true rfl, Nat.le_of_ble_eq_true rfl⟩) hK hP hD hS hA rfl rfl rfl hl.1 rfl (Nat.le_of_ble_eq_true rfl) dX3_findPair_61 ⟨Nat.zero_le _, Nat.zero_le _⟩ (fun H locs hP hD hS => ?_)
          refine lv_iload hx hb dX3_findPair_64 (lv_at hl 7 rfl) ?_
          refine lv_if_lt (tgt := 86) hx hb dX3_findPair_66 (by decide) (fun c6 => ?_) (fun c6 => ?_)
          · have hf := it_t hf c6
            refine lv_iload hx hb dX3_findPair_86 (lv_at hl 1 rfl) ?_
            refine lv_istore (lv' := [(5, .int (x8 / (8 : Int32))), (10, .int (x8 - x8 / (8 : Int32) * (8 : Int32))), (9, .int (x8 / (8 : Int32))), (0, .ref (t 0)), (1, .ref (q 0)), (2, .int x2), (3, .int x3), (4, .int x4), (6, .int x6), (7, .int x7), (8, .int x8)]) hx hb dX3_findPair_88 hl (by decide) rfl (fun ls hl => ?_)
            refine lv_iload hx hb dX3_findPair_90 (lv_at hl 1 rfl) ?_
            refine lv_istore (lv' := [(6, .int (x8 - x8 / (8 : Int32) * (8 : Int32))), (5, .int (x8 / (8 : Int32))), (10, .int (x8 - x8 / (8 : Int32) * (8 : Int32))), (9, .int (x8 / (8 : Int32))), (0, .ref (t 0)), (1, .ref (q 0)), (2, .int x2), (3, .int x3), (4, .int x4), (7, .int x7), (8, .int x8)]) hx hb dX3_findPair_92 hl (by decide) rfl (fun ls hl => ?_)
            refine lv_aload_n hx hb dX3_findPair_94 rfl (lv_at hl 4 rfl) ?_
            refine va_get (D := D) (ci := 3) (v := .int (v5.1 1)) (C := RX3) (T := TX3) (N := 5) hx hb hts inX3 hown hK.1 hP 0 rfl rfl 1 (by decide) (hts (.fieldLink RX3 119 "ClosExchange$Router" "chainLength" "I") (List.mem_of_getElem? (i := 2) rfl)) (fun _ h9 => h9) rfl dX3_findPair_95 ?_
            refine lv_istore (lv' := [(7, .int (v5.1 1)), (6, .int (x8 - x8 / (8 : Int32) * (8 : Int32))), (5, .int (x8 / (8 : Int32))), (10, .int (x8 - x8 / (8 : Int32) * (8 : Int32))), (9, .int (x8 / (8 : Int32))), (0, .ref (t 0)), (1, .ref (q 0)), (2, .int x2), (3, .int x3), (4, .int x4), (8, .int x8)]) hx hb dX3_findPair_98 hl (by decide) rfl (fun ls hl => ?_)
            refine lv_iinc (v := (x8 + (1 : Int32))) (lv' := [(8, .int (x8 + (1 : Int32))), (7, .int (v5.1 1)), (6, .int (x8 - x8 / (8 : Int32) * (8 : Int32))), (5, .int (x8 / (8 : Int32))), (10, .int (x8 - x8 / (8 : Int32) * (8 : Int32))), (9, .int (x8 / (8 : Int32))), (0, .ref (t 0)), (1, .ref (q 0)), (2, .int x2), (3, .int x3), (4, .int x4)]) hx hb dX3_findPair_100 hl (k := 10) rfl rfl (by decide) rfl (fun ls hl => ?_)
            refine lv_goto (tgt := 14) hx hb dX3_findPair_103 (by decide) ?_
            exact ih _ _ _ _ _ hf H locs ls hP hD hS (lv_sub hl [6, 7, 8, 9, 10, 3, 2, 1, 0] rfl)
          · have hf := it_f hf c6
            refine lv_aload_n hx hb dX3_findPair_69 rfl (lv_at hl 3 rfl) ?_
            refine va_get (D := D) (ci := 1) (v := .int (n.1 5)) (C := RX1) (T := TX1) (N := 16) hx hb hts inX1 hown hK.1 hP 5 rfl rfl 5 (by decide) (hts (.fieldLink RX3 155 "ClosExchange$Network" "pairRule" "I") (List.mem_of_getElem? (i := 1) rfl)) (fun _ h9 => h9) rfl dX3_findPair_70 ?_
            refine lv_iconst (v := (1 : Int32)) hx hb dX3_findPair_73 kc_iconst_1 ?_
            refine lv_icmp_ne (tgt := 100) hx hb dX3_findPair_74 (by decide) (fun c7 => ?_) (fun c7 => ?_)
            · have hf := it_f hf c7
              refine lv_iinc (v := (x8 + (1 : Int32))) (lv' := [(8, .int (x8 + (1 : Int32))), (10, .int (x8 - x8 / (8 : Int32) * (8 : Int32))), (9, .int (x8 / (8 : Int32))), (0, .ref (t 0)), (1, .ref (q 0)), (2, .int x2), (3, .int x3), (4, .int x4), (5, .int x5), (6, .int x6), (7, .int x7)]) hx hb dX3_findPair_100 hl (k := 10) rfl rfl (by decide) rfl (fun ls hl => ?_)
              refine lv_goto (tgt := 14) hx hb dX3_findPair_103 (by decide) ?_
              exact ih _ _ _ _ _ hf H locs ls hP hD hS (lv_sub hl [3, 4, 5, 6, 7, 8, 9, 10, 0] rfl)
            · have hf := it_t hf c7
              refine lv_aload_n hx hb dX3_findPair_77 rfl (lv_at hl 2 rfl) ?_
              refine va_get (D := D) (ci := 3) (v := .int (v5.1 1)) (C := RX3) (T := TX3) (N := 5) hx hb hts inX3 hown hK.1 hP 0 rfl rfl 1 (by decide) (hts (.fieldLink RX3 119 "ClosExchange$Router" "chainLength" "I") (List.mem_of_getElem? (i := 2) rfl)) (fun _ h9 => h9) rfl dX3_findPair_78 ?_
              refine lv_iload hx hb dX3_findPair_81 (lv_at hl 9 rfl) ?_
              refine lv_icmp_ge (tgt := 100) hx hb dX3_findPair_83 (by decide) (fun c8 => ?_) (fun c8 => ?_)
              · have hf := it_t hf c8
                refine lv_iinc (v := (x8 + (1 : Int32))) (lv' := [(8, .int (x8 + (1 : Int32))), (10, .int (x8 - x8 / (8 : Int32) * (8 : Int32))), (9, .int (x8 / (8 : Int32))), (0, .ref (t 0)), (1, .ref (q 0)), (2, .int x2), (3, .int x3), (4, .int x4), (5, .int x5), (6, .int x6), (7, .int x7)]) hx hb dX3_findPair_100 hl (k := 10) rfl rfl (by decide) rfl (fun ls hl => ?_)
                refine lv_goto (tgt := 14) hx hb dX3_findPair_103 (by decide) ?_
                exact ih _ _ _ _ _ hf H locs ls hP hD hS (lv_sub hl [3, 4, 5, 6, 7, 8, 9, 10, 0] rfl)
              · have hf := it_f hf c8
                refine lv_iload hx hb dX3_findPair_86 (lv_at hl 1 rfl) ?_
                refine lv_istore (lv' := [(5, .int (x8 / (8 : Int32))), (10, .int (x8 - x8 / (8 : Int32) * (8 : Int32))), (9, .int (x8 / (8 : Int32))), (0, .ref (t 0)), (1, .ref (q 0)), (2, .int x2), (3, .int x3), (4, .int x4), (6, .int x6), (7, .int x7), (8, .int x8)]) hx hb dX3_findPair_88 hl (by decide) rfl (fun ls hl => ?_)
                refine lv_iload hx hb dX3_findPair_90 (lv_at hl 1 rfl) ?_
                refine lv_istore (lv' := [(6, .int (x8 - x8 / (8 : Int32) * (8 : Int32))), (5, .int (x8 / (8 : Int32))), (10, .int (x8 - x8 / (8 : Int32) * (8 : Int32))), (9, .int (x8 / (8 : Int32))), (0, .ref (t 0)), (1, .ref (q 0)), (2, .int x2), (3, .int x3), (4, .int x4), (7, .int x7), (8, .int x8)]) hx hb dX3_findPair_92 hl (by decide) rfl (fun ls hl => ?_)
                refine lv_aload_n hx hb dX3_findPair_94 rfl (lv_at hl 4 rfl) ?_
                refine va_get (D := D) (ci := 3) (v := .int (v5.1 1)) (C := RX3) (T := TX3) (N := 5) hx hb hts inX3 hown hK.1 hP 0 rfl rfl 1 (by decide) (hts (.fieldLink RX3 119 "ClosExchange$Router" "chainLength" "I") (List.mem_of_getElem? (i := 2) rfl)) (fun _ h9 => h9) rfl dX3_findPair_95 ?_
                refine lv_istore (lv' := [(7, .int (v5.1 1)), (6, .int (x8 - x8 / (8 : Int32) * (8 : Int32))), (5, .int (x8 / (8 : Int32))), (10, .int (x8 - x8 / (8 : Int32) * (8 : Int32))), (9, .int (x8 / (8 : Int32))), (0, .ref (t 0)), (1, .ref (q 0)), (2, .int x2), (3, .int x3), (4, .int x4), (8, .int x8)]) hx hb dX3_findPair_98 hl (by decide) rfl (fun ls hl => ?_)
                refine lv_iinc (v := (x8 + (1 : Int32))) (lv' := [(8, .int (x8 + (1 : Int32))), (7, .int (v5.1 1)), (6, .int (x8 - x8 / (8 : Int32) * (8 : Int32))), (5, .int (x8 / (8 : Int32))), (10, .int (x8 - x8 / (8 : Int32) * (8 : Int32))), (9, .int (x8 / (8 : Int32))), (0, .ref (t 0)), (1, .ref (q 0)), (2, .int x2), (3, .int x3), (4, .int x4)]) hx hb dX3_findPair_100 hl (k := 10) rfl rfl (by decide) rfl (fun ls hl => ?_)
                refine lv_goto (tgt := 14) hx hb dX3_findPair_103 (by decide) ?_
                exact ih _ _ _ _ _ hf H locs ls hP hD hS (lv_sub hl [6, 7, 8, 9, 10, 3, 2, 1, 0] rfl)
set_option maxRecDepth 100000 in
set_option maxHeartbeats 4000000 in
theorem w_X3_findPair_0 {p : Program} {l : Launch} {e : Env} {s : State} {m : MethodId} {args : Array Value} {below : List Frame} {meth : Method} {c : Code} {Q : State → Prop} {D : va_G} {cI cN : ClassId} {A : Nat → Prop} {t : Nat → Nat} {q : Nat → Nat} (S : CallFix p m c cX3_findPair 11 s args wsX3_findPair RX3) (hK : KN D cI cN s) (hA : ∀ q : Nat, s.heap.size ≤ q → A q) {r : OS} {n : OS} {x2 : Int32} {x3 : Int32} {x4 : Int32} {r' : OS} (hret : ∀ (H : Heap) (locs : List Loc) (ls : Array Slot) (pc : Nat), decode cX3_findPair pc = .ok (.return_, 1) → va_P D vwCl ((rtW cI t r') ++ (nwW cI q n)) H → va_D A ((rtW cI t r') ++ (nwW cI q n)) → va_S A s.heap H locs → W p l e (headSpec wsX3_findPair rm_X3_findPair).room s m args below meth c H locs 0 0 Q (F0 m pc ls [])) (hf : fX3_findPair r n x2 x3 x4 = some r') (H : Heap) (locs : List Loc) (ls : Array Slot) (hP : va_P D vwCl ((rtW cI t r) ++ (nwW cI q n)) H) (hD : va_D A ((rtW cI t r) ++ (nwW cI q n))) (hS : va_S A s.heap H locs) (hl : lv_has ls 11 [(0, .ref (t 0)), (1, .ref (q 0)), (2, .int x2), (3, .int x3), (4, .int x4)]) : W p l e (headSpec wsX3_findPair rm_X3_findPair).room s m args below meth c H locs 0 0 Q (F0 m 0 ls []) := by
  obtain ⟨hx, hb, hml, hown, hts⟩ := id S
  have inX1 := in_X3_findPair_X1
  have inX3 := in_X3_findPair_X3
  unfold fX3_findPair at hf
  refine lv_bipush (v := (-6 : Int32)) hx hb dX3_findPair_0 kc_bipush_m6 ?_
  refine lv_istore (lv' := [(5, .int (-6 : Int32)), (0, .ref (t 0)), (1, .ref (q 0)), (2, .int x2), (3, .int x3), (4, .int x4)]) hx hb dX3_findPair_2 hl (by decide) rfl (fun ls hl => ?_)
  refine lv_bipush (v := (-6 : Int32)) hx hb dX3_findPair_4 kc_bipush_m6 ?_
  refine lv_istore (lv' := [(6, .int (-6 : Int32)), (5, .int (-6 : Int32)), (0, .ref (t 0)), (1, .ref (q 0)), (2, .int x2), (3, .int x3), (4, .int x4)]) hx hb dX3_findPair_6 hl (by decide) rfl (fun ls hl => ?_)
  refine lv_iconst (v := (0 : Int32)) hx hb dX3_findPair_8 kc_iconst_0 ?_
  refine lv_istore (lv' := [(7, .int (0 : Int32)), (6, .int (-6 : Int32)), (5, .int (-6 : Int32)), (0, .ref (t 0)), (1, .ref (q 0)), (2, .int x2), (3, .int x3), (4, .int x4)]) hx hb dX3_findPair_9 hl (by decide) rfl (fun ls hl => ?_)
  refine lv_iconst (v := (0 : Int32)) hx hb dX3_findPair_11 kc_iconst_0 ?_
  refine lv_istore (lv' := [(8, .int (0 : Int32)), (7, .int (0 : Int32)), (6, .int (-6 : Int32)), (5, .int (-6 : Int32)), (0, .ref (t 0)), (1, .ref (q 0)), (2, .int x2), (3, .int x3), (4, .int x4)]) hx hb dX3_findPair_12 hl (by decide) rfl (fun ls hl => ?_)
  exact w_X3_findPair_14 S hK hA hret _ _ _ _ _ _ hf H locs ls hP hD hS (lv_sub hl [4, 5, 6, 7, 8, 3, 2, 1, 0] rfl)
set_option maxRecDepth 100000 in
theorem c_X3_findPair (l : Launch) (D : va_G) (cI cN : ClassId) (t : Nat → Nat) (q : Nat → Nat) (sz : Nat) (r : OS) (n : OS) (x2 : Int32) (x3 : Int32) (x4 : Int32) (r' : OS) (hf : fX3_findPair r n x2 x3 x4 = some r') : CtV l D cI cN yX3_findPair wsX3_findPair rm_X3_findPair 0 0 [.ref (t 0), .ref (q 0), .int x2, .int x3, .int x4] ((rtW cI t r) ++ (nwW cI q n)) sz ((rtW cI t r') ++ (nwW cI q n)) := by
  refine mV (cc := cX3_findPair) (maxL := 11) (by decide) rfl (Nat.le_of_ble_eq_true rfl) ?_
  intro p e s m args below meth c Q A S _ hK hP hD hS hA hret ls hl
  exact w_X3_findPair_0 S hK hA hret hf _ _ _ hP hD hS (lv_sub (show lv_has ls 11 [(0, .ref (t 0)), (1, .ref (q 0)), (2, .int x2), (3, .int x3), (4, .int x4)] from hl) [0, 1, 2, 3, 4] rfl)
abbrev rm_X3_findWay : Room := { frames := 3, cells := 0, slots := 0, locals := 80 }
theorem in_X3_findWay_X1 : ∀ w ∈ u_ws RX1 TX1 16, w ∈ wsX3_findWay := fun w h => List.mem_cons_of_mem _ (List.mem_append_left _ (List.mem_append_right _ h))
theorem in_X3_findWay_X3 : ∀ w ∈ u_ws RX3 TX3 5, w ∈ wsX3_findWay := fun w h => List.mem_cons_of_mem _ (List.mem_append_left _ (List.mem_append_left _ (List.mem_append_right _ h)))
set_option maxRecDepth 100000 in
set_option maxHeartbeats 4000000 in
theorem w_X3_findWay_0 {p : Program} {l : Launch} {e : Env} {s : State} {m : MethodId} {args : Array Value} {below : List Frame} {meth : Method} {c : Code} {Q : State → Prop} {D : va_G} {cI cN : ClassId} {A : Nat → Prop} {t : Nat → Nat} {q : Nat → Nat} (S : CallFix p m c cX3_findWay 7 s args wsX3_findWay RX3) (hK : KN D cI cN s) (hA : ∀ q : Nat, s.heap.size ≤ q → A q) {r : OS} {n : OS} {x2 : Int32} {x3 : Int32} {r0 : Int32} {r' : OS} (hret : ∀ (H : Heap) (locs : List Loc) (ls : Array Slot) (pc : Nat), decode cX3_findWay pc = .ok (.ireturn, 1) → narrow .int (.int r0) = .int r0 → va_P D vwCl ((rtW cI t r') ++ (nwW cI q n)) H → va_D A ((rtW cI t r') ++ (nwW cI q n)) → va_S A s.heap H locs → W p l e (headSpec wsX3_findWay rm_X3_findWay).room s m args below meth c H locs 0 0 Q (F0 m pc ls [.int r0])) (hf : fX3_findWay r n x2 x3 = some (r0, r')) (H : Heap) (locs : List Loc) (ls : Array Slot) (hP : va_P D vwCl ((rtW cI t r) ++ (nwW cI q n)) H) (hD : va_D A ((rtW cI t r) ++ (nwW cI q n))) (hS : va_S A s.heap H locs) (hl : lv_has ls 7 [(0, .ref (t 0)), (1, .ref (q 0)), (2, .int x2), (3, .int x3)]) : W p l e (headSpec wsX3_findWay rm_X3_findWay).room s m args below meth c H locs 0 0 Q (F0 m 0 ls []) := by
  obtain ⟨hx, hb, hml, hown, hts⟩ := id S
  have inX1 := in_X3_findWay_X1
  have inX3 := in_X3_findWay_X3
  unfold fX3_findWay at hf
  refine lv_aload_n hx hb dX3_findWay_0 rfl (lv_at hl 0 rfl) ?_
  refine lv_iconst (v := (0 : Int32)) hx hb dX3_findWay_1 kc_iconst_0 ?_
  refine gput (D := D) (ci := 3) (v := .int (0 : Int32)) (ty := .int) (C := RX3) (T := TX3) (N := 5) (wf := ((rtW cI t (setF r 1 (0 : Int32))) ++ (nwW cI q n))) hx hb hts inX3 tyX3 tyX3_ok nmX3 hown hK.1 hP hD hS 0 rfl rfl 1 (by decide) (hts (.fieldLink RX3 119 "ClosExchange$Router" "chainLength" "I") (List.mem_of_getElem? (i := 1) rfl)) (fun _ h9 => h9) rfl (by decide +kernel) rfl rfl (Nat.le_of_ble_eq_true rfl) dX3_findWay_2 rfl (fun H locs hP hD hS => ?_)
  refine lv_aload_n hx hb dX3_findWay_5 rfl (lv_at hl 1 rfl) ?_
  refine lv_iload_n hx hb dX3_findWay_6 rfl (lv_at hl 3 rfl) ?_
  refine cQi (As := [.int x3]) (rest := []) (q0 := 5) (ci := 1) S (c_X1_boardOf l D cI cN q _ n x3 (fX1_boardOf n x3) rfl) (cwV 1 hts gX3_findWay_X1_boardOf rfl rfl rfl (by decide +kernel) ⟨Nat.le_of_ble_eq_true rfl, Nat.le_of_ble_eq_true rfl⟩) hK hP hS hA (P_sel [(false, (rtW cI t (setF r 1 (0 : Int32))), (rtW cI t (setF r 1 (0 : Int32)))), (true, (nwW cI q n), (nwW cI q n))] hP) rfl rfl rfl hl.1 rfl (Nat.le_of_ble_eq_true rfl) dX3_findWay_7 ⟨Nat.zero_le _, Nat.zero_le _⟩ (fun H locs hP hS => ?_)
  refine lv_istore (lv' := [(4, .int (fX1_boardOf n x3)), (0, .ref (t 0)), (1, .ref (q 0)), (2, .int x2), (3, .int x3)]) hx hb dX3_findWay_10 hl (by decide) rfl (fun ls hl => ?_)
  refine lv_aload_n hx hb dX3_findWay_12 rfl (lv_at hl 2 rfl) ?_
  refine lv_aload_n hx hb dX3_findWay_13 rfl (lv_at hl 2 rfl) ?_
  refine va_get (D := D) (ci := 1) (v := .ref (q 5)) (C := RX1) (T := TX1) (N := 16) hx hb hts inX1 hown hK.1 hP 5 rfl rfl 14 (by decide) (hts (.fieldLink RX3 125 "ClosExchange$Network" "firstLinks" "LClosExchange$Row;") (List.mem_of_getElem? (i := 2) rfl)) (fun _ h9 => h9) rfl dX3_findWay_14 ?_
  refine lv_aload_n hx hb dX3_findWay_17 rfl (lv_at hl 2 rfl) ?_
  refine lv_iload_n hx hb dX3_findWay_18 rfl (lv_at hl 3 rfl) ?_
  refine cQi (As := [.int x2]) (rest := [.ref (q 5), .ref (q 0)]) (q0 := 5) (ci := 1) S (c_X1_boardOf l D cI cN q _ n x2 (fX1_boardOf n x2) rfl) (cwV 1 hts gX3_findWay_X1_boardOf rfl rfl rfl (by decide +kernel) ⟨Nat.le_of_ble_eq_true rfl, Nat.le_of_ble_eq_true rfl⟩) hK hP hS hA (P_sel [(false, (rtW cI t (setF r 1 (0 : Int32))), (rtW cI t (setF r 1 (0 : Int32)))), (true, (nwW cI q n), (nwW cI q n))] hP) rfl rfl rfl hl.1 rfl (Nat.le_of_ble_eq_true rfl) dX3_findWay_19 ⟨Nat.zero_le _, Nat.zero_le _⟩ (fun H locs hP hS => ?_)
  obtain ⟨v1, hv1, hf⟩ := it_b hf
  refine cQi (As := [.ref (q 5), .int (fX1_boardOf n x2)]) (rest := []) (q0 := 5) (ci := 1) S (c_X1_freeOnLinks4 l D cI cN q _ n (fX1_boardOf n x2) v1 hv1) (cwV 2 hts gX3_findWay_X1_freeOnLinks rfl rfl rfl (by decide +kernel) ⟨Nat.le_of_ble_eq_true rfl, Nat.le_of_ble_eq_true rfl⟩) hK hP hS hA (P_sel [(false, (rtW cI t (setF r 1 (0 : Int32))), (rtW cI t (setF r 1 (0 : Int32)))), (true, (nwW cI q n), (nwW cI q n))] hP) rfl rfl rfl hl.1 rfl (Nat.le_of_ble_eq_true rfl) dX3_findWay_22 ⟨Nat.zero_le _, Nat.zero_le _⟩ (fun H locs hP hS => ?_)
  refine lv_istore (lv' := [(5, .int v1), (4, .int (fX1_boardOf n x3)), (0, .ref (t 0)), (1, .ref (q 0)), (2, .int x2), (3, .int x3)]) hx hb dX3_findWay_25 hl (by decide) rfl (fun ls hl => ?_)
  refine lv_aload_n hx hb dX3_findWay_27 rfl (lv_at hl 3 rfl) ?_
  refine lv_aload_n hx hb dX3_findWay_28 rfl (lv_at hl 3 rfl) ?_
  refine va_get (D := D) (ci := 1) (v := .ref (q 6)) (C := RX1) (T := TX1) (N := 16) hx hb hts inX1 hown hK.1 hP 5 rfl rfl 15 (by decide) (hts (.fieldLink RX3 132 "ClosExchange$Network" "lastLinks" "LClosExchange$Row;") (List.mem_of_getElem? (i := 3) rfl)) (fun _ h9 => h9) rfl dX3_findWay_29 ?_
  refine lv_iload hx hb dX3_findWay_32 (lv_at hl 1 rfl) ?_
  obtain ⟨v2, hv2, hf⟩ := it_b hf
  refine cQi (As := [.ref (q 6), .int (fX1_boardOf n x3)]) (rest := []) (q0 := 5) (ci := 1) S (c_X1_freeOnLinks5 l D cI cN q _ n (fX1_boardOf n x3) v2 hv2) (cwV 2 hts gX3_findWay_X1_freeOnLinks rfl rfl rfl (by decide +kernel) ⟨Nat.le_of_ble_eq_true rfl, Nat.le_of_ble_eq_true rfl⟩) hK hP hS hA (P_sel [(false, (rtW cI t (setF r 1 (0 : Int32))), (rtW cI t (setF r 1 (0 : Int32)))), (true, (nwW cI q n), (nwW cI q n))] hP) rfl rfl rfl hl.1 rfl (Nat.le_of_ble_eq_true rfl) dX3_findWay_34 ⟨Nat.zero_le _, Nat.zero_le _⟩ (fun H locs hP hS => ?_)
  refine lv_istore (lv' := [(6, .int v2), (5, .int v1), (4, .int (fX1_boardOf n x3)), (0, .ref (t 0)), (1, .ref (q 0)), (2, .int x2), (3, .int x3)]) hx hb dX3_findWay_37 hl (by decide) rfl (fun ls hl => ?_)
  refine lv_iload hx hb dX3_findWay_39 (lv_at hl 1 rfl) ?_
  refine lv_iload hx hb dX3_findWay_41 (lv_at hl 0 rfl) ?_
  refine lv_iand hx hb dX3_findWay_43 ?_
  refine lv_if_eq (tgt := 58) hx hb dX3_findWay_44 (by decide) (fun c3 => ?_) (fun c3 => ?_)
  · have hf := it_t hf c3
    refine lv_iload hx hb dX3_findWay_58 (lv_at hl 1 rfl) ?_
    refine lv_if_eq (tgt := 68) hx hb dX3_findWay_60 (by decide) (fun c4 => ?_) (fun c4 => ?_)
    · have hf := it_t hf c4
      refine lv_bipush (v := (-4 : Int32)) hx hb dX3_findWay_68 kc_bipush_m4 ?_
      have e0 : (-4 : Int32) = r0 := congrArg (fun z => z.1) (Option.some.inj hf)
      have e1 : (setF r 1 (0 : Int32)) = r' := congrArg (fun z => z.2) (Option.some.inj hf)
      subst e0
      subst e1
      exact hret H locs ls _ dX3_findWay_70 rfl hP hD hS
    · have hf := it_f hf c4
      refine lv_iload hx hb dX3_findWay_63 (lv_at hl 0 rfl) ?_
      refine lv_if_ne (tgt := 71) hx hb dX3_findWay_65 (by decide) (fun c5 => ?_) (fun c5 => ?_)
      · have hf := it_f hf c5
        refine lv_aload_n hx hb dX3_findWay_71 rfl (lv_at hl 3 rfl) ?_
        refine lv_aload_n hx hb dX3_findWay_72 rfl (lv_at hl 4 rfl) ?_
        refine lv_iload hx hb dX3_findWay_73 (lv_at hl 1 rfl) ?_
        refine lv_iload hx hb dX3_findWay_75 (lv_at hl 0 rfl) ?_
        refine lv_iload hx hb dX3_findWay_77 (lv_at hl 2 rfl) ?_
        obtain ⟨v6, hv6, hf⟩ := it_b hf
        refine cBv (As := [.ref (q 0), .int v1, .int v2, .int (fX1_boardOf n x3)]) (rest := []) (q0 := 0) (ci := 3) [(true, (rtW cI t (setF r 1 (0 : Int32))), (rtW cI t v6)), (true, (nwW cI q n), (nwW cI q n))] ⟨ad_rtr, (fun h => Bool.noConfusion h), ad_net, (fun h => Bool.noConfusion h), trivial⟩ S (c_X3_findPair l D cI cN t q _ (setF r 1 (0 : Int32)) n v1 v2 (fX1_boardOf n x3) v6 hv6) (cwV 4 hts gX3_findWay_X3_findPair rfl rfl rfl (by decide +kernel) ⟨Nat.le_of_ble_eq_true rfl, Nat.le_of_ble_eq_true rfl⟩) hK hP hD hS hA rfl rfl rfl hl.1 rfl (Nat.le_of_ble_eq_true rfl) dX3_findWay_79 ⟨Nat.zero_le _, Nat.zero_le _⟩ (fun H locs hP hD hS => ?_)
        refine lv_aload_n hx hb dX3_findWay_82 rfl (lv_at hl 3 rfl) ?_
        refine va_get (D := D) (ci := 3) (v := .int (v6.1 2)) (C := RX3) (T := TX3) (N := 5) hx hb hts inX3 hown hK.1 hP 0 rfl rfl 2 (by decide) (hts (.fieldLink RX3 143 "ClosExchange$Router" "pairP" "I") (List.mem_of_getElem? (i := 4) rfl)) (fun _ h9 => h9) rfl dX3_findWay_83 ?_
        have e0 : (v6.1 2) = r0 := congrArg (fun z => z.1) (Option.some.inj hf)
        have e1 : v6 = r' := congrArg (fun z => z.2) (Option.some.inj hf)
        subst e0
        subst e1
        exact hret H locs ls _ dX3_findWay_86 rfl hP hD hS
      · have hf := it_t hf c5
        refine lv_bipush (v := (-4 : Int32)) hx hb dX3_findWay_68 kc_bipush_m4 ?_
        have e0 : (-4 : Int32) = r0 := congrArg (fun z => z.1) (Option.some.inj hf)
        have e1 : (setF r 1 (0 : Int32)) = r' := congrArg (fun z => z.2) (Option.some.inj hf)
        subst e0
        subst e1
        exact hret H locs ls _ dX3_findWay_70 rfl hP hD hS
  · have hf := it_f hf c3
    refine lv_aload_n hx hb dX3_findWay_47 rfl (lv_at hl 3 rfl) ?_
    refine lv_aload_n hx hb dX3_findWay_48 rfl (lv_at hl 4 rfl) ?_
    refine lv_iload hx hb dX3_findWay_49 (lv_at hl 1 rfl) ?_
    refine lv_iload hx hb dX3_findWay_51 (lv_at hl 0 rfl) ?_
    refine lv_iand hx hb dX3_findWay_53 ?_
    obtain ⟨v7, hv7, hf⟩ := it_b hf
    refine cQi (As := [.ref (q 0), .int (v1 &&& v2)]) (rest := []) (q0 := 0) (ci := 3) S (c_X3_choose l D cI cN t q _ (setF r 1 (0 : Int32)) n (v1 &&& v2) v7 hv7) (cwV 2 hts gX3_findWay_X3_choose rfl rfl rfl (by decide +kernel) ⟨Nat.le_of_ble_eq_true rfl, Nat.le_of_ble_eq_true rfl⟩) hK hP hS hA hP rfl rfl rfl hl.1 rfl (Nat.le_of_ble_eq_true rfl) dX3_findWay_54 ⟨Nat.zero_le _, Nat.zero_le _⟩ (fun H locs hP hS => ?_)
    have e0 : v7 = r0 := congrArg (fun z => z.1) (Option.some.inj hf)
    have e1 : (setF r 1 (0 : Int32)) = r' := congrArg (fun z => z.2) (Option.some.inj hf)
    subst e0
    subst e1
    exact hret H locs ls _ dX3_findWay_57 rfl hP hD hS
set_option maxRecDepth 100000 in
theorem c_X3_findWay (l : Launch) (D : va_G) (cI cN : ClassId) (t : Nat → Nat) (q : Nat → Nat) (sz : Nat) (r : OS) (n : OS) (x2 : Int32) (x3 : Int32) (r0 : Int32) (r' : OS) (hf : fX3_findWay r n x2 x3 = some (r0, r')) : CtI l D cI cN yX3_findWay wsX3_findWay rm_X3_findWay 0 0 [.ref (t 0), .ref (q 0), .int x2, .int x3] ((rtW cI t r) ++ (nwW cI q n)) sz r0 ((rtW cI t r') ++ (nwW cI q n)) := by
  refine mW (cc := cX3_findWay) (maxL := 7) (ty := .int) (by decide) rfl rfl (Nat.le_of_ble_eq_true rfl) ?_
  intro p e s m args below meth c Q A S hK hP hD hS hA hret ls hl
  exact w_X3_findWay_0 S hK hA hret hf _ _ _ hP hD hS (lv_sub (show lv_has ls 7 [(0, .ref (t 0)), (1, .ref (q 0)), (2, .int x2), (3, .int x3)] from hl) [0, 1, 2, 3] rfl)
abbrev rm_X3_tryCall : Room := { frames := 4, cells := 0, slots := 0, locals := 106 }
set_option maxRecDepth 100000 in
set_option maxHeartbeats 4000000 in
theorem w_X3_tryCall_0 {p : Program} {l : Launch} {e : Env} {s : State} {m : MethodId} {args : Array Value} {below : List Frame} {meth : Method} {c : Code} {Q : State → Prop} {D : va_G} {cI cN : ClassId} {A : Nat → Prop} {t : Nat → Nat} {q : Nat → Nat} (S : CallFix p m c cX3_tryCall 4 s args wsX3_tryCall RX3) (hK : KN D cI cN s) (hA : ∀ q : Nat, s.heap.size ≤ q → A q) {r : OS} {n : OS} {x2 : Int32} {x3 : Int32} {r0 : Int32} {r' : OS} (hret : ∀ (H : Heap) (locs : List Loc) (ls : Array Slot) (pc : Nat), decode cX3_tryCall pc = .ok (.ireturn, 1) → narrow .int (.int r0) = .int r0 → va_P D vwCl ((rtW cI t r') ++ (nwW cI q n)) H → va_D A ((rtW cI t r') ++ (nwW cI q n)) → va_S A s.heap H locs → W p l e (headSpec wsX3_tryCall rm_X3_tryCall).room s m args below meth c H locs 0 0 Q (F0 m pc ls [.int r0])) (hf : fX3_tryCall r n x2 x3 = some (r0, r')) (H : Heap) (locs : List Loc) (ls : Array Slot) (hP : va_P D vwCl ((rtW cI t r) ++ (nwW cI q n)) H) (hD : va_D A ((rtW cI t r) ++ (nwW cI q n))) (hS : va_S A s.heap H locs) (hl : lv_has ls 4 [(0, .ref (t 0)), (1, .ref (q 0)), (2, .int x2), (3, .int x3)]) : W p l e (headSpec wsX3_tryCall rm_X3_tryCall).room s m args below meth c H locs 0 0 Q (F0 m 0 ls []) := by
  obtain ⟨hx, hb, hml, hown, hts⟩ := id S
  unfold fX3_tryCall at hf
  refine lv_aload_n hx hb dX3_tryCall_0 rfl (lv_at hl 1 rfl) ?_
  refine lv_iload_n hx hb dX3_tryCall_1 rfl (lv_at hl 2 rfl) ?_
  refine cQi (As := [.int x2]) (rest := []) (q0 := 5) (ci := 1) S (c_X1_isLine l D cI cN q _ n x2 (fX1_isLine n x2) rfl) (cwV 1 hts gX3_tryCall_X1_isLine rfl rfl rfl (by decide +kernel) ⟨Nat.le_of_ble_eq_true rfl, Nat.le_of_ble_eq_true rfl⟩) hK hP hS hA (P_sel [(false, (rtW cI t r), (rtW cI t r)), (true, (nwW cI q n), (nwW cI q n))] hP) rfl rfl rfl hl.1 rfl (Nat.le_of_ble_eq_true rfl) dX3_tryCall_2 ⟨Nat.zero_le _, Nat.zero_le _⟩ (fun H locs hP hS => ?_)
  refine lv_if_eq (tgt := 16) hx hb dX3_tryCall_5 (by decide) (fun c1 => ?_) (fun c1 => ?_)
  · have hf := it_t hf c1
    refine lv_iconst (v := (-1 : Int32)) hx hb dX3_tryCall_16 kc_iconst_m1 ?_
    have e0 : (-1 : Int32) = r0 := congrArg (fun z => z.1) (Option.some.inj hf)
    have e1 : r = r' := congrArg (fun z => z.2) (Option.some.inj hf)
    subst e0
    subst e1
    exact hret H locs ls _ dX3_tryCall_17 rfl hP hD hS
  · have hf := it_f hf c1
    refine lv_aload_n hx hb dX3_tryCall_8 rfl (lv_at hl 1 rfl) ?_
    refine lv_iload_n hx hb dX3_tryCall_9 rfl (lv_at hl 3 rfl) ?_
    refine cQi (As := [.int x3]) (rest := []) (q0 := 5) (ci := 1) S (c_X1_isLine l D cI cN q _ n x3 (fX1_isLine n x3) rfl) (cwV 1 hts gX3_tryCall_X1_isLine rfl rfl rfl (by decide +kernel) ⟨Nat.le_of_ble_eq_true rfl, Nat.le_of_ble_eq_true rfl⟩) hK hP hS hA (P_sel [(false, (rtW cI t r), (rtW cI t r)), (true, (nwW cI q n), (nwW cI q n))] hP) rfl rfl rfl hl.1 rfl (Nat.le_of_ble_eq_true rfl) dX3_tryCall_10 ⟨Nat.zero_le _, Nat.zero_le _⟩ (fun H locs hP hS => ?_)
    refine lv_if_ne (tgt := 18) hx hb dX3_tryCall_13 (by decide) (fun c2 => ?_) (fun c2 => ?_)
    · have hf := it_f hf c2
      refine lv_aload_n hx hb dX3_tryCall_18 rfl (lv_at hl 1 rfl) ?_
      refine lv_iload_n hx hb dX3_tryCall_19 rfl (lv_at hl 2 rfl) ?_
      refine cQi (As := [.int x2]) (rest := []) (q0 := 5) (ci := 1) S (c_X1_isInletBusy l D cI cN q _ n x2 (fX1_isInletBusy n x2) rfl) (cwV 1 hts gX3_tryCall_X1_isInletBusy rfl rfl rfl (by decide +kernel) ⟨Nat.le_of_ble_eq_true rfl, Nat.le_of_ble_eq_true rfl⟩) hK hP hS hA (P_sel [(false, (rtW cI t r), (rtW cI t r)), (true, (nwW cI q n), (nwW cI q n))] hP) rfl rfl rfl hl.1 rfl (Nat.le_of_ble_eq_true rfl) dX3_tryCall_20 ⟨Nat.zero_le _, Nat.zero_le _⟩ (fun H locs hP hS => ?_)
      refine lv_if_ne (tgt := 34) hx hb dX3_tryCall_23 (by decide) (fun c3 => ?_) (fun c3 => ?_)
      · have hf := it_f hf c3
        refine lv_bipush (v := (-3 : Int32)) hx hb dX3_tryCall_34 kc_bipush_m3 ?_
        have e0 : (-3 : Int32) = r0 := congrArg (fun z => z.1) (Option.some.inj hf)
        have e1 : r = r' := congrArg (fun z => z.2) (Option.some.inj hf)
        subst e0
        subst e1
        exact hret H locs ls _ dX3_tryCall_36 rfl hP hD hS
      · have hf := it_t hf c3
        refine lv_aload_n hx hb dX3_tryCall_26 rfl (lv_at hl 1 rfl) ?_
        refine lv_iload_n hx hb dX3_tryCall_27 rfl (lv_at hl 3 rfl) ?_
        refine cQi (As := [.int x3]) (rest := []) (q0 := 5) (ci := 1) S (c_X1_isOutletBusy l D cI cN q _ n x3 (fX1_isOutletBusy n x3) rfl) (cwV 1 hts gX3_tryCall_X1_isOutletBusy rfl rfl rfl (by decide +kernel) ⟨Nat.le_of_ble_eq_true rfl, Nat.le_of_ble_eq_true rfl⟩) hK hP hS hA (P_sel [(false, (rtW cI t r), (rtW cI t r)), (true, (nwW cI q n), (nwW cI q n))] hP) rfl rfl rfl hl.1 rfl (Nat.le_of_ble_eq_true rfl) dX3_tryCall_28 ⟨Nat.zero_le _, Nat.zero_le _⟩ (fun H locs hP hS => ?_)
        refine lv_if_eq (tgt := 37) hx hb dX3_tryCall_31 (by decide) (fun c4 => ?_) (fun c4 => ?_)
        · have hf := it_t hf c4
          refine lv_aload_n hx hb dX3_tryCall_37 rfl (lv_at hl 0 rfl) ?_
          refine lv_aload_n hx hb dX3_tryCall_38 rfl (lv_at hl 1 rfl) ?_
          refine lv_iload_n hx hb dX3_tryCall_39 rfl (lv_at hl 2 rfl) ?_
          refine lv_iload_n hx hb dX3_tryCall_40 rfl (lv_at hl 3 rfl) ?_
          obtain ⟨v5, hv5, hf⟩ := it_b hf
          refine cBi (As := [.ref (q 0), .int x2, .int x3]) (rest := []) (q0 := 0) (ci := 3) [(true, (rtW cI t r), (rtW cI t v5.2)), (true, (nwW cI q n), (nwW cI q n))] ⟨ad_rtr, (fun h => Bool.noConfusion h), ad_net, (fun h => Bool.noConfusion h), trivial⟩ S (c_X3_findWay l D cI cN t q _ r n x2 x3 v5.1 v5.2 hv5) (cwV 3 hts gX3_tryCall_X3_findWay rfl rfl rfl (by decide +kernel) ⟨Nat.le_of_ble_eq_true rfl, Nat.le_of_ble_eq_true rfl⟩) hK hP hD hS hA rfl rfl rfl hl.1 rfl (Nat.le_of_ble_eq_true rfl) dX3_tryCall_41 ⟨Nat.zero_le _, Nat.zero_le _⟩ (fun H locs hP hD hS => ?_)
          have e0 : v5.1 = r0 := congrArg (fun z => z.1) (Option.some.inj hf)
          have e1 : v5.2 = r' := congrArg (fun z => z.2) (Option.some.inj hf)
          subst e0
          subst e1
          exact hret H locs ls _ dX3_tryCall_44 rfl hP hD hS
        · have hf := it_f hf c4
          refine lv_bipush (v := (-3 : Int32)) hx hb dX3_tryCall_34 kc_bipush_m3 ?_
          have e0 : (-3 : Int32) = r0 := congrArg (fun z => z.1) (Option.some.inj hf)
          have e1 : r = r' := congrArg (fun z => z.2) (Option.some.inj hf)
          subst e0
          subst e1
          exact hret H locs ls _ dX3_tryCall_36 rfl hP hD hS
    · have hf := it_t hf c2
      refine lv_iconst (v := (-1 : Int32)) hx hb dX3_tryCall_16 kc_iconst_m1 ?_
      have e0 : (-1 : Int32) = r0 := congrArg (fun z => z.1) (Option.some.inj hf)
      have e1 : r = r' := congrArg (fun z => z.2) (Option.some.inj hf)
      subst e0
      subst e1
      exact hret H locs ls _ dX3_tryCall_17 rfl hP hD hS
set_option maxRecDepth 100000 in
theorem c_X3_tryCall (l : Launch) (D : va_G) (cI cN : ClassId) (t : Nat → Nat) (q : Nat → Nat) (sz : Nat) (r : OS) (n : OS) (x2 : Int32) (x3 : Int32) (r0 : Int32) (r' : OS) (hf : fX3_tryCall r n x2 x3 = some (r0, r')) : CtI l D cI cN yX3_tryCall wsX3_tryCall rm_X3_tryCall 0 0 [.ref (t 0), .ref (q 0), .int x2, .int x3] ((rtW cI t r) ++ (nwW cI q n)) sz r0 ((rtW cI t r') ++ (nwW cI q n)) := by
  refine mW (cc := cX3_tryCall) (maxL := 4) (ty := .int) (by decide) rfl rfl (Nat.le_of_ble_eq_true rfl) ?_
  intro p e s m args below meth c Q A S hK hP hD hS hA hret ls hl
  exact w_X3_tryCall_0 S hK hA hret hf _ _ _ hP hD hS (lv_sub (show lv_has ls 4 [(0, .ref (t 0)), (1, .ref (q 0)), (2, .int x2), (3, .int x3)] from hl) [0, 1, 2, 3] rfl)
abbrev rm_X3_settle : Room := { frames := 2, cells := 0, slots := 0, locals := 44 }
theorem in_X3_settle_X1 : ∀ w ∈ u_ws RX1 TX1 16, w ∈ wsX3_settle := fun w h => List.mem_cons_of_mem _ (List.mem_append_left _ (List.mem_append_right _ h))
theorem in_X3_settle_X3 : ∀ w ∈ u_ws RX3 TX3 5, w ∈ wsX3_settle := fun w h => List.mem_cons_of_mem _ (List.mem_append_left _ (List.mem_append_left _ (List.mem_append_right _ h)))
set_option maxRecDepth 100000 in
set_option maxHeartbeats 4000000 in
theorem w_X3_settle_34 {p : Program} {l : Launch} {e : Env} {s : State} {m : MethodId} {args : Array Value} {below : List Frame} {meth : Method} {c : Code} {Q : State → Prop} {D : va_G} {cI cN : ClassId} {A : Nat → Prop} {t : Nat → Nat} {q : Nat → Nat} (S : CallFix p m c cX3_settle 5 s args wsX3_settle RX3) (hK : KN D cI cN s) (hA : ∀ q : Nat, s.heap.size ≤ q → A q) {r : OS} {x2 : Int32} {x3 : Int32} {n' : OS} (hret : ∀ (H : Heap) (locs : List Loc) (ls : Array Slot) (pc : Nat), decode cX3_settle pc = .ok (.return_, 1) → va_P D vwCl ((rtW cI t r) ++ (nwW cI q n')) H → va_D A ((rtW cI t r) ++ (nwW cI q n')) → va_S A s.heap H locs → W p l e (headSpec wsX3_settle rm_X3_settle).room s m args below meth c H locs 0 0 Q (F0 m pc ls [])) : ∀ (k : Nat) (x4 : Int32) (n : OS), fX3_settle_34 r x2 x3 k x4 n = some n' → ∀ (H : Heap) (locs : List Loc) (ls : Array Slot), va_P D vwCl ((rtW cI t r) ++ (nwW cI q n)) H → va_D A ((rtW cI t r) ++ (nwW cI q n)) → va_S A s.heap H locs → lv_has ls 5 [(0, .ref (t 0)), (1, .ref (q 0)), (2, .int x2), (3, .int x3), (4, .int x4)] → W p l e (headSpec wsX3_settle rm_X3_settle).room s m args below meth c H locs 0 0 Q (F0 m 34 ls []) := by
  obtain ⟨hx, hb, hml, hown, hts⟩ := id S
  have inX1 := in_X3_settle_X1
  have inX3 := in_X3_settle_X3
  intro k
  induction k with
  | zero => intro x4 n hf; rw [fX3_settle_34_z] at hf; cases hf
  | succ k ih =>
    intro x4 n hf H locs ls hP hD hS hl
    rw [fX3_settle_34_s] at hf
    refine lv_iload hx hb dX3_settle_34 (lv_at hl 4 rfl) ?_
    refine lv_aload_n hx hb dX3_settle_36 rfl (lv_at hl 0 rfl) ?_
    refine va_get (D := D) (ci := 3) (v := .int (r.1 1)) (C := RX3) (T := TX3) (N := 5) hx hb hts inX3 hown hK.1 hP 0 rfl rfl 1 (by decide) (hts (.fieldLink RX3 119 "ClosExchange$Router" "chainLength" "I") (List.mem_of_getElem? (i := 1) rfl)) (fun _ h9 => h9) rfl dX3_settle_37 ?_
    refine lv_icmp_ge (tgt := 80) hx hb dX3_settle_40 (by decide) (fun c2 => ?_) (fun c2 => ?_)
    · have hf := it_t hf c2
      refine lv_aload_n hx hb dX3_settle_80 rfl (lv_at hl 1 rfl) ?_
      refine lv_dup hx hb dX3_settle_81 rfl ?_
      refine va_get (D := D) (ci := 1) (v := .int (n.1 9)) (C := RX1) (T := TX1) (N := 16) hx hb hts inX1 hown hK.1 hP 5 rfl rfl 9 (by decide) (hts (.fieldLink RX3 87 "ClosExchange$Network" "moved" "I") (List.mem_of_getElem? (i := 5) rfl)) (fun _ h9 => h9) rfl dX3_settle_82 ?_
      refine lv_aload_n hx hb dX3_settle_85 rfl (lv_at hl 0 rfl) ?_
      refine va_get (D := D) (ci := 3) (v := .int (r.1 1)) (C := RX3) (T := TX3) (N := 5) hx hb hts inX3 hown hK.1 hP 0 rfl rfl 1 (by decide) (hts (.fieldLink RX3 119 "ClosExchange$Router" "chainLength" "I") (List.mem_of_getElem? (i := 1) rfl)) (fun _ h9 => h9) rfl dX3_settle_86 ?_
      refine lv_iadd hx hb dX3_settle_89 ?_
      obtain ⟨w3, hw3, hf⟩ := it_j hf
      rw [hw3]
      refine gput (D := D) (ci := 1) (v := .int w3) (ty := .int) (C := RX1) (T := TX1) (N := 16) (wf := ((rtW cI t r) ++ (nwW cI q (setF n 9 w3)))) hx hb hts inX1 tyX1 tyX1_ok nmX1 hown hK.1 hP hD hS 5 rfl rfl 9 (by decide) (hts (.fieldLink RX3 87 "ClosExchange$Network" "moved" "I") (List.mem_of_getElem? (i := 5) rfl)) (fun _ h9 => h9) rfl (by decide +kernel) rfl rfl (Nat.le_of_ble_eq_true rfl) dX3_settle_90 rfl (fun H locs hP hD hS => ?_)
      refine lv_aload_n hx hb dX3_settle_93 rfl (lv_at hl 1 rfl) ?_
      refine lv_iload_n hx hb dX3_settle_94 rfl (lv_at hl 2 rfl) ?_
      refine lv_iload_n hx hb dX3_settle_95 rfl (lv_at hl 3 rfl) ?_
      obtain ⟨v4, hv4, hf⟩ := it_j hf
      refine cBv (As := [.int x2, .int x3]) (rest := []) (q0 := 5) (ci := 1) [(false, (rtW cI t r), (rtW cI t r)), (true, (nwW cI q (setF n 9 w3)), (nwW cI q v4))] ⟨rfl, (fun _ => rfl), ad_net, (fun h => Bool.noConfusion h), trivial⟩ S (c_X1_carryCall l D cI cN q _ (setF n 9 w3) x2 x3 v4 hv4) (cwV 2 hts gX3_settle_X1_carryCall rfl rfl rfl (by decide +kernel) ⟨Nat.le_of_ble_eq_true rfl, Nat.le_of_ble_eq_true rfl⟩) hK hP hD hS hA rfl rfl rfl hl.1 rfl (Nat.le_of_ble_eq_true rfl) dX3_settle_96 ⟨Nat.zero_le _, Nat.zero_le _⟩ (fun H locs hP hD hS => ?_)
      have e0 : v4 = n' := (Option.some.inj hf)
      subst e0
      exact hret H locs ls _ dX3_settle_99 hP hD hS
    · have hf := it_f hf c2
      refine lv_aload_n hx hb dX3_settle_43 rfl (lv_at hl 1 rfl) ?_
      refine lv_aload_n hx hb dX3_settle_44 rfl (lv_at hl 0 rfl) ?_
      refine va_get (D := D) (ci := 3) (v := .ref (t 1)) (C := RX3) (T := TX3) (N := 5) hx hb hts inX3 hown hK.1 hP 0 rfl rfl 0 (by decide) (hts (.fieldLink RX3 14 "ClosExchange$Router" "chain" "LClosExchange$Row;") (List.mem_of_getElem? (i := 2) rfl)) (fun _ h9 => h9) rfl dX3_settle_45 ?_
      refine lv_iload hx hb dX3_settle_48 (lv_at hl 4 rfl) ?_
      refine cQi (As := [.int x4]) (rest := [.ref (q 0)]) (q0 := 1) (ci := 4) S (c_X4_get l D cI cN (t 1) (t 3) 16 (Nat.le_of_ble_eq_true rfl) _ (r.2 0) x4) (cwV 1 hts gX3_settle_X4_get rfl rfl rfl (by decide +kernel) ⟨Nat.le_of_ble_eq_true rfl, Nat.le_of_ble_eq_true rfl⟩) hK hP hS hA (P_two (i0 := 1) (i1 := 3) hP rfl rfl) rfl rfl rfl hl.1 rfl (Nat.le_of_ble_eq_true rfl) dX3_settle_50 ⟨Nat.zero_le _, Nat.zero_le _⟩ (fun H locs hP hS => ?_)
      refine lv_iload hx hb dX3_settle_53 (lv_at hl 4 rfl) ?_
      refine lv_iconst (v := (2 : Int32)) hx hb dX3_settle_55 kc_iconst_2 ?_
      refine lv_irem hx hb dX3_settle_56 (by decide) ?_
      obtain ⟨v6, hg, hf⟩ := it_j hf
      have hj : ∀ (H : Heap) (locs : List Loc) (ls : Array Slot), va_P D vwCl ((rtW cI t r) ++ (nwW cI q n)) H → va_D A ((rtW cI t r) ++ (nwW cI q n)) → va_S A s.heap H locs → lv_has ls 5 [(0, .ref (t 0)), (1, .ref (q 0)), (2, .int x2), (3, .int x3), (4, .int x4)] → W p l e (headSpec wsX3_settle rm_X3_settle).room s m args below meth c H locs 0 0 Q (F0 m 71 ls [.int v6, .int (rget (r.2 0) 16 x4), .ref (q 0)]) := by
        intro H locs ls hP hD hS hl
        obtain ⟨v7, hv7, hf⟩ := it_j hf
        refine cBv (As := [.int (rget (r.2 0) 16 x4), .int v6]) (rest := []) (q0 := 5) (ci := 1) [(false, (rtW cI t r), (rtW cI t r)), (true, (nwW cI q n), (nwW cI q v7))] ⟨rfl, (fun _ => rfl), ad_net, (fun h => Bool.noConfusion h), trivial⟩ S (c_X1_carryCall l D cI cN q _ n (rget (r.2 0) 16 x4) v6 v7 hv7) (cwV 2 hts gX3_settle_X1_carryCall rfl rfl rfl (by decide +kernel) ⟨Nat.le_of_ble_eq_true rfl, Nat.le_of_ble_eq_true rfl⟩) hK hP hD hS hA rfl rfl rfl hl.1 rfl (Nat.le_of_ble_eq_true rfl) dX3_settle_71 ⟨Nat.zero_le _, Nat.zero_le _⟩ (fun H locs hP hD hS => ?_)
        refine lv_iinc (v := (x4 + (1 : Int32))) (lv' := [(4, .int (x4 + (1 : Int32))), (0, .ref (t 0)), (1, .ref (q 0)), (2, .int x2), (3, .int x3)]) hx hb dX3_settle_74 hl (k := 4) rfl rfl (by decide) rfl (fun ls hl => ?_)
        refine lv_goto (tgt := 34) hx hb dX3_settle_77 (by decide) ?_
        exact ih _ _ hf H locs ls hP hD hS (lv_sub hl [1, 2, 3, 4, 0] rfl)
      have hf := hg
      refine lv_if_ne (tgt := 67) hx hb dX3_settle_57 (by decide) (fun c5 => ?_) (fun c5 => ?_)
      · have hf := it_f hf c5
        refine lv_aload_n hx hb dX3_settle_67 rfl (lv_at hl 0 rfl) ?_
        refine va_get (D := D) (ci := 3) (v := .int (r.1 2)) (C := RX3) (T := TX3) (N := 5) hx hb hts inX3 hown hK.1 hP 0 rfl rfl 2 (by decide) (hts (.fieldLink RX3 143 "ClosExchange$Router" "pairP" "I") (List.mem_of_getElem? (i := 4) rfl)) (fun _ h9 => h9) rfl dX3_settle_68 ?_
        have e0 := hf
        subst e0
        exact hj H locs ls hP hD hS (lv_sub hl [0, 1, 2, 3, 4] rfl)
      · have hf := it_t hf c5
        refine lv_aload_n hx hb dX3_settle_60 rfl (lv_at hl 0 rfl) ?_
        refine va_get (D := D) (ci := 3) (v := .int (r.1 3)) (C := RX3) (T := TX3) (N := 5) hx hb hts inX3 hown hK.1 hP 0 rfl rfl 3 (by decide) (hts (.fieldLink RX3 158 "ClosExchange$Router" "pairQ" "I") (List.mem_of_getElem? (i := 3) rfl)) (fun _ h9 => h9) rfl dX3_settle_61 ?_
        refine lv_goto (tgt := 71) hx hb dX3_settle_64 (by decide) ?_
        have e0 := hf
        subst e0
        exact hj H locs ls hP hD hS (lv_sub hl [0, 1, 2, 3, 4] rfl)
set_option maxRecDepth 100000 in
set_option maxHeartbeats 4000000 in
theorem w_X3_settle_3 {p : Program} {l : Launch} {e : Env} {s : State} {m : MethodId} {args : Array Value} {below : List Frame} {meth : Method} {c : Code} {Q : State → Prop} {D : va_G} {cI cN : ClassId} {A : Nat → Prop} {t : Nat → Nat} {q : Nat → Nat} (S : CallFix p m c cX3_settle 5 s args wsX3_settle RX3) (hK : KN D cI cN s) (hA : ∀ q : Nat, s.heap.size ≤ q → A q) {r : OS} {x2 : Int32} {x3 : Int32} {n' : OS} (hret : ∀ (H : Heap) (locs : List Loc) (ls : Array Slot) (pc : Nat), decode cX3_settle pc = .ok (.return_, 1) → va_P D vwCl ((rtW cI t r) ++ (nwW cI q n')) H → va_D A ((rtW cI t r) ++ (nwW cI q n')) → va_S A s.heap H locs → W p l e (headSpec wsX3_settle rm_X3_settle).room s m args below meth c H locs 0 0 Q (F0 m pc ls [])) : ∀ (k : Nat) (x4 : Int32) (n : OS), fX3_settle_3 r x2 x3 k x4 n = some n' → ∀ (H : Heap) (locs : List Loc) (ls : Array Slot), va_P D vwCl ((rtW cI t r) ++ (nwW cI q n)) H → va_D A ((rtW cI t r) ++ (nwW cI q n)) → va_S A s.heap H locs → lv_has ls 5 [(0, .ref (t 0)), (1, .ref (q 0)), (2, .int x2), (3, .int x3), (4, .int x4)] → W p l e (headSpec wsX3_settle rm_X3_settle).room s m args below meth c H locs 0 0 Q (F0 m 3 ls []) := by
  obtain ⟨hx, hb, hml, hown, hts⟩ := id S
  have inX1 := in_X3_settle_X1
  have inX3 := in_X3_settle_X3
  intro k
  induction k with
  | zero => intro x4 n hf; rw [fX3_settle_3_z] at hf; cases hf
  | succ k ih =>
    intro x4 n hf H locs ls hP hD hS hl
    rw [fX3_settle_3_s] at hf
    refine lv_iload hx hb dX3_settle_3 (lv_at hl 4 rfl) ?_
    refine lv_aload_n hx hb dX3_settle_5 rfl (lv_at hl 0 rfl) ?_
    refine va_get (D := D) (ci := 3) (v := .int (r.1 1)) (C := RX3) (T := TX3) (N := 5) hx hb hts inX3 hown hK.1 hP 0 rfl rfl 1 (by decide) (hts (.fieldLink RX3 119 "ClosExchange$Router" "chainLength" "I") (List.mem_of_getElem? (i := 1) rfl)) (fun _ h9 => h9) rfl dX3_settle_6 ?_
    refine lv_icmp_ge (tgt := 31) hx hb dX3_settle_9 (by decide) (fun c1 => ?_) (fun c1 => ?_)
    · have hf := it_t hf c1
      refine lv_iconst (v := (0 : Int32)) hx hb dX3_settle_31 kc_iconst_0 ?_
      refine lv_istore (lv' := [(4, .int (0 : Int32)), (0, .ref (t 0)), (1, .ref (q 0)), (2, .int x2), (3, .int x3)]) hx hb dX3_settle_32 hl (by decide) rfl (fun ls hl => ?_)
      exact w_X3_settle_34 S hK hA hret _ _ _ hf H locs ls hP hD hS (lv_sub hl [1, 2, 3, 4, 0] rfl)
    · have hf := it_f hf c1
      refine lv_aload_n hx hb dX3_settle_12 rfl (lv_at hl 1 rfl) ?_
      refine lv_aload_n hx hb dX3_settle_13 rfl (lv_at hl 0 rfl) ?_
      refine va_get (D := D) (ci := 3) (v := .ref (t 1)) (C := RX3) (T := TX3) (N := 5) hx hb hts inX3 hown hK.1 hP 0 rfl rfl 0 (by decide) (hts (.fieldLink RX3 14 "ClosExchange$Router" "chain" "LClosExchange$Row;") (List.mem_of_getElem? (i := 2) rfl)) (fun _ h9 => h9) rfl dX3_settle_14 ?_
      refine lv_iload hx hb dX3_settle_17 (lv_at hl 4 rfl) ?_
      refine cQi (As := [.int x4]) (rest := [.ref (q 0)]) (q0 := 1) (ci := 4) S (c_X4_get l D cI cN (t 1) (t 3) 16 (Nat.le_of_ble_eq_true rfl) _ (r.2 0) x4) (cwV 1 hts gX3_settle_X4_get rfl rfl rfl (by decide +kernel) ⟨Nat.le_of_ble_eq_true rfl, Nat.le_of_ble_eq_true rfl⟩) hK hP hS hA (P_two (i0 := 1) (i1 := 3) hP rfl rfl) rfl rfl rfl hl.1 rfl (Nat.le_of_ble_eq_true rfl) dX3_settle_19 ⟨Nat.zero_le _, Nat.zero_le _⟩ (fun H locs hP hS => ?_)
      obtain ⟨v8, hv8, hf⟩ := it_j hf
      refine cBv (As := [.int (rget (r.2 0) 16 x4)]) (rest := []) (q0 := 5) (ci := 1) [(false, (rtW cI t r), (rtW cI t r)), (true, (nwW cI q n), (nwW cI q v8))] ⟨rfl, (fun _ => rfl), ad_net, (fun h => Bool.noConfusion h), trivial⟩ S (c_X1_liftCall l D cI cN q _ n (rget (r.2 0) 16 x4) v8 hv8) (cwV 1 hts gX3_settle_X1_liftCall rfl rfl rfl (by decide +kernel) ⟨Nat.le_of_ble_eq_true rfl, Nat.le_of_ble_eq_true rfl⟩) hK hP hD hS hA rfl rfl rfl hl.1 rfl (Nat.le_of_ble_eq_true rfl) dX3_settle_22 ⟨Nat.zero_le _, Nat.zero_le _⟩ (fun H locs hP hD hS => ?_)
      refine lv_iinc (v := (x4 + (1 : Int32))) (lv' := [(4, .int (x4 + (1 : Int32))), (0, .ref (t 0)), (1, .ref (q 0)), (2, .int x2), (3, .int x3)]) hx hb dX3_settle_25 hl (k := 4) rfl rfl (by decide) rfl (fun ls hl => ?_)
      refine lv_goto (tgt := 3) hx hb dX3_settle_28 (by decide) ?_
      exact ih _ _ hf H locs ls hP hD hS (lv_sub hl [1, 2, 3, 4, 0] rfl)
set_option maxRecDepth 100000 in
set_option maxHeartbeats 4000000 in
theorem w_X3_settle_0 {p : Program} {l : Launch} {e : Env} {s : State} {m : MethodId} {args : Array Value} {below : List Frame} {meth : Method} {c : Code} {Q : State → Prop} {D : va_G} {cI cN : ClassId} {A : Nat → Prop} {t : Nat → Nat} {q : Nat → Nat} (S : CallFix p m c cX3_settle 5 s args wsX3_settle RX3) (hK : KN D cI cN s) (hA : ∀ q : Nat, s.heap.size ≤ q → A q) {r : OS} {n : OS} {x2 : Int32} {x3 : Int32} {n' : OS} (hret : ∀ (H : Heap) (locs : List Loc) (ls : Array Slot) (pc : Nat), decode cX3_settle pc = .ok (.return_, 1) → va_P D vwCl ((rtW cI t r) ++ (nwW cI q n')) H → va_D A ((rtW cI t r) ++ (nwW cI q n')) → va_S A s.heap H locs → W p l e (headSpec wsX3_settle rm_X3_settle).room s m args below meth c H locs 0 0 Q (F0 m pc ls [])) (hf : fX3_settle r n x2 x3 = some n') (H : Heap) (locs : List Loc) (ls : Array Slot) (hP : va_P D vwCl ((rtW cI t r) ++ (nwW cI q n)) H) (hD : va_D A ((rtW cI t r) ++ (nwW cI q n))) (hS : va_S A s.heap H locs) (hl : lv_has ls 5 [(0, .ref (t 0)), (1, .ref (q 0)), (2, .int x2), (3, .int x3)]) : W p l e (headSpec wsX3_settle rm_X3_settle).room s m args below meth c H locs 0 0 Q (F0 m 0 ls []) := by
  obtain ⟨hx, hb, hml, hown, hts⟩ := id S
  have inX1 := in_X3_settle_X1
  have inX3 := in_X3_settle_X3
  unfold fX3_settle at hf
  refine lv_iconst (v := (0 : Int32)) hx hb dX3_settle_0 kc_iconst_0 ?_
  refine lv_istore (lv' := [(4, .int (0 : Int32)), (0, .ref (t 0)), (1, .ref (q 0)), (2, .int x2), (3, .int x3)]) hx hb dX3_settle_1 hl (by decide) rfl (fun ls hl => ?_)
  exact w_X3_settle_3 S hK hA hret _ _ _ hf H locs ls hP hD hS (lv_sub hl [1, 2, 3, 4, 0] rfl)
set_option maxRecDepth 100000 in
theorem c_X3_settle (l : Launch) (D : va_G) (cI cN : ClassId) (t : Nat → Nat) (q : Nat → Nat) (sz : Nat) (r : OS) (n : OS) (x2 : Int32) (x3 : Int32) (n' : OS) (hf : fX3_settle r n x2 x3 = some n') : CtV l D cI cN yX3_settle wsX3_settle rm_X3_settle 0 0 [.ref (t 0), .ref (q 0), .int x2, .int x3] ((rtW cI t r) ++ (nwW cI q n)) sz ((rtW cI t r) ++ (nwW cI q n')) := by
  refine mV (cc := cX3_settle) (maxL := 5) (by decide) rfl (Nat.le_of_ble_eq_true rfl) ?_
  intro p e s m args below meth c Q A S _ hK hP hD hS hA hret ls hl
  exact w_X3_settle_0 S hK hA hret hf _ _ _ hP hD hS (lv_sub (show lv_has ls 5 [(0, .ref (t 0)), (1, .ref (q 0)), (2, .int x2), (3, .int x3)] from hl) [0, 1, 2, 3] rfl)
abbrev rm_X3_join : Room := { frames := 5, cells := 0, slots := 0, locals := 129 }
set_option maxRecDepth 100000 in
set_option maxHeartbeats 4000000 in
theorem w_X3_join_0 {p : Program} {l : Launch} {e : Env} {s : State} {m : MethodId} {args : Array Value} {below : List Frame} {meth : Method} {c : Code} {Q : State → Prop} {D : va_G} {cI cN : ClassId} {A : Nat → Prop} {t : Nat → Nat} {q : Nat → Nat} (S : CallFix p m c cX3_join 5 s args wsX3_join RX3) (hK : KN D cI cN s) (hA : ∀ q : Nat, s.heap.size ≤ q → A q) {r : OS} {n : OS} {x2 : Int32} {x3 : Int32} {r0 : Int32} {r' : OS} {n' : OS} (hret : ∀ (H : Heap) (locs : List Loc) (ls : Array Slot) (pc : Nat), decode cX3_join pc = .ok (.ireturn, 1) → narrow .int (.int r0) = .int r0 → va_P D vwCl ((rtW cI t r') ++ (nwW cI q n')) H → va_D A ((rtW cI t r') ++ (nwW cI q n')) → va_S A s.heap H locs → W p l e (headSpec wsX3_join rm_X3_join).room s m args below meth c H locs 0 0 Q (F0 m pc ls [.int r0])) (hf : fX3_join r n x2 x3 = some (r0, r', n')) (H : Heap) (locs : List Loc) (ls : Array Slot) (hP : va_P D vwCl ((rtW cI t r) ++ (nwW cI q n)) H) (hD : va_D A ((rtW cI t r) ++ (nwW cI q n))) (hS : va_S A s.heap H locs) (hl : lv_has ls 5 [(0, .ref (t 0)), (1, .ref (q 0)), (2, .int x2), (3, .int x3)]) : W p l e (headSpec wsX3_join rm_X3_join).room s m args below meth c H locs 0 0 Q (F0 m 0 ls []) := by
  obtain ⟨hx, hb, hml, hown, hts⟩ := id S
  unfold fX3_join at hf
  refine lv_aload_n hx hb dX3_join_0 rfl (lv_at hl 0 rfl) ?_
  refine lv_aload_n hx hb dX3_join_1 rfl (lv_at hl 1 rfl) ?_
  refine lv_iload_n hx hb dX3_join_2 rfl (lv_at hl 2 rfl) ?_
  refine lv_iload_n hx hb dX3_join_3 rfl (lv_at hl 3 rfl) ?_
  obtain ⟨v1, hv1, hf⟩ := it_b hf
  refine cBi (As := [.ref (q 0), .int x2, .int x3]) (rest := []) (q0 := 0) (ci := 3) [(true, (rtW cI t r), (rtW cI t v1.2)), (true, (nwW cI q n), (nwW cI q n))] ⟨ad_rtr, (fun h => Bool.noConfusion h), ad_net, (fun h => Bool.noConfusion h), trivial⟩ S (c_X3_tryCall l D cI cN t q _ r n x2 x3 v1.1 v1.2 hv1) (cwV 3 hts gX3_join_X3_tryCall rfl rfl rfl (by decide +kernel) ⟨Nat.le_of_ble_eq_true rfl, Nat.le_of_ble_eq_true rfl⟩) hK hP hD hS hA rfl rfl rfl hl.1 rfl (Nat.le_of_ble_eq_true rfl) dX3_join_4 ⟨Nat.zero_le _, Nat.zero_le _⟩ (fun H locs hP hD hS => ?_)
  refine lv_istore (lv' := [(4, .int v1.1), (0, .ref (t 0)), (1, .ref (q 0)), (2, .int x2), (3, .int x3)]) hx hb dX3_join_7 hl (by decide) rfl (fun ls hl => ?_)
  refine lv_iload hx hb dX3_join_9 (lv_at hl 0 rfl) ?_
  refine lv_if_ge (tgt := 17) hx hb dX3_join_11 (by decide) (fun c2 => ?_) (fun c2 => ?_)
  · have hf := it_t hf c2
    refine lv_aload_n hx hb dX3_join_17 rfl (lv_at hl 2 rfl) ?_
    refine lv_iload_n hx hb dX3_join_18 rfl (lv_at hl 3 rfl) ?_
    refine lv_iload_n hx hb dX3_join_19 rfl (lv_at hl 4 rfl) ?_
    obtain ⟨v3, hv3, hf⟩ := it_j hf
    refine cBv (As := [.int x2, .int x3]) (rest := []) (q0 := 5) (ci := 1) [(false, (rtW cI t v1.2), (rtW cI t v1.2)), (true, (nwW cI q n), (nwW cI q v3))] ⟨rfl, (fun _ => rfl), ad_net, (fun h => Bool.noConfusion h), trivial⟩ S (c_X1_addCall l D cI cN q _ n x2 x3 v3 hv3) (cwV 2 hts gX3_join_X1_addCall rfl rfl rfl (by decide +kernel) ⟨Nat.le_of_ble_eq_true rfl, Nat.le_of_ble_eq_true rfl⟩) hK hP hD hS hA rfl rfl rfl hl.1 rfl (Nat.le_of_ble_eq_true rfl) dX3_join_20 ⟨Nat.zero_le _, Nat.zero_le _⟩ (fun H locs hP hD hS => ?_)
    refine lv_aload_n hx hb dX3_join_23 rfl (lv_at hl 1 rfl) ?_
    refine lv_aload_n hx hb dX3_join_24 rfl (lv_at hl 2 rfl) ?_
    refine lv_iload_n hx hb dX3_join_25 rfl (lv_at hl 3 rfl) ?_
    refine lv_iload hx hb dX3_join_26 (lv_at hl 0 rfl) ?_
    obtain ⟨v4, hv4, hf⟩ := it_b hf
    refine cBv (As := [.ref (q 0), .int x2, .int v1.1]) (rest := []) (q0 := 0) (ci := 3) [(true, (rtW cI t v1.2), (rtW cI t v1.2)), (true, (nwW cI q v3), (nwW cI q v4))] ⟨ad_rtr, (fun h => Bool.noConfusion h), ad_net, (fun h => Bool.noConfusion h), trivial⟩ S (c_X3_settle l D cI cN t q _ v1.2 v3 x2 v1.1 v4 hv4) (cwV 3 hts gX3_join_X3_settle rfl rfl rfl (by decide +kernel) ⟨Nat.le_of_ble_eq_true rfl, Nat.le_of_ble_eq_true rfl⟩) hK hP hD hS hA rfl rfl rfl hl.1 rfl (Nat.le_of_ble_eq_true rfl) dX3_join_28 ⟨Nat.zero_le _, Nat.zero_le _⟩ (fun H locs hP hD hS => ?_)
    refine lv_iload hx hb dX3_join_31 (lv_at hl 0 rfl) ?_
    have e0 : v1.1 = r0 := congrArg (fun z => z.1) (Option.some.inj hf)
    have e1 : v1.2 = r' := congrArg (fun z => z.2.1) (Option.some.inj hf)
    have e2 : v4 = n' := congrArg (fun z => z.2.2) (Option.some.inj hf)
    subst e0
    subst e1
    subst e2
    exact hret H locs ls _ dX3_join_33 rfl hP hD hS
  · have hf := it_f hf c2
    refine lv_iload hx hb dX3_join_14 (lv_at hl 0 rfl) ?_
    have e0 : v1.1 = r0 := congrArg (fun z => z.1) (Option.some.inj hf)
    have e1 : v1.2 = r' := congrArg (fun z => z.2.1) (Option.some.inj hf)
    have e2 : n = n' := congrArg (fun z => z.2.2) (Option.some.inj hf)
    subst e0
    subst e1
    subst e2
    exact hret H locs ls _ dX3_join_16 rfl hP hD hS
set_option maxRecDepth 100000 in
theorem c_X3_join (l : Launch) (D : va_G) (cI cN : ClassId) (t : Nat → Nat) (q : Nat → Nat) (sz : Nat) (r : OS) (n : OS) (x2 : Int32) (x3 : Int32) (r0 : Int32) (r' : OS) (n' : OS) (hf : fX3_join r n x2 x3 = some (r0, r', n')) : CtI l D cI cN yX3_join wsX3_join rm_X3_join 0 0 [.ref (t 0), .ref (q 0), .int x2, .int x3] ((rtW cI t r) ++ (nwW cI q n)) sz r0 ((rtW cI t r') ++ (nwW cI q n')) := by
  refine mW (cc := cX3_join) (maxL := 5) (ty := .int) (by decide) rfl rfl (Nat.le_of_ble_eq_true rfl) ?_
  intro p e s m args below meth c Q A S hK hP hD hS hA hret ls hl
  exact w_X3_join_0 S hK hA hret hf _ _ _ hP hD hS (lv_sub (show lv_has ls 5 [(0, .ref (t 0)), (1, .ref (q 0)), (2, .int x2), (3, .int x3)] from hl) [0, 1, 2, 3] rfl)
abbrev rm_X3_part : Room := { frames := 3, cells := 0, slots := 0, locals := 65 }
theorem in_X3_part_X1 : ∀ w ∈ u_ws RX1 TX1 16, w ∈ wsX3_part := fun w h => List.mem_cons_of_mem _ (List.mem_append_left _ (List.mem_append_right _ h))
set_option maxRecDepth 100000 in
set_option maxHeartbeats 4000000 in
theorem w_X3_part_0 {p : Program} {l : Launch} {e : Env} {s : State} {m : MethodId} {args : Array Value} {below : List Frame} {meth : Method} {c : Code} {Q : State → Prop} {D : va_G} {cI cN : ClassId} {A : Nat → Prop} {t : Nat → Nat} {q : Nat → Nat} (S : CallFix p m c cX3_part 4 s args wsX3_part RX3) (hK : KN D cI cN s) (hA : ∀ q : Nat, s.heap.size ≤ q → A q) {r : OS} {n : OS} {x2 : Int32} {r0 : Int32} {n' : OS} (hret : ∀ (H : Heap) (locs : List Loc) (ls : Array Slot) (pc : Nat), decode cX3_part pc = .ok (.ireturn, 1) → narrow .int (.int r0) = .int r0 → va_P D vwCl ((rtW cI t r) ++ (nwW cI q n')) H → va_D A ((rtW cI t r) ++ (nwW cI q n')) → va_S A s.heap H locs → W p l e (headSpec wsX3_part rm_X3_part).room s m args below meth c H locs 0 0 Q (F0 m pc ls [.int r0])) (hf : fX3_part r n x2 = (r0, n')) (H : Heap) (locs : List Loc) (ls : Array Slot) (hP : va_P D vwCl ((rtW cI t r) ++ (nwW cI q n)) H) (hD : va_D A ((rtW cI t r) ++ (nwW cI q n))) (hS : va_S A s.heap H locs) (hl : lv_has ls 4 [(1, .ref (q 0)), (2, .int x2)]) : W p l e (headSpec wsX3_part rm_X3_part).room s m args below meth c H locs 0 0 Q (F0 m 0 ls []) := by
  obtain ⟨hx, hb, hml, hown, hts⟩ := id S
  have inX1 := in_X3_part_X1
  unfold fX3_part at hf
  refine lv_aload_n hx hb dX3_part_0 rfl (lv_at hl 0 rfl) ?_
  refine lv_iload_n hx hb dX3_part_1 rfl (lv_at hl 1 rfl) ?_
  refine cQi (As := [.int x2]) (rest := []) (q0 := 5) (ci := 1) S (c_X1_isLine l D cI cN q _ n x2 (fX1_isLine n x2) rfl) (cwV 1 hts gX3_part_X1_isLine rfl rfl rfl (by decide +kernel) ⟨Nat.le_of_ble_eq_true rfl, Nat.le_of_ble_eq_true rfl⟩) hK hP hS hA (P_sel [(false, (rtW cI t r), (rtW cI t r)), (true, (nwW cI q n), (nwW cI q n))] hP) rfl rfl rfl hl.1 rfl (Nat.le_of_ble_eq_true rfl) dX3_part_2 ⟨Nat.zero_le _, Nat.zero_le _⟩ (fun H locs hP hS => ?_)
  refine lv_if_ne (tgt := 10) hx hb dX3_part_5 (by decide) (fun c1 => ?_) (fun c1 => ?_)
  · have hf := it_f hf c1
    refine lv_aload_n hx hb dX3_part_10 rfl (lv_at hl 0 rfl) ?_
    refine lv_iload_n hx hb dX3_part_11 rfl (lv_at hl 1 rfl) ?_
    refine cQi (As := [.int x2]) (rest := []) (q0 := 5) (ci := 1) S (c_X1_isInletBusy l D cI cN q _ n x2 (fX1_isInletBusy n x2) rfl) (cwV 1 hts gX3_part_X1_isInletBusy rfl rfl rfl (by decide +kernel) ⟨Nat.le_of_ble_eq_true rfl, Nat.le_of_ble_eq_true rfl⟩) hK hP hS hA (P_sel [(false, (rtW cI t r), (rtW cI t r)), (true, (nwW cI q n), (nwW cI q n))] hP) rfl rfl rfl hl.1 rfl (Nat.le_of_ble_eq_true rfl) dX3_part_12 ⟨Nat.zero_le _, Nat.zero_le _⟩ (fun H locs hP hS => ?_)
    refine lv_if_ne (tgt := 21) hx hb dX3_part_15 (by decide) (fun c2 => ?_) (fun c2 => ?_)
    · have hf := it_f hf c2
      refine lv_aload_n hx hb dX3_part_21 rfl (lv_at hl 0 rfl) ?_
      refine va_get (D := D) (ci := 1) (v := .ref (q 1)) (C := RX1) (T := TX1) (N := 16) hx hb hts inX1 hown hK.1 hP 5 rfl rfl 10 (by decide) (hts (.fieldLink RX3 44 "ClosExchange$Network" "numbers" "LClosExchange$Row;") (List.mem_of_getElem? (i := 1) rfl)) (fun _ h9 => h9) rfl dX3_part_22 ?_
      refine lv_iload_n hx hb dX3_part_25 rfl (lv_at hl 1 rfl) ?_
      refine cQi (As := [.int x2]) (rest := []) (q0 := 6) (ci := 4) S (c_X4_get l D cI cN (q 1) (q 7) 48 (Nat.le_of_ble_eq_true rfl) _ (n.2 0) x2) (cwV 1 hts gX3_part_X4_get rfl rfl rfl (by decide +kernel) ⟨Nat.le_of_ble_eq_true rfl, Nat.le_of_ble_eq_true rfl⟩) hK hP hS hA (P_two (i0 := 6) (i1 := 12) hP rfl rfl) rfl rfl rfl hl.1 rfl (Nat.le_of_ble_eq_true rfl) dX3_part_26 ⟨Nat.zero_le _, Nat.zero_le _⟩ (fun H locs hP hS => ?_)
      refine lv_istore_n (lv' := [(3, .int (rget (n.2 0) 48 x2)), (1, .ref (q 0)), (2, .int x2)]) hx hb dX3_part_29 rfl hl (by decide) rfl (fun ls hl => ?_)
      refine lv_aload_n hx hb dX3_part_30 rfl (lv_at hl 1 rfl) ?_
      refine lv_iload_n hx hb dX3_part_31 rfl (lv_at hl 2 rfl) ?_
      obtain ⟨v3, hv3, hf⟩ := it_j hf
      refine cBv (As := [.int x2]) (rest := []) (q0 := 5) (ci := 1) [(false, (rtW cI t r), (rtW cI t r)), (true, (nwW cI q n), (nwW cI q v3))] ⟨rfl, (fun _ => rfl), ad_net, (fun h => Bool.noConfusion h), trivial⟩ S (c_X1_removeCall l D cI cN q _ n x2 v3 hv3) (cwV 1 hts gX3_part_X1_removeCall rfl rfl rfl (by decide +kernel) ⟨Nat.le_of_ble_eq_true rfl, Nat.le_of_ble_eq_true rfl⟩) hK hP hD hS hA rfl rfl rfl hl.1 rfl (Nat.le_of_ble_eq_true rfl) dX3_part_32 ⟨Nat.zero_le _, Nat.zero_le _⟩ (fun H locs hP hD hS => ?_)
      refine lv_aload_n hx hb dX3_part_35 rfl (lv_at hl 1 rfl) ?_
      refine lv_dup hx hb dX3_part_36 rfl ?_
      refine va_get (D := D) (ci := 1) (v := .int (v3.1 7)) (C := RX1) (T := TX1) (N := 16) hx hb hts inX1 hown hK.1 hP 5 rfl rfl 7 (by decide) (hts (.fieldLink RX3 54 "ClosExchange$Network" "ended" "I") (List.mem_of_getElem? (i := 2) rfl)) (fun _ h9 => h9) rfl dX3_part_37 ?_
      refine lv_iconst (v := (1 : Int32)) hx hb dX3_part_40 kc_iconst_1 ?_
      refine lv_iadd hx hb dX3_part_41 ?_
      obtain ⟨w4, hw4, hf⟩ := it_j hf
      rw [hw4]
      refine gput (D := D) (ci := 1) (v := .int w4) (ty := .int) (C := RX1) (T := TX1) (N := 16) (wf := ((rtW cI t r) ++ (nwW cI q (setF v3 7 w4)))) hx hb hts inX1 tyX1 tyX1_ok nmX1 hown hK.1 hP hD hS 5 rfl rfl 7 (by decide) (hts (.fieldLink RX3 54 "ClosExchange$Network" "ended" "I") (List.mem_of_getElem? (i := 2) rfl)) (fun _ h9 => h9) rfl (by decide +kernel) rfl rfl (Nat.le_of_ble_eq_true rfl) dX3_part_42 rfl (fun H locs hP hD hS => ?_)
      refine lv_iload_n hx hb dX3_part_45 rfl (lv_at hl 0 rfl) ?_
      have e0 : (rget (n.2 0) 48 x2) = r0 := congrArg (fun z => z.1) hf
      have e1 : (setF v3 7 w4) = n' := congrArg (fun z => z.2) hf
      subst e0
      subst e1
      exact hret H locs ls _ dX3_part_46 rfl hP hD hS
    · have hf := it_t hf c2
      refine lv_bipush (v := (-3 : Int32)) hx hb dX3_part_18 kc_bipush_m3 ?_
      have e0 : (-3 : Int32) = r0 := congrArg (fun z => z.1) hf
      have e1 : n = n' := congrArg (fun z => z.2) hf
      subst e0
      subst e1
      exact hret H locs ls _ dX3_part_20 rfl hP hD hS
  · have hf := it_t hf c1
    refine lv_iconst (v := (-1 : Int32)) hx hb dX3_part_8 kc_iconst_m1 ?_
    have e0 : (-1 : Int32) = r0 := congrArg (fun z => z.1) hf
    have e1 : n = n' := congrArg (fun z => z.2) hf
    subst e0
    subst e1
    exact hret H locs ls _ dX3_part_9 rfl hP hD hS
set_option maxRecDepth 100000 in
theorem c_X3_part (l : Launch) (D : va_G) (cI cN : ClassId) (t : Nat → Nat) (q : Nat → Nat) (sz : Nat) (r : OS) (n : OS) (x2 : Int32) (r0 : Int32) (n' : OS) (hf : fX3_part r n x2 = (r0, n')) : CtI l D cI cN yX3_part wsX3_part rm_X3_part 0 0 [.ref (t 0), .ref (q 0), .int x2] ((rtW cI t r) ++ (nwW cI q n)) sz r0 ((rtW cI t r) ++ (nwW cI q n')) := by
  refine mW (cc := cX3_part) (maxL := 4) (ty := .int) (by decide) rfl rfl (Nat.le_of_ble_eq_true rfl) ?_
  intro p e s m args below meth c Q A S hK hP hD hS hA hret ls hl
  exact w_X3_part_0 S hK hA hret hf _ _ _ hP hD hS (lv_sub (show lv_has ls 4 [(0, .ref (t 0)), (1, .ref (q 0)), (2, .int x2)] from hl) [1, 2] rfl)
abbrev rm_X3_revive : Room := { frames := 1, cells := 0, slots := 0, locals := 21 }
theorem in_X3_revive_X1 : ∀ w ∈ u_ws RX1 TX1 16, w ∈ wsX3_revive := fun w h => List.mem_cons_of_mem _ (List.mem_append_right _ h)
set_option maxRecDepth 100000 in
set_option maxHeartbeats 4000000 in
theorem w_X3_revive_0 {p : Program} {l : Launch} {e : Env} {s : State} {m : MethodId} {args : Array Value} {below : List Frame} {meth : Method} {c : Code} {Q : State → Prop} {D : va_G} {cI cN : ClassId} {A : Nat → Prop} {t : Nat → Nat} {q : Nat → Nat} (S : CallFix p m c cX3_revive 3 s args wsX3_revive RX3) (hK : KN D cI cN s) (hA : ∀ q : Nat, s.heap.size ≤ q → A q) {r : OS} {n : OS} {x2 : Int32} {r0 : Int32} {n' : OS} (hret : ∀ (H : Heap) (locs : List Loc) (ls : Array Slot) (pc : Nat), decode cX3_revive pc = .ok (.ireturn, 1) → narrow .int (.int r0) = .int r0 → va_P D vwCl ((rtW cI t r) ++ (nwW cI q n')) H → va_D A ((rtW cI t r) ++ (nwW cI q n')) → va_S A s.heap H locs → W p l e (headSpec wsX3_revive rm_X3_revive).room s m args below meth c H locs 0 0 Q (F0 m pc ls [.int r0])) (hf : fX3_revive r n x2 = (r0, n')) (H : Heap) (locs : List Loc) (ls : Array Slot) (hP : va_P D vwCl ((rtW cI t r) ++ (nwW cI q n)) H) (hD : va_D A ((rtW cI t r) ++ (nwW cI q n))) (hS : va_S A s.heap H locs) (hl : lv_has ls 3 [(1, .ref (q 0)), (2, .int x2)]) : W p l e (headSpec wsX3_revive rm_X3_revive).room s m args below meth c H locs 0 0 Q (F0 m 0 ls []) := by
  obtain ⟨hx, hb, hml, hown, hts⟩ := id S
  have inX1 := in_X3_revive_X1
  unfold fX3_revive at hf
  refine lv_aload_n hx hb dX3_revive_0 rfl (lv_at hl 0 rfl) ?_
  refine lv_iload_n hx hb dX3_revive_1 rfl (lv_at hl 1 rfl) ?_
  refine cQi (As := [.int x2]) (rest := []) (q0 := 5) (ci := 1) S (c_X1_isMiddle l D cI cN q _ n x2 (fX1_isMiddle n x2) rfl) (cwV 1 hts gX3_revive_X1_isMiddle rfl rfl rfl (by decide +kernel) ⟨Nat.le_of_ble_eq_true rfl, Nat.le_of_ble_eq_true rfl⟩) hK hP hS hA (P_sel [(false, (rtW cI t r), (rtW cI t r)), (true, (nwW cI q n), (nwW cI q n))] hP) rfl rfl rfl hl.1 rfl (Nat.le_of_ble_eq_true rfl) dX3_revive_2 ⟨Nat.zero_le _, Nat.zero_le _⟩ (fun H locs hP hS => ?_)
  refine lv_if_ne (tgt := 10) hx hb dX3_revive_5 (by decide) (fun c1 => ?_) (fun c1 => ?_)
  · have hf := it_f hf c1
    refine lv_aload_n hx hb dX3_revive_10 rfl (lv_at hl 0 rfl) ?_
    refine va_get (D := D) (ci := 1) (v := .int (n.1 3)) (C := RX1) (T := TX1) (N := 16) hx hb hts inX1 hown hK.1 hP 5 rfl rfl 3 (by decide) (hts (.fieldLink RX3 61 "ClosExchange$Network" "service" "I") (List.mem_of_getElem? (i := 1) rfl)) (fun _ h9 => h9) rfl dX3_revive_11 ?_
    refine lv_iload_n hx hb dX3_revive_14 rfl (lv_at hl 1 rfl) ?_
    refine cNi (As := [.int (n.1 3), .int x2]) (rest := []) S (c_X5_hasBit l D cI cN _ (n.1 3) x2 (fX5_hasBit (n.1 3) x2) rfl) ⟨va_cnB 2 hts gX3_revive_X5_hasBit_n64 rfl rfl rfl hK.2.2.1 (hts (.initialized RX5) (List.mem_of_getElem? (i := 9) rfl)) (by decide +kernel) ⟨Nat.le_of_ble_eq_true rfl, Nat.le_of_ble_eq_true rfl⟩, (hts (.static yX5_hasBit) (List.mem_of_getElem? (i := 8) rfl)), trivial⟩ hK hP hS hA [] rfl rfl hl.1 rfl (Nat.le_of_ble_eq_true rfl) dX3_revive_15 ⟨Nat.zero_le _, Nat.zero_le _⟩ (fun H locs hP hS => ?_)
    refine lv_if_eq (tgt := 24) hx hb dX3_revive_18 (by decide) (fun c2 => ?_) (fun c2 => ?_)
    · have hf := it_t hf c2
      refine lv_aload_n hx hb dX3_revive_24 rfl (lv_at hl 0 rfl) ?_
      refine lv_dup hx hb dX3_revive_25 rfl ?_
      refine va_get (D := D) (ci := 1) (v := .int (n.1 3)) (C := RX1) (T := TX1) (N := 16) hx hb hts inX1 hown hK.1 hP 5 rfl rfl 3 (by decide) (hts (.fieldLink RX3 61 "ClosExchange$Network" "service" "I") (List.mem_of_getElem? (i := 1) rfl)) (fun _ h9 => h9) rfl dX3_revive_26 ?_
      refine lv_iconst (v := (1 : Int32)) hx hb dX3_revive_29 kc_iconst_1 ?_
      refine lv_iload_n hx hb dX3_revive_30 rfl (lv_at hl 1 rfl) ?_
      refine lv_ishl hx hb dX3_revive_31 ?_
      refine lv_ior hx hb dX3_revive_32 ?_
      obtain ⟨w3, hw3, hf⟩ := it_j hf
      rw [hw3]
      refine gput (D := D) (ci := 1) (v := .int w3) (ty := .int) (C := RX1) (T := TX1) (N := 16) (wf := ((rtW cI t r) ++ (nwW cI q (setF n 3 w3)))) hx hb hts inX1 tyX1 tyX1_ok nmX1 hown hK.1 hP hD hS 5 rfl rfl 3 (by decide) (hts (.fieldLink RX3 61 "ClosExchange$Network" "service" "I") (List.mem_of_getElem? (i := 1) rfl)) (fun _ h9 => h9) rfl (by decide +kernel) rfl rfl (Nat.le_of_ble_eq_true rfl) dX3_revive_33 rfl (fun H locs hP hD hS => ?_)
      refine lv_aload_n hx hb dX3_revive_36 rfl (lv_at hl 0 rfl) ?_
      refine va_get (D := D) (ci := 1) (v := .int w3) (C := RX1) (T := TX1) (N := 16) hx hb hts inX1 hown hK.1 hP 5 rfl rfl 3 (by decide) (hts (.fieldLink RX3 61 "ClosExchange$Network" "service" "I") (List.mem_of_getElem? (i := 1) rfl)) (fun _ h9 => h9) rfl dX3_revive_37 ?_
      refine cSi (As := [.int w3]) (rest := []) S (c_J6_bitCount_0f7a4 l D cI cN _ w3 _ rfl) (va_cwS 1 hts gX3_revive_J6_bitCount_0f7a4 rfl rfl rfl (by decide +kernel) ⟨Nat.le_of_ble_eq_true rfl, Nat.le_of_ble_eq_true rfl⟩) hK hP hS hA [] rfl rfl hl.1 rfl (Nat.le_of_ble_eq_true rfl) dX3_revive_40 ⟨Nat.zero_le _, Nat.zero_le _⟩ (fun H locs hP hS => ?_)
      have e0 : (fJ6_bitCount_0f7a4 w3) = r0 := congrArg (fun z => z.1) hf
      have e1 : (setF n 3 w3) = n' := congrArg (fun z => z.2) hf
      subst e0
      subst e1
      exact hret H locs ls _ dX3_revive_43 rfl hP hD hS
    · have hf := it_f hf c2
      refine lv_bipush (v := (-6 : Int32)) hx hb dX3_revive_21 kc_bipush_m6 ?_
      have e0 : (-6 : Int32) = r0 := congrArg (fun z => z.1) hf
      have e1 : n = n' := congrArg (fun z => z.2) hf
      subst e0
      subst e1
      exact hret H locs ls _ dX3_revive_23 rfl hP hD hS
  · have hf := it_t hf c1
    refine lv_iconst (v := (-1 : Int32)) hx hb dX3_revive_8 kc_iconst_m1 ?_
    have e0 : (-1 : Int32) = r0 := congrArg (fun z => z.1) hf
    have e1 : n = n' := congrArg (fun z => z.2) hf
    subst e0
    subst e1
    exact hret H locs ls _ dX3_revive_9 rfl hP hD hS
set_option maxRecDepth 100000 in
theorem c_X3_revive (l : Launch) (D : va_G) (cI cN : ClassId) (t : Nat → Nat) (q : Nat → Nat) (sz : Nat) (r : OS) (n : OS) (x2 : Int32) (r0 : Int32) (n' : OS) (hf : fX3_revive r n x2 = (r0, n')) : CtI l D cI cN yX3_revive wsX3_revive rm_X3_revive 0 0 [.ref (t 0), .ref (q 0), .int x2] ((rtW cI t r) ++ (nwW cI q n)) sz r0 ((rtW cI t r) ++ (nwW cI q n')) := by
  refine mW (cc := cX3_revive) (maxL := 3) (ty := .int) (by decide) rfl rfl (Nat.le_of_ble_eq_true rfl) ?_
  intro p e s m args below meth c Q A S hK hP hD hS hA hret ls hl
  exact w_X3_revive_0 S hK hA hret hf _ _ _ hP hD hS (lv_sub (show lv_has ls 3 [(0, .ref (t 0)), (1, .ref (q 0)), (2, .int x2)] from hl) [1, 2] rfl)
abbrev rm_X3_reroute : Room := { frames := 4, cells := 0, slots := 0, locals := 106 }
theorem in_X3_reroute_X1 : ∀ w ∈ u_ws RX1 TX1 16, w ∈ wsX3_reroute := fun w h => List.mem_cons_of_mem _ (List.mem_append_left _ (List.mem_append_left _ (List.mem_append_right _ h)))
set_option maxRecDepth 100000 in
set_option maxHeartbeats 4000000 in
theorem w_X3_reroute_4 {p : Program} {l : Launch} {e : Env} {s : State} {m : MethodId} {args : Array Value} {below : List Frame} {meth : Method} {c : Code} {Q : State → Prop} {D : va_G} {cI cN : ClassId} {A : Nat → Prop} {t : Nat → Nat} {q : Nat → Nat} (S : CallFix p m c cX3_reroute 6 s args wsX3_reroute RX3) (hK : KN D cI cN s) (hA : ∀ q : Nat, s.heap.size ≤ q → A q) {r0 : Int32} {r' : OS} {n' : OS} (hret : ∀ (H : Heap) (locs : List Loc) (ls : Array Slot) (pc : Nat), decode cX3_reroute pc = .ok (.ireturn, 1) → narrow .int (.int r0) = .int r0 → va_P D vwCl ((rtW cI t r') ++ (nwW cI q n')) H → va_D A ((rtW cI t r') ++ (nwW cI q n')) → va_S A s.heap H locs → W p l e (headSpec wsX3_reroute rm_X3_reroute).room s m args below meth c H locs 0 0 Q (F0 m pc ls [.int r0])) : ∀ (k : Nat) (x2 : Int32) (x3 : Int32) (r : OS) (n : OS), fX3_reroute_4  k x2 x3 r n = some (r0, r', n') → ∀ (H : Heap) (locs : List Loc) (ls : Array Slot), va_P D vwCl ((rtW cI t r) ++ (nwW cI q n)) H → va_D A ((rtW cI t r) ++ (nwW cI q n)) → va_S A s.heap H locs → lv_has ls 6 [(0, .ref (t 0)), (1, .ref (q 0)), (2, .int x2), (3, .int x3)] → W p l e (headSpec wsX3_reroute rm_X3_reroute).room s m args below meth c H locs 0 0 Q (F0 m 4 ls []) := by
  obtain ⟨hx, hb, hml, hown, hts⟩ := id S
  have inX1 := in_X3_reroute_X1
  intro k
  induction k with
  | zero => intro x2 x3 r n hf; rw [fX3_reroute_4_z] at hf; cases hf
  | succ k ih =>
    intro x2 x3 r n hf H locs ls hP hD hS hl
    rw [fX3_reroute_4_s] at hf
    refine lv_iload_n hx hb dX3_reroute_4 rfl (lv_at hl 3 rfl) ?_
    refine lv_bipush (v := (48 : Int32)) hx hb dX3_reroute_5 kc_bipush_48 ?_
    refine lv_icmp_ge (tgt := 84) hx hb dX3_reroute_7 (by decide) (fun c1 => ?_) (fun c1 => ?_)
    · have hf := it_t hf c1
      refine lv_aload_n hx hb dX3_reroute_84 rfl (lv_at hl 1 rfl) ?_
      refine lv_dup hx hb dX3_reroute_85 rfl ?_
      refine va_get (D := D) (ci := 1) (v := .int (n.1 8)) (C := RX1) (T := TX1) (N := 16) hx hb hts inX1 hown hK.1 hP 5 rfl rfl 8 (by decide) (hts (.fieldLink RX3 116 "ClosExchange$Network" "dropped" "I") (List.mem_of_getElem? (i := 3) rfl)) (fun _ h9 => h9) rfl dX3_reroute_86 ?_
      refine lv_iload_n hx hb dX3_reroute_89 rfl (lv_at hl 2 rfl) ?_
      refine lv_iadd hx hb dX3_reroute_90 ?_
      obtain ⟨w2, hw2, hf⟩ := it_j hf
      rw [hw2]
      refine gput (D := D) (ci := 1) (v := .int w2) (ty := .int) (C := RX1) (T := TX1) (N := 16) (wf := ((rtW cI t r) ++ (nwW cI q (setF n 8 w2)))) hx hb hts inX1 tyX1 tyX1_ok nmX1 hown hK.1 hP hD hS 5 rfl rfl 8 (by decide) (hts (.fieldLink RX3 116 "ClosExchange$Network" "dropped" "I") (List.mem_of_getElem? (i := 3) rfl)) (fun _ h9 => h9) rfl (by decide +kernel) rfl rfl (Nat.le_of_ble_eq_true rfl) dX3_reroute_91 rfl (fun H locs hP hD hS => ?_)
      refine lv_iload_n hx hb dX3_reroute_94 rfl (lv_at hl 2 rfl) ?_
      have e0 : x2 = r0 := congrArg (fun z => z.1) (Option.some.inj hf)
      have e1 : r = r' := congrArg (fun z => z.2.1) (Option.some.inj hf)
      have e2 : (setF n 8 w2) = n' := congrArg (fun z => z.2.2) (Option.some.inj hf)
      subst e0
      subst e1
      subst e2
      exact hret H locs ls _ dX3_reroute_95 rfl hP hD hS
    · have hf := it_f hf c1
      refine lv_aload_n hx hb dX3_reroute_10 rfl (lv_at hl 1 rfl) ?_
      obtain ⟨v3, hv3, hf⟩ := it_b hf
      refine cQi (As := []) (rest := []) (q0 := 5) (ci := 1) S (c_X1_firstLifted l D cI cN q _ n v3 hv3) (cwV 0 hts gX3_reroute_X1_firstLifted rfl rfl rfl (by decide +kernel) ⟨Nat.le_of_ble_eq_true rfl, Nat.le_of_ble_eq_true rfl⟩) hK hP hS hA (P_sel [(false, (rtW cI t r), (rtW cI t r)), (true, (nwW cI q n), (nwW cI q n))] hP) rfl rfl rfl hl.1 rfl (Nat.le_of_ble_eq_true rfl) dX3_reroute_11 ⟨Nat.zero_le _, Nat.zero_le _⟩ (fun H locs hP hS => ?_)
      refine lv_istore (lv' := [(4, .int v3), (0, .ref (t 0)), (1, .ref (q 0)), (2, .int x2), (3, .int x3)]) hx hb dX3_reroute_14 hl (by decide) rfl (fun ls hl => ?_)
      refine lv_iload hx hb dX3_reroute_16 (lv_at hl 0 rfl) ?_
      refine lv_if_ge (tgt := 24) hx hb dX3_reroute_18 (by decide) (fun c4 => ?_) (fun c4 => ?_)
      · have hf := it_t hf c4
        refine lv_aload_n hx hb dX3_reroute_24 rfl (lv_at hl 1 rfl) ?_
        refine lv_aload_n hx hb dX3_reroute_25 rfl (lv_at hl 2 rfl) ?_
        refine lv_iload hx hb dX3_reroute_26 (lv_at hl 0 rfl) ?_
        refine lv_aload_n hx hb dX3_reroute_28 rfl (lv_at hl 2 rfl) ?_
        refine va_get (D := D) (ci := 1) (v := .ref (q 2)) (C := RX1) (T := TX1) (N := 16) hx hb hts inX1 hown hK.1 hP 5 rfl rfl 11 (by decide) (hts (.fieldLink RX3 113 "ClosExchange$Network" "outlets" "LClosExchange$Row;") (List.mem_of_getElem? (i := 1) rfl)) (fun _ h9 => h9) rfl dX3_reroute_29 ?_
        refine lv_iload hx hb dX3_reroute_32 (lv_at hl 0 rfl) ?_
        refine cQi (As := [.int v3]) (rest := [.int v3, .ref (q 0), .ref (t 0)]) (q0 := 7) (ci := 4) S (c_X4_get l D cI cN (q 2) (q 8) 48 (Nat.le_of_ble_eq_true rfl) _ (n.2 1) v3) (cwV 1 hts gX3_reroute_X4_get rfl rfl rfl (by decide +kernel) ⟨Nat.le_of_ble_eq_true rfl, Nat.le_of_ble_eq_true rfl⟩) hK hP hS hA (P_two (i0 := 7) (i1 := 13) hP rfl rfl) rfl rfl rfl hl.1 rfl (Nat.le_of_ble_eq_true rfl) dX3_reroute_34 ⟨Nat.zero_le _, Nat.zero_le _⟩ (fun H locs hP hS => ?_)
        obtain ⟨v5, hv5, hf⟩ := it_b hf
        refine cBi (As := [.ref (q 0), .int v3, .int (rget (n.2 1) 48 v3)]) (rest := []) (q0 := 0) (ci := 3) [(true, (rtW cI t r), (rtW cI t v5.2)), (true, (nwW cI q n), (nwW cI q n))] ⟨ad_rtr, (fun h => Bool.noConfusion h), ad_net, (fun h => Bool.noConfusion h), trivial⟩ S (c_X3_findWay l D cI cN t q _ r n v3 (rget (n.2 1) 48 v3) v5.1 v5.2 hv5) (cwV 3 hts gX3_reroute_X3_findWay rfl rfl rfl (by decide +kernel) ⟨Nat.le_of_ble_eq_true rfl, Nat.le_of_ble_eq_true rfl⟩) hK hP hD hS hA rfl rfl rfl hl.1 rfl (Nat.le_of_ble_eq_true rfl) dX3_reroute_37 ⟨Nat.zero_le _, Nat.zero_le _⟩ (fun H locs hP hD hS => ?_)
        refine lv_istore (lv' := [(5, .int v5.1), (4, .int v3), (0, .ref (t 0)), (1, .ref (q 0)), (2, .int x2), (3, .int x3)]) hx hb dX3_reroute_40 hl (by decide) rfl (fun ls hl => ?_)
        refine lv_iload hx hb dX3_reroute_42 (lv_at hl 0 rfl) ?_
        refine lv_if_ge (tgt := 59) hx hb dX3_reroute_44 (by decide) (fun c6 => ?_) (fun c6 => ?_)
        · have hf := it_t hf c6
          refine lv_aload_n hx hb dX3_reroute_59 rfl (lv_at hl 2 rfl) ?_
          refine lv_aload_n hx hb dX3_reroute_60 rfl (lv_at hl 3 rfl) ?_
          refine lv_iload hx hb dX3_reroute_61 (lv_at hl 1 rfl) ?_
          refine lv_iload hx hb dX3_reroute_63 (lv_at hl 0 rfl) ?_
          obtain ⟨v7, hv7, hf⟩ := it_b hf
          refine cBv (As := [.ref (q 0), .int v3, .int v5.1]) (rest := []) (q0 := 0) (ci := 3) [(true, (rtW cI t v5.2), (rtW cI t v5.2)), (true, (nwW cI q n), (nwW cI q v7))] ⟨ad_rtr, (fun h => Bool.noConfusion h), ad_net, (fun h => Bool.noConfusion h), trivial⟩ S (c_X3_settle l D cI cN t q _ v5.2 n v3 v5.1 v7 hv7) (cwV 3 hts gX3_reroute_X3_settle rfl rfl rfl (by decide +kernel) ⟨Nat.le_of_ble_eq_true rfl, Nat.le_of_ble_eq_true rfl⟩) hK hP hD hS hA rfl rfl rfl hl.1 rfl (Nat.le_of_ble_eq_true rfl) dX3_reroute_65 ⟨Nat.zero_le _, Nat.zero_le _⟩ (fun H locs hP hD hS => ?_)
          refine lv_aload_n hx hb dX3_reroute_68 rfl (lv_at hl 3 rfl) ?_
          refine lv_dup hx hb dX3_reroute_69 rfl ?_
          refine va_get (D := D) (ci := 1) (v := .int (v7.1 9)) (C := RX1) (T := TX1) (N := 16) hx hb hts inX1 hown hK.1 hP 5 rfl rfl 9 (by decide) (hts (.fieldLink RX3 87 "ClosExchange$Network" "moved" "I") (List.mem_of_getElem? (i := 2) rfl)) (fun _ h9 => h9) rfl dX3_reroute_70 ?_
          refine lv_iconst (v := (1 : Int32)) hx hb dX3_reroute_73 kc_iconst_1 ?_
          refine lv_iadd hx hb dX3_reroute_74 ?_
          obtain ⟨w8, hw8, hf⟩ := it_j hf
          rw [hw8]
          refine gput (D := D) (ci := 1) (v := .int w8) (ty := .int) (C := RX1) (T := TX1) (N := 16) (wf := ((rtW cI t v5.2) ++ (nwW cI q (setF v7 9 w8)))) hx hb hts inX1 tyX1 tyX1_ok nmX1 hown hK.1 hP hD hS 5 rfl rfl 9 (by decide) (hts (.fieldLink RX3 87 "ClosExchange$Network" "moved" "I") (List.mem_of_getElem? (i := 2) rfl)) (fun _ h9 => h9) rfl (by decide +kernel) rfl rfl (Nat.le_of_ble_eq_true rfl) dX3_reroute_75 rfl (fun H locs hP hD hS => ?_)
          refine lv_iinc (v := (x3 + (1 : Int32))) (lv' := [(3, .int (x3 + (1 : Int32))), (5, .int v5.1), (4, .int v3), (0, .ref (t 0)), (1, .ref (q 0)), (2, .int x2)]) hx hb dX3_reroute_78 hl (k := 5) rfl rfl (by decide) rfl (fun ls hl => ?_)
          refine lv_goto (tgt := 4) hx hb dX3_reroute_81 (by decide) ?_
          exact ih _ _ _ _ hf H locs ls hP hD hS (lv_sub hl [3, 4, 5, 0] rfl)
        · have hf := it_f hf c6
          refine lv_aload_n hx hb dX3_reroute_47 rfl (lv_at hl 3 rfl) ?_
          refine lv_iload hx hb dX3_reroute_48 (lv_at hl 1 rfl) ?_
          obtain ⟨v9, hv9, hf⟩ := it_j hf
          refine cBv (As := [.int v3]) (rest := []) (q0 := 5) (ci := 1) [(false, (rtW cI t v5.2), (rtW cI t v5.2)), (true, (nwW cI q n), (nwW cI q v9))] ⟨rfl, (fun _ => rfl), ad_net, (fun h => Bool.noConfusion h), trivial⟩ S (c_X1_removeCall l D cI cN q _ n v3 v9 hv9) (cwV 1 hts gX3_reroute_X1_removeCall rfl rfl rfl (by decide +kernel) ⟨Nat.le_of_ble_eq_true rfl, Nat.le_of_ble_eq_true rfl⟩) hK hP hD hS hA rfl rfl rfl hl.1 rfl (Nat.le_of_ble_eq_true rfl) dX3_reroute_50 ⟨Nat.zero_le _, Nat.zero_le _⟩ (fun H locs hP hD hS => ?_)
          refine lv_iinc (v := (x2 + (1 : Int32))) (lv' := [(2, .int (x2 + (1 : Int32))), (5, .int v5.1), (4, .int v3), (0, .ref (t 0)), (1, .ref (q 0)), (3, .int x3)]) hx hb dX3_reroute_53 hl (k := 4) rfl rfl (by decide) rfl (fun ls hl => ?_)
          refine lv_goto (tgt := 78) hx hb dX3_reroute_56 (by decide) ?_
          refine lv_iinc (v := (x3 + (1 : Int32))) (lv' := [(3, .int (x3 + (1 : Int32))), (2, .int (x2 + (1 : Int32))), (5, .int v5.1), (4, .int v3), (0, .ref (t 0)), (1, .ref (q 0))]) hx hb dX3_reroute_78 hl (k := 5) rfl rfl (by decide) rfl (fun ls hl => ?_)
          refine lv_goto (tgt := 4) hx hb dX3_reroute_81 (by decide) ?_
          exact ih _ _ _ _ hf H locs ls hP hD hS (lv_sub hl [4, 5, 1, 0] rfl)
      · have hf := it_f hf c4
        refine lv_goto (tgt := 84) hx hb dX3_reroute_21 (by decide) ?_
        refine lv_aload_n hx hb dX3_reroute_84 rfl (lv_at hl 2 rfl) ?_
        refine lv_dup hx hb dX3_reroute_85 rfl ?_
        refine va_get (D := D) (ci := 1) (v := .int (n.1 8)) (C := RX1) (T := TX1) (N := 16) hx hb hts inX1 hown hK.1 hP 5 rfl rfl 8 (by decide) (hts (.fieldLink RX3 116 "ClosExchange$Network" "dropped" "I") (List.mem_of_getElem? (i := 3) rfl)) (fun _ h9 => h9) rfl dX3_reroute_86 ?_
        refine lv_iload_n hx hb dX3_reroute_89 rfl (lv_at hl 3 rfl) ?_
        refine lv_iadd hx hb dX3_reroute_90 ?_
        obtain ⟨w10, hw10, hf⟩ := it_j hf
        rw [hw10]
        refine gput (D := D) (ci := 1) (v := .int w10) (ty := .int) (C := RX1) (T := TX1) (N := 16) (wf := ((rtW cI t r) ++ (nwW cI q (setF n 8 w10)))) hx hb hts inX1 tyX1 tyX1_ok nmX1 hown hK.1 hP hD hS 5 rfl rfl 8 (by decide) (hts (.fieldLink RX3 116 "ClosExchange$Network" "dropped" "I") (List.mem_of_getElem? (i := 3) rfl)) (fun _ h9 => h9) rfl (by decide +kernel) rfl rfl (Nat.le_of_ble_eq_true rfl) dX3_reroute_91 rfl (fun H locs hP hD hS => ?_)
        refine lv_iload_n hx hb dX3_reroute_94 rfl (lv_at hl 3 rfl) ?_
        have e0 : x2 = r0 := congrArg (fun z => z.1) (Option.some.inj hf)
        have e1 : r = r' := congrArg (fun z => z.2.1) (Option.some.inj hf)
        have e2 : (setF n 8 w10) = n' := congrArg (fun z => z.2.2) (Option.some.inj hf)
        subst e0
        subst e1
        subst e2
        exact hret H locs ls _ dX3_reroute_95 rfl hP hD hS
set_option maxRecDepth 100000 in
set_option maxHeartbeats 4000000 in
theorem w_X3_reroute_0 {p : Program} {l : Launch} {e : Env} {s : State} {m : MethodId} {args : Array Value} {below : List Frame} {meth : Method} {c : Code} {Q : State → Prop} {D : va_G} {cI cN : ClassId} {A : Nat → Prop} {t : Nat → Nat} {q : Nat → Nat} (S : CallFix p m c cX3_reroute 6 s args wsX3_reroute RX3) (hK : KN D cI cN s) (hA : ∀ q : Nat, s.heap.size ≤ q → A q) {r : OS} {n : OS} {r0 : Int32} {r' : OS} {n' : OS} (hret : ∀ (H : Heap) (locs : List Loc) (ls : Array Slot) (pc : Nat), decode cX3_reroute pc = .ok (.ireturn, 1) → narrow .int (.int r0) = .int r0 → va_P D vwCl ((rtW cI t r') ++ (nwW cI q n')) H → va_D A ((rtW cI t r') ++ (nwW cI q n')) → va_S A s.heap H locs → W p l e (headSpec wsX3_reroute rm_X3_reroute).room s m args below meth c H locs 0 0 Q (F0 m pc ls [.int r0])) (hf : fX3_reroute r n = some (r0, r', n')) (H : Heap) (locs : List Loc) (ls : Array Slot) (hP : va_P D vwCl ((rtW cI t r) ++ (nwW cI q n)) H) (hD : va_D A ((rtW cI t r) ++ (nwW cI q n))) (hS : va_S A s.heap H locs) (hl : lv_has ls 6 [(0, .ref (t 0)), (1, .ref (q 0))]) : W p l e (headSpec wsX3_reroute rm_X3_reroute).room s m args below meth c H locs 0 0 Q (F0 m 0 ls []) := by
  obtain ⟨hx, hb, hml, hown, hts⟩ := id S
  have inX1 := in_X3_reroute_X1
  unfold fX3_reroute at hf
  refine lv_iconst (v := (0 : Int32)) hx hb dX3_reroute_0 kc_iconst_0 ?_
  refine lv_istore_n (lv' := [(2, .int (0 : Int32)), (0, .ref (t 0)), (1, .ref (q 0))]) hx hb dX3_reroute_1 rfl hl (by decide) rfl (fun ls hl => ?_)
  refine lv_iconst (v := (0 : Int32)) hx hb dX3_reroute_2 kc_iconst_0 ?_
  refine lv_istore_n (lv' := [(3, .int (0 : Int32)), (2, .int (0 : Int32)), (0, .ref (t 0)), (1, .ref (q 0))]) hx hb dX3_reroute_3 rfl hl (by decide) rfl (fun ls hl => ?_)
  exact w_X3_reroute_4 S hK hA hret _ _ _ _ _ hf H locs ls hP hD hS (lv_sub hl [2, 3, 1, 0] rfl)
set_option maxRecDepth 100000 in
theorem c_X3_reroute (l : Launch) (D : va_G) (cI cN : ClassId) (t : Nat → Nat) (q : Nat → Nat) (sz : Nat) (r : OS) (n : OS) (r0 : Int32) (r' : OS) (n' : OS) (hf : fX3_reroute r n = some (r0, r', n')) : CtI l D cI cN yX3_reroute wsX3_reroute rm_X3_reroute 0 0 [.ref (t 0), .ref (q 0)] ((rtW cI t r) ++ (nwW cI q n)) sz r0 ((rtW cI t r') ++ (nwW cI q n')) := by
  refine mW (cc := cX3_reroute) (maxL := 6) (ty := .int) (by decide) rfl rfl (Nat.le_of_ble_eq_true rfl) ?_
  intro p e s m args below meth c Q A S hK hP hD hS hA hret ls hl
  exact w_X3_reroute_0 S hK hA hret hf _ _ _ hP hD hS (lv_sub (show lv_has ls 6 [(0, .ref (t 0)), (1, .ref (q 0))] from hl) [0, 1] rfl)
abbrev rm_X3_retire : Room := { frames := 5, cells := 0, slots := 0, locals := 131 }
theorem in_X3_retire_X1 : ∀ w ∈ u_ws RX1 TX1 16, w ∈ wsX3_retire := fun w h => List.mem_cons_of_mem _ (List.mem_append_left _ (List.mem_append_left _ (List.mem_append_right _ h)))
set_option maxRecDepth 100000 in
set_option maxHeartbeats 4000000 in
theorem w_X3_retire_40 {p : Program} {l : Launch} {e : Env} {s : State} {m : MethodId} {args : Array Value} {below : List Frame} {meth : Method} {c : Code} {Q : State → Prop} {D : va_G} {cI cN : ClassId} {A : Nat → Prop} {t : Nat → Nat} {q : Nat → Nat} (S : CallFix p m c cX3_retire 4 s args wsX3_retire RX3) (hK : KN D cI cN s) (hA : ∀ q : Nat, s.heap.size ≤ q → A q) {r : OS} {x2 : Int32} {r0 : Int32} {r' : OS} {n' : OS} (hret : ∀ (H : Heap) (locs : List Loc) (ls : Array Slot) (pc : Nat), decode cX3_retire pc = .ok (.ireturn, 1) → narrow .int (.int r0) = .int r0 → va_P D vwCl ((rtW cI t r') ++ (nwW cI q n')) H → va_D A ((rtW cI t r') ++ (nwW cI q n')) → va_S A s.heap H locs → W p l e (headSpec wsX3_retire rm_X3_retire).room s m args below meth c H locs 0 0 Q (F0 m pc ls [.int r0])) : ∀ (k : Nat) (x3 : Int32) (n : OS), fX3_retire_40 r x2 k x3 n = some (r0, r', n') → ∀ (H : Heap) (locs : List Loc) (ls : Array Slot), va_P D vwCl ((rtW cI t r) ++ (nwW cI q n)) H → va_D A ((rtW cI t r) ++ (nwW cI q n)) → va_S A s.heap H locs → lv_has ls 4 [(0, .ref (t 0)), (1, .ref (q 0)), (2, .int x2), (3, .int x3)] → W p l e (headSpec wsX3_retire rm_X3_retire).room s m args below meth c H locs 0 0 Q (F0 m 40 ls []) := by
  obtain ⟨hx, hb, hml, hown, hts⟩ := id S
  have inX1 := in_X3_retire_X1
  intro k
  induction k with
  | zero => intro x3 n hf; rw [fX3_retire_40_z] at hf; cases hf
  | succ k ih =>
    intro x3 n hf H locs ls hP hD hS hl
    rw [fX3_retire_40_s] at hf
    refine lv_iload_n hx hb dX3_retire_40 rfl (lv_at hl 3 rfl) ?_
    refine lv_bipush (v := (48 : Int32)) hx hb dX3_retire_41 kc_bipush_48 ?_
    refine lv_icmp_ge (tgt := 69) hx hb dX3_retire_43 (by decide) (fun c4 => ?_) (fun c4 => ?_)
    · have hf := it_t hf c4
      refine lv_aload_n hx hb dX3_retire_69 rfl (lv_at hl 0 rfl) ?_
      refine lv_aload_n hx hb dX3_retire_70 rfl (lv_at hl 1 rfl) ?_
      obtain ⟨v5, hv5, hf⟩ := it_b hf
      refine cBi (As := [.ref (q 0)]) (rest := []) (q0 := 0) (ci := 3) [(true, (rtW cI t r), (rtW cI t v5.2.1)), (true, (nwW cI q n), (nwW cI q v5.2.2))] ⟨ad_rtr, (fun h => Bool.noConfusion h), ad_net, (fun h => Bool.noConfusion h), trivial⟩ S (c_X3_reroute l D cI cN t q _ r n v5.1 v5.2.1 v5.2.2 hv5) (cwV 1 hts gX3_retire_X3_reroute rfl rfl rfl (by decide +kernel) ⟨Nat.le_of_ble_eq_true rfl, Nat.le_of_ble_eq_true rfl⟩) hK hP hD hS hA rfl rfl rfl hl.1 rfl (Nat.le_of_ble_eq_true rfl) dX3_retire_71 ⟨Nat.zero_le _, Nat.zero_le _⟩ (fun H locs hP hD hS => ?_)
      have e0 : v5.1 = r0 := congrArg (fun z => z.1) (Option.some.inj hf)
      have e1 : v5.2.1 = r' := congrArg (fun z => z.2.1) (Option.some.inj hf)
      have e2 : v5.2.2 = n' := congrArg (fun z => z.2.2) (Option.some.inj hf)
      subst e0
      subst e1
      subst e2
      exact hret H locs ls _ dX3_retire_74 rfl hP hD hS
    · have hf := it_f hf c4
      refine lv_aload_n hx hb dX3_retire_46 rfl (lv_at hl 1 rfl) ?_
      refine va_get (D := D) (ci := 1) (v := .ref (q 3)) (C := RX1) (T := TX1) (N := 16) hx hb hts inX1 hown hK.1 hP 5 rfl rfl 12 (by decide) (hts (.fieldLink RX3 68 "ClosExchange$Network" "vias" "LClosExchange$Row;") (List.mem_of_getElem? (i := 2) rfl)) (fun _ h9 => h9) rfl dX3_retire_47 ?_
      refine lv_iload_n hx hb dX3_retire_50 rfl (lv_at hl 3 rfl) ?_
      refine cQi (As := [.int x3]) (rest := []) (q0 := 8) (ci := 4) S (c_X4_get l D cI cN (q 3) (q 9) 48 (Nat.le_of_ble_eq_true rfl) _ (n.2 2) x3) (cwV 1 hts gX3_retire_X4_get rfl rfl rfl (by decide +kernel) ⟨Nat.le_of_ble_eq_true rfl, Nat.le_of_ble_eq_true rfl⟩) hK hP hS hA (P_two (i0 := 8) (i1 := 14) hP rfl rfl) rfl rfl rfl hl.1 rfl (Nat.le_of_ble_eq_true rfl) dX3_retire_51 ⟨Nat.zero_le _, Nat.zero_le _⟩ (fun H locs hP hS => ?_)
      refine lv_iload_n hx hb dX3_retire_54 rfl (lv_at hl 2 rfl) ?_
      refine lv_icmp_ne (tgt := 63) hx hb dX3_retire_55 (by decide) (fun c6 => ?_) (fun c6 => ?_)
      · have hf := it_f hf c6
        refine lv_iinc (v := (x3 + (1 : Int32))) (lv' := [(3, .int (x3 + (1 : Int32))), (0, .ref (t 0)), (1, .ref (q 0)), (2, .int x2)]) hx hb dX3_retire_63 hl (k := 3) rfl rfl (by decide) rfl (fun ls hl => ?_)
        refine lv_goto (tgt := 40) hx hb dX3_retire_66 (by decide) ?_
        exact ih _ _ hf H locs ls hP hD hS (lv_sub hl [1, 2, 3, 0] rfl)
      · have hf := it_t hf c6
        refine lv_aload_n hx hb dX3_retire_58 rfl (lv_at hl 1 rfl) ?_
        refine lv_iload_n hx hb dX3_retire_59 rfl (lv_at hl 3 rfl) ?_
        obtain ⟨v7, hv7, hf⟩ := it_j hf
        refine cBv (As := [.int x3]) (rest := []) (q0 := 5) (ci := 1) [(false, (rtW cI t r), (rtW cI t r)), (true, (nwW cI q n), (nwW cI q v7))] ⟨rfl, (fun _ => rfl), ad_net, (fun h => Bool.noConfusion h), trivial⟩ S (c_X1_liftCall l D cI cN q _ n x3 v7 hv7) (cwV 1 hts gX3_retire_X1_liftCall rfl rfl rfl (by decide +kernel) ⟨Nat.le_of_ble_eq_true rfl, Nat.le_of_ble_eq_true rfl⟩) hK hP hD hS hA rfl rfl rfl hl.1 rfl (Nat.le_of_ble_eq_true rfl) dX3_retire_60 ⟨Nat.zero_le _, Nat.zero_le _⟩ (fun H locs hP hD hS => ?_)
        refine lv_iinc (v := (x3 + (1 : Int32))) (lv' := [(3, .int (x3 + (1 : Int32))), (0, .ref (t 0)), (1, .ref (q 0)), (2, .int x2)]) hx hb dX3_retire_63 hl (k := 3) rfl rfl (by decide) rfl (fun ls hl => ?_)
        refine lv_goto (tgt := 40) hx hb dX3_retire_66 (by decide) ?_
        exact ih _ _ hf H locs ls hP hD hS (lv_sub hl [1, 2, 3, 0] rfl)
set_option maxRecDepth 100000 in
set_option maxHeartbeats 4000000 in
theorem w_X3_retire_0 {p : Program} {l : Launch} {e : Env} {s : State} {m : MethodId} {args : Array Value} {below : List Frame} {meth : Method} {c : Code} {Q : State → Prop} {D : va_G} {cI cN : ClassId} {A : Nat → Prop} {t : Nat → Nat} {q : Nat → Nat} (S : CallFix p m c cX3_retire 4 s args wsX3_retire RX3) (hK : KN D cI cN s) (hA : ∀ q : Nat, s.heap.size ≤ q → A q) {r : OS} {n : OS} {x2 : Int32} {r0 : Int32} {r' : OS} {n' : OS} (hret : ∀ (H : Heap) (locs : List Loc) (ls : Array Slot) (pc : Nat), decode cX3_retire pc = .ok (.ireturn, 1) → narrow .int (.int r0) = .int r0 → va_P D vwCl ((rtW cI t r') ++ (nwW cI q n')) H → va_D A ((rtW cI t r') ++ (nwW cI q n')) → va_S A s.heap H locs → W p l e (headSpec wsX3_retire rm_X3_retire).room s m args below meth c H locs 0 0 Q (F0 m pc ls [.int r0])) (hf : fX3_retire r n x2 = some (r0, r', n')) (H : Heap) (locs : List Loc) (ls : Array Slot) (hP : va_P D vwCl ((rtW cI t r) ++ (nwW cI q n)) H) (hD : va_D A ((rtW cI t r) ++ (nwW cI q n))) (hS : va_S A s.heap H locs) (hl : lv_has ls 4 [(0, .ref (t 0)), (1, .ref (q 0)), (2, .int x2)]) : W p l e (headSpec wsX3_retire rm_X3_retire).room s m args below meth c H locs 0 0 Q (F0 m 0 ls []) := by
  obtain ⟨hx, hb, hml, hown, hts⟩ := id S
  have inX1 := in_X3_retire_X1
  unfold fX3_retire at hf
  refine lv_aload_n hx hb dX3_retire_0 rfl (lv_at hl 1 rfl) ?_
  refine lv_iload_n hx hb dX3_retire_1 rfl (lv_at hl 2 rfl) ?_
  refine cQi (As := [.int x2]) (rest := []) (q0 := 5) (ci := 1) S (c_X1_isMiddle l D cI cN q _ n x2 (fX1_isMiddle n x2) rfl) (cwV 1 hts gX3_retire_X1_isMiddle rfl rfl rfl (by decide +kernel) ⟨Nat.le_of_ble_eq_true rfl, Nat.le_of_ble_eq_true rfl⟩) hK hP hS hA (P_sel [(false, (rtW cI t r), (rtW cI t r)), (true, (nwW cI q n), (nwW cI q n))] hP) rfl rfl rfl hl.1 rfl (Nat.le_of_ble_eq_true rfl) dX3_retire_2 ⟨Nat.zero_le _, Nat.zero_le _⟩ (fun H locs hP hS => ?_)
  refine lv_if_ne (tgt := 10) hx hb dX3_retire_5 (by decide) (fun c1 => ?_) (fun c1 => ?_)
  · have hf := it_f hf c1
    refine lv_aload_n hx hb dX3_retire_10 rfl (lv_at hl 1 rfl) ?_
    refine va_get (D := D) (ci := 1) (v := .int (n.1 3)) (C := RX1) (T := TX1) (N := 16) hx hb hts inX1 hown hK.1 hP 5 rfl rfl 3 (by decide) (hts (.fieldLink RX3 61 "ClosExchange$Network" "service" "I") (List.mem_of_getElem? (i := 1) rfl)) (fun _ h9 => h9) rfl dX3_retire_11 ?_
    refine lv_iload_n hx hb dX3_retire_14 rfl (lv_at hl 2 rfl) ?_
    refine cNi (As := [.int (n.1 3), .int x2]) (rest := []) S (c_X5_hasBit l D cI cN _ (n.1 3) x2 (fX5_hasBit (n.1 3) x2) rfl) ⟨va_cnB 2 hts gX3_retire_X5_hasBit_n64 rfl rfl rfl hK.2.2.1 (hts (.initialized RX5) (List.mem_of_getElem? (i := 10) rfl)) (by decide +kernel) ⟨Nat.le_of_ble_eq_true rfl, Nat.le_of_ble_eq_true rfl⟩, (hts (.static yX5_hasBit) (List.mem_of_getElem? (i := 9) rfl)), trivial⟩ hK hP hS hA [] rfl rfl hl.1 rfl (Nat.le_of_ble_eq_true rfl) dX3_retire_15 ⟨Nat.zero_le _, Nat.zero_le _⟩ (fun H locs hP hS => ?_)
    refine lv_if_ne (tgt := 24) hx hb dX3_retire_18 (by decide) (fun c2 => ?_) (fun c2 => ?_)
    · have hf := it_f hf c2
      refine lv_aload_n hx hb dX3_retire_24 rfl (lv_at hl 1 rfl) ?_
      refine lv_dup hx hb dX3_retire_25 rfl ?_
      refine va_get (D := D) (ci := 1) (v := .int (n.1 3)) (C := RX1) (T := TX1) (N := 16) hx hb hts inX1 hown hK.1 hP 5 rfl rfl 3 (by decide) (hts (.fieldLink RX3 61 "ClosExchange$Network" "service" "I") (List.mem_of_getElem? (i := 1) rfl)) (fun _ h9 => h9) rfl dX3_retire_26 ?_
      refine lv_iconst (v := (1 : Int32)) hx hb dX3_retire_29 kc_iconst_1 ?_
      refine lv_iload_n hx hb dX3_retire_30 rfl (lv_at hl 2 rfl) ?_
      refine lv_ishl hx hb dX3_retire_31 ?_
      refine lv_iconst (v := (-1 : Int32)) hx hb dX3_retire_32 kc_iconst_m1 ?_
      refine lv_ixor hx hb dX3_retire_33 ?_
      refine lv_iand hx hb dX3_retire_34 ?_
      obtain ⟨w3, hw3, hf⟩ := it_j hf
      rw [hw3]
      refine gput (D := D) (ci := 1) (v := .int w3) (ty := .int) (C := RX1) (T := TX1) (N := 16) (wf := ((rtW cI t r) ++ (nwW cI q (setF n 3 w3)))) hx hb hts inX1 tyX1 tyX1_ok nmX1 hown hK.1 hP hD hS 5 rfl rfl 3 (by decide) (hts (.fieldLink RX3 61 "ClosExchange$Network" "service" "I") (List.mem_of_getElem? (i := 1) rfl)) (fun _ h9 => h9) rfl (by decide +kernel) rfl rfl (Nat.le_of_ble_eq_true rfl) dX3_retire_35 rfl (fun H locs hP hD hS => ?_)
      refine lv_iconst (v := (0 : Int32)) hx hb dX3_retire_38 kc_iconst_0 ?_
      refine lv_istore_n (lv' := [(3, .int (0 : Int32)), (0, .ref (t 0)), (1, .ref (q 0)), (2, .int x2)]) hx hb dX3_retire_39 rfl hl (by decide) rfl (fun ls hl => ?_)
      exact w_X3_retire_40 S hK hA hret _ _ _ hf H locs ls hP hD hS (lv_sub hl [1, 2, 3, 0] rfl)
    · have hf := it_t hf c2
      refine lv_bipush (v := (-6 : Int32)) hx hb dX3_retire_21 kc_bipush_m6 ?_
      have e0 : (-6 : Int32) = r0 := congrArg (fun z => z.1) (Option.some.inj hf)
      have e1 : r = r' := congrArg (fun z => z.2.1) (Option.some.inj hf)
      have e2 : n = n' := congrArg (fun z => z.2.2) (Option.some.inj hf)
      subst e0
      subst e1
      subst e2
      exact hret H locs ls _ dX3_retire_23 rfl hP hD hS
  · have hf := it_t hf c1
    refine lv_iconst (v := (-1 : Int32)) hx hb dX3_retire_8 kc_iconst_m1 ?_
    have e0 : (-1 : Int32) = r0 := congrArg (fun z => z.1) (Option.some.inj hf)
    have e1 : r = r' := congrArg (fun z => z.2.1) (Option.some.inj hf)
    have e2 : n = n' := congrArg (fun z => z.2.2) (Option.some.inj hf)
    subst e0
    subst e1
    subst e2
    exact hret H locs ls _ dX3_retire_9 rfl hP hD hS
set_option maxRecDepth 100000 in
theorem c_X3_retire (l : Launch) (D : va_G) (cI cN : ClassId) (t : Nat → Nat) (q : Nat → Nat) (sz : Nat) (r : OS) (n : OS) (x2 : Int32) (r0 : Int32) (r' : OS) (n' : OS) (hf : fX3_retire r n x2 = some (r0, r', n')) : CtI l D cI cN yX3_retire wsX3_retire rm_X3_retire 0 0 [.ref (t 0), .ref (q 0), .int x2] ((rtW cI t r) ++ (nwW cI q n)) sz r0 ((rtW cI t r') ++ (nwW cI q n')) := by
  refine mW (cc := cX3_retire) (maxL := 4) (ty := .int) (by decide) rfl rfl (Nat.le_of_ble_eq_true rfl) ?_
  intro p e s m args below meth c Q A S hK hP hD hS hA hret ls hl
  exact w_X3_retire_0 S hK hA hret hf _ _ _ hP hD hS (lv_sub (show lv_has ls 4 [(0, .ref (t 0)), (1, .ref (q 0)), (2, .int x2)] from hl) [0, 1, 2] rfl)
abbrev rm_X3_repack : Room := { frames := 5, cells := 0, slots := 0, locals := 131 }
theorem in_X3_repack_X1 : ∀ w ∈ u_ws RX1 TX1 16, w ∈ wsX3_repack := fun w h => List.mem_cons_of_mem _ (List.mem_append_left _ (List.mem_append_left _ (List.mem_append_right _ h)))
theorem in_X3_repack_X3 : ∀ w ∈ u_ws RX3 TX3 5, w ∈ wsX3_repack := fun w h => List.mem_cons_of_mem _ (List.mem_append_left _ (List.mem_append_right _ h))
set_option maxRecDepth 100000 in
set_option maxHeartbeats 4000000 in
theorem w_X3_repack_46 {p : Program} {l : Launch} {e : Env} {s : State} {m : MethodId} {args : Array Value} {below : List Frame} {meth : Method} {c : Code} {Q : State → Prop} {D : va_G} {cI cN : ClassId} {A : Nat → Prop} {t : Nat → Nat} {q : Nat → Nat} (S : CallFix p m c cX3_repack 5 s args wsX3_repack RX3) (hK : KN D cI cN s) (hA : ∀ q : Nat, s.heap.size ≤ q → A q) {r : OS} {x2 : Int32} {x3 : Int32} {r0 : Int32} {r' : OS} {n' : OS} (hret : ∀ (H : Heap) (locs : List Loc) (ls : Array Slot) (pc : Nat), decode cX3_repack pc = .ok (.ireturn, 1) → narrow .int (.int r0) = .int r0 → va_P D vwCl ((rtW cI t r') ++ (nwW cI q n')) H → va_D A ((rtW cI t r') ++ (nwW cI q n')) → va_S A s.heap H locs → W p l e (headSpec wsX3_repack rm_X3_repack).room s m args below meth c H locs 0 0 Q (F0 m pc ls [.int r0])) : ∀ (k : Nat) (x4 : Int32) (n : OS), fX3_repack_46 r x2 x3 k x4 n = some (r0, r', n') → ∀ (H : Heap) (locs : List Loc) (ls : Array Slot), va_P D vwCl ((rtW cI t r) ++ (nwW cI q n)) H → va_D A ((rtW cI t r) ++ (nwW cI q n)) → va_S A s.heap H locs → lv_has ls 5 [(0, .ref (t 0)), (1, .ref (q 0)), (2, .int x2), (3, .int x3), (4, .int x4)] → W p l e (headSpec wsX3_repack rm_X3_repack).room s m args below meth c H locs 0 0 Q (F0 m 46 ls []) := by
  obtain ⟨hx, hb, hml, hown, hts⟩ := id S
  have inX1 := in_X3_repack_X1
  have inX3 := in_X3_repack_X3
  intro k
  induction k with
  | zero => intro x4 n hf; rw [fX3_repack_46_z] at hf; cases hf
  | succ k ih =>
    intro x4 n hf H locs ls hP hD hS hl
    rw [fX3_repack_46_s] at hf
    refine lv_iload hx hb dX3_repack_46 (lv_at hl 4 rfl) ?_
    refine lv_bipush (v := (48 : Int32)) hx hb dX3_repack_48 kc_bipush_48 ?_
    refine lv_icmp_ge (tgt := 65) hx hb dX3_repack_50 (by decide) (fun c5 => ?_) (fun c5 => ?_)
    · have hf := it_t hf c5
      refine lv_aload_n hx hb dX3_repack_65 rfl (lv_at hl 0 rfl) ?_
      refine lv_aload_n hx hb dX3_repack_66 rfl (lv_at hl 1 rfl) ?_
      obtain ⟨v6, hv6, hf⟩ := it_b hf
      refine cBi (As := [.ref (q 0)]) (rest := []) (q0 := 0) (ci := 3) [(true, (rtW cI t r), (rtW cI t v6.2.1)), (true, (nwW cI q n), (nwW cI q v6.2.2))] ⟨ad_rtr, (fun h => Bool.noConfusion h), ad_net, (fun h => Bool.noConfusion h), trivial⟩ S (c_X3_reroute l D cI cN t q _ r n v6.1 v6.2.1 v6.2.2 hv6) (cwV 1 hts gX3_repack_X3_reroute rfl rfl rfl (by decide +kernel) ⟨Nat.le_of_ble_eq_true rfl, Nat.le_of_ble_eq_true rfl⟩) hK hP hD hS hA rfl rfl rfl hl.1 rfl (Nat.le_of_ble_eq_true rfl) dX3_repack_67 ⟨Nat.zero_le _, Nat.zero_le _⟩ (fun H locs hP hD hS => ?_)
      refine lv_pop hx hb dX3_repack_70 rfl ?_
      refine lv_aload_n hx hb dX3_repack_71 rfl (lv_at hl 1 rfl) ?_
      refine lv_iload_n hx hb dX3_repack_72 rfl (lv_at hl 2 rfl) ?_
      refine gput (D := D) (ci := 1) (v := .int x2) (ty := .int) (C := RX1) (T := TX1) (N := 16) (wf := ((rtW cI t v6.2.1) ++ (nwW cI q (setF v6.2.2 3 x2)))) hx hb hts inX1 tyX1 tyX1_ok nmX1 hown hK.1 hP hD hS 5 rfl rfl 3 (by decide) (hts (.fieldLink RX3 61 "ClosExchange$Network" "service" "I") (List.mem_of_getElem? (i := 1) rfl)) (fun _ h9 => h9) rfl (by decide +kernel) rfl rfl (Nat.le_of_ble_eq_true rfl) dX3_repack_73 rfl (fun H locs hP hD hS => ?_)
      refine lv_aload_n hx hb dX3_repack_76 rfl (lv_at hl 0 rfl) ?_
      refine lv_aload_n hx hb dX3_repack_77 rfl (lv_at hl 1 rfl) ?_
      obtain ⟨v7, hv7, hf⟩ := it_b hf
      refine cQi (As := [.ref (q 0)]) (rest := []) (q0 := 0) (ci := 3) S (c_X3_countChanged l D cI cN t q _ v6.2.1 (setF v6.2.2 3 x2) v7 hv7) (cwV 1 hts gX3_repack_X3_countChanged rfl rfl rfl (by decide +kernel) ⟨Nat.le_of_ble_eq_true rfl, Nat.le_of_ble_eq_true rfl⟩) hK hP hS hA hP rfl rfl rfl hl.1 rfl (Nat.le_of_ble_eq_true rfl) dX3_repack_78 ⟨Nat.zero_le _, Nat.zero_le _⟩ (fun H locs hP hS => ?_)
      refine lv_istore (lv' := [(4, .int v7), (0, .ref (t 0)), (1, .ref (q 0)), (2, .int x2), (3, .int x3)]) hx hb dX3_repack_81 hl (by decide) rfl (fun ls hl => ?_)
      refine lv_aload_n hx hb dX3_repack_83 rfl (lv_at hl 2 rfl) ?_
      refine lv_iload_n hx hb dX3_repack_84 rfl (lv_at hl 4 rfl) ?_
      refine lv_iload hx hb dX3_repack_85 (lv_at hl 0 rfl) ?_
      refine lv_iadd hx hb dX3_repack_87 ?_
      obtain ⟨w8, hw8, hf⟩ := it_j hf
      rw [hw8]
      refine gput (D := D) (ci := 1) (v := .int w8) (ty := .int) (C := RX1) (T := TX1) (N := 16) (wf := ((rtW cI t v6.2.1) ++ (nwW cI q (setF (setF v6.2.2 3 x2) 9 w8)))) hx hb hts inX1 tyX1 tyX1_ok nmX1 hown hK.1 hP hD hS 5 rfl rfl 9 (by decide) (hts (.fieldLink RX3 87 "ClosExchange$Network" "moved" "I") (List.mem_of_getElem? (i := 2) rfl)) (fun _ h9 => h9) rfl (by decide +kernel) rfl rfl (Nat.le_of_ble_eq_true rfl) dX3_repack_88 rfl (fun H locs hP hD hS => ?_)
      refine lv_iload hx hb dX3_repack_91 (lv_at hl 0 rfl) ?_
      have e0 : v7 = r0 := congrArg (fun z => z.1) (Option.some.inj hf)
      have e1 : v6.2.1 = r' := congrArg (fun z => z.2.1) (Option.some.inj hf)
      have e2 : (setF (setF v6.2.2 3 x2) 9 w8) = n' := congrArg (fun z => z.2.2) (Option.some.inj hf)
      subst e0
      subst e1
      subst e2
      exact hret H locs ls _ dX3_repack_93 rfl hP hD hS
    · have hf := it_f hf c5
      refine lv_aload_n hx hb dX3_repack_53 rfl (lv_at hl 1 rfl) ?_
      refine lv_iload hx hb dX3_repack_54 (lv_at hl 4 rfl) ?_
      obtain ⟨v9, hv9, hf⟩ := it_j hf
      refine cBv (As := [.int x4]) (rest := []) (q0 := 5) (ci := 1) [(false, (rtW cI t r), (rtW cI t r)), (true, (nwW cI q n), (nwW cI q v9))] ⟨rfl, (fun _ => rfl), ad_net, (fun h => Bool.noConfusion h), trivial⟩ S (c_X1_liftCall l D cI cN q _ n x4 v9 hv9) (cwV 1 hts gX3_repack_X1_liftCall rfl rfl rfl (by decide +kernel) ⟨Nat.le_of_ble_eq_true rfl, Nat.le_of_ble_eq_true rfl⟩) hK hP hD hS hA rfl rfl rfl hl.1 rfl (Nat.le_of_ble_eq_true rfl) dX3_repack_56 ⟨Nat.zero_le _, Nat.zero_le _⟩ (fun H locs hP hD hS => ?_)
      refine lv_iinc (v := (x4 + (1 : Int32))) (lv' := [(4, .int (x4 + (1 : Int32))), (0, .ref (t 0)), (1, .ref (q 0)), (2, .int x2), (3, .int x3)]) hx hb dX3_repack_59 hl (k := 4) rfl rfl (by decide) rfl (fun ls hl => ?_)
      refine lv_goto (tgt := 46) hx hb dX3_repack_62 (by decide) ?_
      exact ih _ _ hf H locs ls hP hD hS (lv_sub hl [1, 2, 3, 4, 0] rfl)
set_option maxRecDepth 100000 in
set_option maxHeartbeats 4000000 in
theorem w_X3_repack_0 {p : Program} {l : Launch} {e : Env} {s : State} {m : MethodId} {args : Array Value} {below : List Frame} {meth : Method} {c : Code} {Q : State → Prop} {D : va_G} {cI cN : ClassId} {A : Nat → Prop} {t : Nat → Nat} {q : Nat → Nat} (S : CallFix p m c cX3_repack 5 s args wsX3_repack RX3) (hK : KN D cI cN s) (hA : ∀ q : Nat, s.heap.size ≤ q → A q) {r : OS} {n : OS} {r0 : Int32} {r' : OS} {n' : OS} (hret : ∀ (H : Heap) (locs : List Loc) (ls : Array Slot) (pc : Nat), decode cX3_repack pc = .ok (.ireturn, 1) → narrow .int (.int r0) = .int r0 → va_P D vwCl ((rtW cI t r') ++ (nwW cI q n')) H → va_D A ((rtW cI t r') ++ (nwW cI q n')) → va_S A s.heap H locs → W p l e (headSpec wsX3_repack rm_X3_repack).room s m args below meth c H locs 0 0 Q (F0 m pc ls [.int r0])) (hf : fX3_repack r n = some (r0, r', n')) (H : Heap) (locs : List Loc) (ls : Array Slot) (hP : va_P D vwCl ((rtW cI t r) ++ (nwW cI q n)) H) (hD : va_D A ((rtW cI t r) ++ (nwW cI q n))) (hS : va_S A s.heap H locs) (hl : lv_has ls 5 [(0, .ref (t 0)), (1, .ref (q 0))]) : W p l e (headSpec wsX3_repack rm_X3_repack).room s m args below meth c H locs 0 0 Q (F0 m 0 ls []) := by
  obtain ⟨hx, hb, hml, hown, hts⟩ := id S
  have inX1 := in_X3_repack_X1
  have inX3 := in_X3_repack_X3
  unfold fX3_repack at hf
  refine lv_aload_n hx hb dX3_repack_0 rfl (lv_at hl 1 rfl) ?_
  obtain ⟨v1, hv1, hf⟩ := it_b hf
  refine cQi (As := []) (rest := []) (q0 := 5) (ci := 1) S (c_X1_countCalls l D cI cN q _ n v1 hv1) (cwV 0 hts gX3_repack_X1_countCalls rfl rfl rfl (by decide +kernel) ⟨Nat.le_of_ble_eq_true rfl, Nat.le_of_ble_eq_true rfl⟩) hK hP hS hA (P_sel [(false, (rtW cI t r), (rtW cI t r)), (true, (nwW cI q n), (nwW cI q n))] hP) rfl rfl rfl hl.1 rfl (Nat.le_of_ble_eq_true rfl) dX3_repack_1 ⟨Nat.zero_le _, Nat.zero_le _⟩ (fun H locs hP hS => ?_)
  refine lv_if_ne (tgt := 10) hx hb dX3_repack_4 (by decide) (fun c2 => ?_) (fun c2 => ?_)
  · have hf := it_f hf c2
    refine lv_aload_n hx hb dX3_repack_10 rfl (lv_at hl 1 rfl) ?_
    refine va_get (D := D) (ci := 1) (v := .int (n.1 3)) (C := RX1) (T := TX1) (N := 16) hx hb hts inX1 hown hK.1 hP 5 rfl rfl 3 (by decide) (hts (.fieldLink RX3 61 "ClosExchange$Network" "service" "I") (List.mem_of_getElem? (i := 1) rfl)) (fun _ h9 => h9) rfl dX3_repack_11 ?_
    refine lv_istore_n (lv' := [(2, .int (n.1 3)), (0, .ref (t 0)), (1, .ref (q 0))]) hx hb dX3_repack_14 rfl hl (by decide) rfl (fun ls hl => ?_)
    refine lv_aload_n hx hb dX3_repack_15 rfl (lv_at hl 2 rfl) ?_
    refine va_get (D := D) (ci := 1) (v := .int (n.1 9)) (C := RX1) (T := TX1) (N := 16) hx hb hts inX1 hown hK.1 hP 5 rfl rfl 9 (by decide) (hts (.fieldLink RX3 87 "ClosExchange$Network" "moved" "I") (List.mem_of_getElem? (i := 2) rfl)) (fun _ h9 => h9) rfl dX3_repack_16 ?_
    refine lv_istore_n (lv' := [(3, .int (n.1 9)), (2, .int (n.1 3)), (0, .ref (t 0)), (1, .ref (q 0))]) hx hb dX3_repack_19 rfl hl (by decide) rfl (fun ls hl => ?_)
    refine lv_aload_n hx hb dX3_repack_20 rfl (lv_at hl 3 rfl) ?_
    refine lv_iload_n hx hb dX3_repack_21 rfl (lv_at hl 1 rfl) ?_
    refine lv_aload_n hx hb dX3_repack_22 rfl (lv_at hl 3 rfl) ?_
    obtain ⟨v3, hv3, hf⟩ := it_b hf
    refine cQi (As := []) (rest := [.int (n.1 3), .ref (q 0)]) (q0 := 5) (ci := 1) S (c_X1_fullestBoard l D cI cN q _ n v3 hv3) (cwV 0 hts gX3_repack_X1_fullestBoard rfl rfl rfl (by decide +kernel) ⟨Nat.le_of_ble_eq_true rfl, Nat.le_of_ble_eq_true rfl⟩) hK hP hS hA (P_sel [(false, (rtW cI t r), (rtW cI t r)), (true, (nwW cI q n), (nwW cI q n))] hP) rfl rfl rfl hl.1 rfl (Nat.le_of_ble_eq_true rfl) dX3_repack_23 ⟨Nat.zero_le _, Nat.zero_le _⟩ (fun H locs hP hS => ?_)
    obtain ⟨v4, hv4, hf⟩ := it_b hf
    refine cSi (As := [.int (n.1 3), .int v3]) (rest := [.ref (q 0)]) S (c_X3_lowestBits l D cI cN _ (n.1 3) v3 v4 hv4) (va_cwS 2 hts gX3_repack_X3_lowestBits rfl rfl rfl (by decide +kernel) ⟨Nat.le_of_ble_eq_true rfl, Nat.le_of_ble_eq_true rfl⟩) hK hP hS hA [] rfl rfl hl.1 rfl (Nat.le_of_ble_eq_true rfl) dX3_repack_26 ⟨Nat.zero_le _, Nat.zero_le _⟩ (fun H locs hP hS => ?_)
    refine gput (D := D) (ci := 1) (v := .int v4) (ty := .int) (C := RX1) (T := TX1) (N := 16) (wf := ((rtW cI t r) ++ (nwW cI q (setF n 3 v4)))) hx hb hts inX1 tyX1 tyX1_ok nmX1 hown hK.1 hP hD hS 5 rfl rfl 3 (by decide) (hts (.fieldLink RX3 61 "ClosExchange$Network" "service" "I") (List.mem_of_getElem? (i := 1) rfl)) (fun _ h9 => h9) rfl (by decide +kernel) rfl rfl (Nat.le_of_ble_eq_true rfl) dX3_repack_29 rfl (fun H locs hP hD hS => ?_)
    refine lv_aload_n hx hb dX3_repack_32 rfl (lv_at hl 2 rfl) ?_
    refine va_get (D := D) (ci := 3) (v := .ref (t 2)) (C := RX3) (T := TX3) (N := 5) hx hb hts inX3 hown hK.1 hP 0 rfl rfl 4 (by decide) (hts (.fieldLink RX3 20 "ClosExchange$Router" "formerVias" "LClosExchange$Row;") (List.mem_of_getElem? (i := 3) rfl)) (fun _ h9 => h9) rfl dX3_repack_33 ?_
    refine lv_aload_n hx hb dX3_repack_36 rfl (lv_at hl 3 rfl) ?_
    refine va_get (D := D) (ci := 1) (v := .ref (q 3)) (C := RX1) (T := TX1) (N := 16) hx hb hts inX1 hown hK.1 hP 5 rfl rfl 12 (by decide) (hts (.fieldLink RX3 68 "ClosExchange$Network" "vias" "LClosExchange$Row;") (List.mem_of_getElem? (i := 4) rfl)) (fun _ h9 => h9) rfl dX3_repack_37 ?_
    refine cRc (rest := []) (i0 := 2) (i1 := 4) (j0 := 8) (j1 := 14) (wf := ((rtW cI t (setR r 1 (n.2 2))) ++ (nwW cI q (setF n 3 v4)))) S (c_X4_copyFrom l D cI cN (t 2) (t 4) (q 3) (q 9) 48 (Nat.le_of_ble_eq_true rfl) _ (r.2 1) (n.2 2)) (cwV 1 hts gX3_repack_X4_copyFrom rfl rfl rfl (by decide +kernel) ⟨Nat.le_of_ble_eq_true rfl, Nat.le_of_ble_eq_true rfl⟩) hK hP hD hS hA rfl rfl rfl rfl rfl (by decide) rfl hl.1 rfl (Nat.le_of_ble_eq_true rfl) dX3_repack_40 ⟨Nat.zero_le _, Nat.zero_le _⟩ (fun H locs hP hD hS => ?_)
    refine lv_iconst (v := (0 : Int32)) hx hb dX3_repack_43 kc_iconst_0 ?_
    refine lv_istore (lv' := [(4, .int (0 : Int32)), (3, .int (n.1 9)), (2, .int (n.1 3)), (0, .ref (t 0)), (1, .ref (q 0))]) hx hb dX3_repack_44 hl (by decide) rfl (fun ls hl => ?_)
    exact w_X3_repack_46 S hK hA hret _ _ _ hf H locs ls hP hD hS (lv_sub hl [3, 4, 2, 1, 0] rfl)
  · have hf := it_t hf c2
    refine lv_bipush (v := (-6 : Int32)) hx hb dX3_repack_7 kc_bipush_m6 ?_
    have e0 : (-6 : Int32) = r0 := congrArg (fun z => z.1) (Option.some.inj hf)
    have e1 : r = r' := congrArg (fun z => z.2.1) (Option.some.inj hf)
    have e2 : n = n' := congrArg (fun z => z.2.2) (Option.some.inj hf)
    subst e0
    subst e1
    subst e2
    exact hret H locs ls _ dX3_repack_9 rfl hP hD hS
set_option maxRecDepth 100000 in
theorem c_X3_repack (l : Launch) (D : va_G) (cI cN : ClassId) (t : Nat → Nat) (q : Nat → Nat) (sz : Nat) (r : OS) (n : OS) (r0 : Int32) (r' : OS) (n' : OS) (hf : fX3_repack r n = some (r0, r', n')) : CtI l D cI cN yX3_repack wsX3_repack rm_X3_repack 0 0 [.ref (t 0), .ref (q 0)] ((rtW cI t r) ++ (nwW cI q n)) sz r0 ((rtW cI t r') ++ (nwW cI q n')) := by
  refine mW (cc := cX3_repack) (maxL := 5) (ty := .int) (by decide) rfl rfl (Nat.le_of_ble_eq_true rfl) ?_
  intro p e s m args below meth c Q A S hK hP hD hS hA hret ls hl
  exact w_X3_repack_0 S hK hA hret hf _ _ _ hP hD hS (lv_sub (show lv_has ls 5 [(0, .ref (t 0)), (1, .ref (q 0))] from hl) [0, 1] rfl)
