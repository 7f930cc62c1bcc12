theorem dflt_X0 : ∀ j, j < 3 → defaultValue (tyX0 j) = vp_V [.null, .int 0, .int 0] j := by decide +kernel
theorem dflt_X1 : ∀ j, j < 16 → defaultValue (tyX1 j) = vp_V [.int 0, .int 0, .int 0, .int 0, .int 0, .int 0, .int 0, .int 0, .int 0, .int 0, .null, .null, .null, .null, .null, .null] j := by decide +kernel
theorem dflt_X2 : ∀ j, j < 6 → defaultValue (tyX2 j) = vp_V [.null, .int 0, .int 0, .int 0, .int 0, .int 0] j := by decide +kernel
theorem dflt_X3 : ∀ j, j < 5 → defaultValue (tyX3 j) = vp_V [.null, .int 0, .int 0, .int 0, .null] j := by decide +kernel
theorem dflt_X4 : ∀ j, j < 1 → defaultValue (tyX4 j) = vp_V [.null] j := by decide +kernel
theorem dflt_X5 : ∀ j, j < 8 → defaultValue (tyX5 j) = vp_V [.null, .null, .null, .null, .null, .null, .null, .int 0] j := by decide +kernel
theorem in_X4_init_X4 : ∀ w ∈ u_ws RX4 TX4 1, w ∈ wsX4_init := fun w h => List.mem_cons_of_mem _ (List.mem_append_right _ h)
theorem in_X1_init_X1 : ∀ w ∈ u_ws RX1 TX1 16, w ∈ wsX1_init := fun w h => List.mem_cons_of_mem _ (List.mem_append_left _ (List.mem_append_right _ h))
theorem in_X1_init_X4 : ∀ w ∈ u_ws RX4 TX4 1, w ∈ wsX1_init := fun w h => List.mem_cons_of_mem _ (List.mem_append_right _ h)
theorem in_X2_init_X2 : ∀ w ∈ u_ws RX2 TX2 6, w ∈ wsX2_init := fun w h => List.mem_cons_of_mem _ (List.mem_append_right _ h)
theorem in_X2_init_X4 : ∀ w ∈ u_ws RX4 TX4 1, w ∈ wsX2_init := fun w h => List.mem_cons_of_mem _ (List.mem_append_left _ (List.mem_append_right _ h))
theorem in_X3_init_X3 : ∀ w ∈ u_ws RX3 TX3 5, w ∈ wsX3_init := fun w h => List.mem_cons_of_mem _ (List.mem_append_right _ h)
theorem in_X3_init_X4 : ∀ w ∈ u_ws RX4 TX4 1, w ∈ wsX3_init := fun w h => List.mem_cons_of_mem _ (List.mem_append_left _ (List.mem_append_right _ h))
theorem in_X0_init_X0 : ∀ w ∈ u_ws RX0 TX0 3, w ∈ wsX0_init := fun w h => List.mem_cons_of_mem _ (List.mem_append_left _ (List.mem_append_left _ (List.mem_append_right _ h)))
theorem in_X0_init_X1 : ∀ w ∈ u_ws RX1 TX1 16, w ∈ wsX0_init := fun w h => List.mem_cons_of_mem _ (List.mem_append_left _ (List.mem_append_right _ h))
theorem in_X5_init_X5 : ∀ w ∈ u_ws RX5 TX5 8, w ∈ wsX5_init := fun w h => List.mem_cons_of_mem _ (List.mem_append_left _ (List.mem_append_left _ (List.mem_append_left _ (List.mem_append_left _ (List.mem_append_right _ h)))))
theorem in_X5_init_X1 : ∀ w ∈ u_ws RX1 TX1 16, w ∈ wsX5_init := fun w h => List.mem_cons_of_mem _ (List.mem_append_left _ (List.mem_append_left _ (List.mem_append_left _ (List.mem_append_left _ (List.mem_append_left _ (List.mem_append_right _ h))))))
theorem in_X5_init_X3 : ∀ w ∈ u_ws RX3 TX3 5, w ∈ wsX5_init := fun w h => List.mem_cons_of_mem _ (List.mem_append_left _ (List.mem_append_left _ (List.mem_append_left _ (List.mem_append_right _ h))))
theorem in_X5_init_X0 : ∀ w ∈ u_ws RX0 TX0 3, w ∈ wsX5_init := fun w h => List.mem_cons_of_mem _ (List.mem_append_left _ (List.mem_append_left _ (List.mem_append_right _ h)))
theorem in_X5_init_X2 : ∀ w ∈ u_ws RX2 TX2 6, w ∈ wsX5_init := fun w h => List.mem_cons_of_mem _ (List.mem_append_left _ (List.mem_append_right _ h))
abbrev rm_X4_init (L : Nat) : Room := { frames := 1, cells := 1, slots := L, locals := 30 }
set_option maxRecDepth 100000 in
set_option maxHeartbeats 4000000 in
theorem c_X4_init (l : Launch) (D : va_G) (cI cN : ClassId) (a L : Nat) (hL : L ≤ 1000) (sz : Nat) : CtN l D cI cN yX4_init wsX4_init (rm_X4_init L) 1 L Nat [.ref a, .int (nI L)] [(a, .inr (4, [.null]))] sz (fun _ => True) (fun b => rwW cI a b L rowN) := by
  refine mN (cc := cX4_init) (maxL := 2) (by decide) rfl (Nat.le_of_ble_eq_true rfl) ?_
  intro p e s m args below meth c Q A S hname hK hO hP hD hS hA hret ls hl
  obtain ⟨hx, hb, hml, hown, hts⟩ := id S
  have hl : lv_has ls 2 [(0, .ref a), (1, .int (nI L))] := hl
  have inX4 := in_X4_init_X4
  refine lv_aload_n hx hb dX4_init_0 rfl (lv_at hl 0 rfl) ?_
  refine W.objInit hx hb hown (hts (.methodLink RX4 3 objectInit) (List.mem_of_getElem? (i := 1) rfl)) (hts (.instanceMethod objectInit) (List.mem_of_getElem? (i := 2) rfl)) (hts _ (List.mem_of_getElem? (i := 3) rfl)) rfl (by rw [hml]; exact hl.1) rfl dX4_init_1 (Nat.le_of_ble_eq_true rfl) (Nat.le_of_ble_eq_true rfl) ?_
  refine W.eq (g2 := F0 m 4 ls []) rfl ?_
  refine lv_aload_n hx hb dX4_init_4 rfl (lv_at hl 0 rfl) ?_
  refine lv_iload_n hx hb dX4_init_5 rfl (lv_at hl 1 rfl) ?_
  refine lv_iconst (v := (0 : Int32)) hx hb dX4_init_6 kc_iconst_0 ?_
  refine va_mmax hx hb (hml.trans hl.1.symm) hown (hts (.methodLink RX4 9 Lib.Math.max.name) (List.mem_of_getElem? (i := 4) rfl)) (hts (.static Lib.Math.max.name) (List.mem_of_getElem? (i := 5) rfl)) (hts (.initialized "java/lang/Math") (List.mem_of_getElem? (i := 6) rfl)) (hts (.code Lib.Math.max.name Lib.Math.max.code 2 (some .int)) (List.mem_of_getElem? (i := 7) rfl)) (Nat.le_of_ble_eq_true rfl) (Nat.le_of_ble_eq_true rfl) (Nat.zero_le _) (Nat.zero_le _) dX4_init_7 ?_
  rw [if_neg (nI_pos (n := L) (by omega))]
  refine va_newa (atype := .int) (ty := .int) (a0 := (L, .inl (fun _ => (0 : Int32)))) (N' := L) hx hb (hts (.arrayClass .int) (List.mem_of_getElem? (i := 8) rfl)) rfl hK.1 hP hD hS hA (fun cA => rfl) (nI_pos (n := L) (by omega)) (nI_clamp (n := L) (by omega)) (by show L * 4 ≤ 536870912; omega) (Nat.le_refl 1) (by show 0 + L ≤ L; omega) dX4_init_10 (fun b cA H hK2 hP hD hS => ?_)
  obtain rfl : cA = cI := cA_int hK.1 hK2
  refine W.widen (k := 1) (n := L) (Nat.le_refl 1) (by omega) ?_
  refine gputF (D := D) (ci := 4) (v := .ref b) (ty := .array .int) (C := RX4) (T := TX4) (N := 1) (wf := rwW cA a b L (fun _ => (0 : Int32))) hx hb hts inX4 tyX4 tyX4_ok nmX4 hown hK.1 hP hD hS 0 rfl rfl 0 (by decide) (hts (.fieldLink RX4 15 "ClosExchange$Row" "cells" "[I") (List.mem_of_getElem? (i := 9) rfl)) (fun _ h9 => h9) rfl hname rfl (by decide +kernel) rfl rfl (Nat.le_of_ble_eq_true rfl) dX4_init_12 rfl (fun H locs hP hD hS => ?_)
  refine lv_aload_n hx hb dX4_init_15 rfl (lv_at hl 0 rfl) ?_
  refine va_get (D := D) (ci := 4) (v := .ref b) (C := RX4) (T := TX4) (N := 1) hx hb hts inX4 hown hK.1 hP 0 rfl rfl 0 (by decide) (hts (.fieldLink RX4 15 "ClosExchange$Row" "cells" "[I") (List.mem_of_getElem? (i := 9) rfl)) (fun _ h9 => h9) rfl dX4_init_16 ?_
  refine lv_bipush (v := (-6 : Int32)) hx hb dX4_init_19 kc_bipush_m6 ?_
  refine cSv (As := [.ref b, .int (-6 : Int32)]) (rest := []) (wr := pickW (rwW cA a b L (fun _ => (0 : Int32))) [0]) (wf := rwW cA a b L rowN) S (c_J7_fill l D cA cN b L (by omega) _ (fun _ => (0 : Int32)) (-6)) (va_cwS 2 hts gX4_init_J7_fill_53178 rfl rfl rfl (by decide +kernel) ⟨Nat.le_of_ble_eq_true rfl, Nat.le_of_ble_eq_true rfl⟩) hK hP hD hS hA [1] [0] [0, 1] rfl rfl rfl rfl (by decide) rfl rfl rfl hl.1 rfl (Nat.le_of_ble_eq_true rfl) dX4_init_21 ⟨Nat.le_refl 1, Nat.le_refl L⟩ (fun H locs hP hD hS => ?_)
  exact hret b _ _ ls _ trivial dX4_init_24 hP hD hS
def net0 : OS := (fun k => if k = 0 then (4 : Int32) else if k = 1 then (3 : Int32) else if k = 2 then (3 : Int32) else if k = 3 then (7 : Int32) else (0 : Int32), fun _ => rowN)
abbrev rm_X1_init : Room := { frames := 2, cells := 12, slots := 326, locals := 51 }
set_option maxRecDepth 100000 in
set_option maxHeartbeats 4000000 in
theorem c_X1_init (l : Launch) (D : va_G) (cI cN : ClassId) (h0 : Nat) (sz : Nat) : CtN l D cI cN yX1_init wsX1_init rm_X1_init 12 326 (Nat → Nat) [.ref h0] [(h0, .inr (1, [.int 0, .int 0, .int 0, .int 0, .int 0, .int 0, .int 0, .int 0, .int 0, .int 0, .null, .null, .null, .null, .null, .null]))] sz (fun q => q 0 = h0) (fun q => nwW cI q net0) := by
  refine mN (cc := cX1_init) (maxL := 1) (by decide) rfl (Nat.le_of_ble_eq_true rfl) ?_
  intro p e s m args below meth c Q A S hname hK hO hP hD hS hA hret ls hl
  obtain ⟨hx, hb, hml, hown, hts⟩ := id S
  have hl : lv_has ls 1 [(0, .ref h0)] := hl
  have inX1 := in_X1_init_X1
  have inX4 := in_X1_init_X4
  refine lv_aload_n hx hb dX1_init_0 rfl (lv_at hl 0 rfl) ?_
  refine W.objInit hx hb hown (hts (.methodLink RX1 3 objectInit) (List.mem_of_getElem? (i := 1) rfl)) (hts (.instanceMethod objectInit) (List.mem_of_getElem? (i := 2) rfl)) (hts _ (List.mem_of_getElem? (i := 3) rfl)) rfl (by rw [hml]; exact hl.1) rfl dX1_init_1 (Nat.le_of_ble_eq_true rfl) (Nat.le_of_ble_eq_true rfl) ?_
  refine W.eq (g2 := F0 m 4 ls []) rfl ?_
  refine lv_aload_n hx hb dX1_init_4 rfl (lv_at hl 0 rfl) ?_
  refine lv_iconst (v := (4 : Int32)) hx hb dX1_init_5 kc_iconst_4 ?_
  refine gput (D := D) (ci := 1) (v := .int (4 : Int32)) (ty := .int) (C := RX1) (T := TX1) (N := 16) (wf := [(h0, .inr (1, [.int (4 : Int32), .int 0, .int 0, .int 0, .int 0, .int 0, .int 0, .int 0, .int 0, .int 0, .null, .null, .null, .null, .null, .null]))]) hx hb hts inX1 tyX1 tyX1_ok nmX1 hown hK.1 hP hD hS 0 rfl rfl 0 (by decide) (hts (.fieldLink RX1 9 "ClosExchange$Network" "boards" "I") (List.mem_of_getElem? (i := 4) rfl)) (fun _ h9 => h9) rfl (by decide +kernel) rfl rfl (Nat.le_of_ble_eq_true rfl) dX1_init_6 rfl (fun H locs hP hD hS => ?_)
  refine lv_aload_n hx hb dX1_init_9 rfl (lv_at hl 0 rfl) ?_
  refine lv_iconst (v := (3 : Int32)) hx hb dX1_init_10 kc_iconst_3 ?_
  refine gput (D := D) (ci := 1) (v := .int (3 : Int32)) (ty := .int) (C := RX1) (T := TX1) (N := 16) (wf := [(h0, .inr (1, [.int (4 : Int32), .int (3 : Int32), .int 0, .int 0, .int 0, .int 0, .int 0, .int 0, .int 0, .int 0, .null, .null, .null, .null, .null, .null]))]) hx hb hts inX1 tyX1 tyX1_ok nmX1 hown hK.1 hP hD hS 0 rfl rfl 1 (by decide) (hts (.fieldLink RX1 15 "ClosExchange$Network" "lines" "I") (List.mem_of_getElem? (i := 5) rfl)) (fun _ h9 => h9) rfl (by decide +kernel) rfl rfl (Nat.le_of_ble_eq_true rfl) dX1_init_11 rfl (fun H locs hP hD hS => ?_)
  refine lv_aload_n hx hb dX1_init_14 rfl (lv_at hl 0 rfl) ?_
  refine lv_iconst (v := (3 : Int32)) hx hb dX1_init_15 kc_iconst_3 ?_
  refine gput (D := D) (ci := 1) (v := .int (3 : Int32)) (ty := .int) (C := RX1) (T := TX1) (N := 16) (wf := [(h0, .inr (1, [.int (4 : Int32), .int (3 : Int32), .int (3 : Int32), .int 0, .int 0, .int 0, .int 0, .int 0, .int 0, .int 0, .null, .null, .null, .null, .null, .null]))]) hx hb hts inX1 tyX1 tyX1_ok nmX1 hown hK.1 hP hD hS 0 rfl rfl 2 (by decide) (hts (.fieldLink RX1 18 "ClosExchange$Network" "middles" "I") (List.mem_of_getElem? (i := 6) rfl)) (fun _ h9 => h9) rfl (by decide +kernel) rfl rfl (Nat.le_of_ble_eq_true rfl) dX1_init_16 rfl (fun H locs hP hD hS => ?_)
  refine lv_aload_n hx hb dX1_init_19 rfl (lv_at hl 0 rfl) ?_
  refine lv_bipush (v := (7 : Int32)) hx hb dX1_init_20 kc_bipush_7 ?_
  refine gput (D := D) (ci := 1) (v := .int (7 : Int32)) (ty := .int) (C := RX1) (T := TX1) (N := 16) (wf := [(h0, .inr (1, [.int (4 : Int32), .int (3 : Int32), .int (3 : Int32), .int (7 : Int32), .int 0, .int 0, .int 0, .int 0, .int 0, .int 0, .null, .null, .null, .null, .null, .null]))]) hx hb hts inX1 tyX1 tyX1_ok nmX1 hown hK.1 hP hD hS 0 rfl rfl 3 (by decide) (hts (.fieldLink RX1 21 "ClosExchange$Network" "service" "I") (List.mem_of_getElem? (i := 7) rfl)) (fun _ h9 => h9) rfl (by decide +kernel) rfl rfl (Nat.le_of_ble_eq_true rfl) dX1_init_22 rfl (fun H locs hP hD hS => ?_)
  refine lv_aload_n hx hb dX1_init_25 rfl (lv_at hl 0 rfl) ?_
  refine va_new (ci := 4) (fs := [.null]) (C := RX4) (T := TX4) (N := 1) hx hb hts inX4 tyX4 tyX4_ok hown (hts (.classLink RX1 24 RX4) (List.mem_of_getElem? (i := 8) rfl)) (hts (.instantiable RX4 1) (List.mem_of_getElem? (i := 9) rfl)) (hts (.initialized RX4) (List.mem_of_getElem? (i := 10) rfl)) hK.1 hP hD hS hA rfl (fun j hj => by exact dflt_X4 j hj) (Nat.le_of_ble_eq_true rfl) (Nat.le_of_ble_eq_true rfl) dX1_init_26 (fun q1 H hP hD hS => ?_)
  refine W.widen (k := 1) (n := 1) (Nat.le_of_ble_eq_true rfl) (Nat.le_of_ble_eq_true rfl) ?_
  refine lv_dup hx hb dX1_init_29 rfl ?_
  refine lv_bipush (v := (48 : Int32)) hx hb dX1_init_30 kc_bipush_48 ?_
  refine cIx (pre := [(h0, .inr (1, [.int (4 : Int32), .int (3 : Int32), .int (3 : Int32), .int (7 : Int32), .int 0, .int 0, .int 0, .int 0, .int 0, .int 0, .null, .null, .null, .null, .null, .null]))]) (As := [.int ((48 : Int32))]) (rest := [.ref q1, .ref h0]) S (c_X4_init l D cI cN q1 48 (by decide) _) (cwI 1 hts gX1_init_X4_init rfl rfl rfl (hts (.initialized RX4) (List.mem_of_getElem? (i := 10) rfl)) (hts (.methodLink RX1 26 yX4_init) (List.mem_of_getElem? (i := 17) rfl)) (hts (.instanceMethod yX4_init) (List.mem_of_getElem? (i := 18) rfl)) rfl (by decide +kernel) ⟨Nat.le_of_ble_eq_true rfl, Nat.le_of_ble_eq_true rfl⟩) hK hO hP hD hS hA rfl hl.1 rfl (Nat.le_of_ble_eq_true rfl) dX1_init_32 ⟨Nat.le_of_ble_eq_true rfl, Nat.le_of_ble_eq_true rfl⟩ (fun b1 H locs hpp hP hD hS => ?_)
  refine W.widen (k := 2) (n := 49) (Nat.le_of_ble_eq_true rfl) (Nat.le_of_ble_eq_true rfl) ?_
  refine gputF (D := D) (ci := 1) (v := .ref q1) (ty := .object "ClosExchange$Row") (C := RX1) (T := TX1) (N := 16) (wf := ([(h0, .inr (1, [.int (4 : Int32), .int (3 : Int32), .int (3 : Int32), .int (7 : Int32), .int 0, .int 0, .int 0, .int 0, .int 0, .int 0, .ref q1, .null, .null, .null, .null, .null]))] ++ (rwW cI q1 b1 48 rowN))) hx hb hts inX1 tyX1 tyX1_ok nmX1 hown hK.1 hP hD hS 0 rfl rfl 10 (by decide) (hts (.fieldLink RX1 29 "ClosExchange$Network" "numbers" "LClosExchange$Row;") (List.mem_of_getElem? (i := 11) rfl)) (fun _ h9 => h9) rfl hname rfl (by decide +kernel) rfl rfl (Nat.le_of_ble_eq_true rfl) dX1_init_35 rfl (fun H locs hP hD hS => ?_)
  refine lv_aload_n hx hb dX1_init_38 rfl (lv_at hl 0 rfl) ?_
  refine va_new (ci := 4) (fs := [.null]) (C := RX4) (T := TX4) (N := 1) hx hb hts inX4 tyX4 tyX4_ok hown (hts (.classLink RX1 24 RX4) (List.mem_of_getElem? (i := 8) rfl)) (hts (.instantiable RX4 1) (List.mem_of_getElem? (i := 9) rfl)) (hts (.initialized RX4) (List.mem_of_getElem? (i := 10) rfl)) hK.1 hP hD hS hA rfl (fun j hj => by exact dflt_X4 j hj) (Nat.le_of_ble_eq_true rfl) (Nat.le_of_ble_eq_true rfl) dX1_init_39 (fun q2 H hP hD hS => ?_)
  refine W.widen (k := 3) (n := 50) (Nat.le_of_ble_eq_true rfl) (Nat.le_of_ble_eq_true rfl) ?_
  refine lv_dup hx hb dX1_init_42 rfl ?_
  refine lv_bipush (v := (48 : Int32)) hx hb dX1_init_43 kc_bipush_48 ?_
  refine cIx (pre := ([(h0, .inr (1, [.int (4 : Int32), .int (3 : Int32), .int (3 : Int32), .int (7 : Int32), .int 0, .int 0, .int 0, .int 0, .int 0, .int 0, .ref q1, .null, .null, .null, .null, .null]))] ++ (rwW cI q1 b1 48 rowN))) (As := [.int ((48 : Int32))]) (rest := [.ref q2, .ref h0]) S (c_X4_init l D cI cN q2 48 (by decide) _) (cwI 1 hts gX1_init_X4_init rfl rfl rfl (hts (.initialized RX4) (List.mem_of_getElem? (i := 10) rfl)) (hts (.methodLink RX1 26 yX4_init) (List.mem_of_getElem? (i := 17) rfl)) (hts (.instanceMethod yX4_init) (List.mem_of_getElem? (i := 18) rfl)) rfl (by decide +kernel) ⟨Nat.le_of_ble_eq_true rfl, Nat.le_of_ble_eq_true rfl⟩) hK hO hP hD hS hA rfl hl.1 rfl (Nat.le_of_ble_eq_true rfl) dX1_init_45 ⟨Nat.le_of_ble_eq_true rfl, Nat.le_of_ble_eq_true rfl⟩ (fun b2 H locs hpp hP hD hS => ?_)
  refine W.widen (k := 4) (n := 98) (Nat.le_of_ble_eq_true rfl) (Nat.le_of_ble_eq_true rfl) ?_
  refine gputF (D := D) (ci := 1) (v := .ref q2) (ty := .object "ClosExchange$Row") (C := RX1) (T := TX1) (N := 16) (wf := (([(h0, .inr (1, [.int (4 : Int32), .int (3 : Int32), .int (3 : Int32), .int (7 : Int32), .int 0, .int 0, .int 0, .int 0, .int 0, .int 0, .ref q1, .ref q2, .null, .null, .null, .null]))] ++ (rwW cI q1 b1 48 rowN)) ++ (rwW cI q2 b2 48 rowN))) hx hb hts inX1 tyX1 tyX1_ok nmX1 hown hK.1 hP hD hS 0 rfl rfl 11 (by decide) (hts (.fieldLink RX1 33 "ClosExchange$Network" "outlets" "LClosExchange$Row;") (List.mem_of_getElem? (i := 12) rfl)) (fun _ h9 => h9) rfl hname rfl (by decide +kernel) rfl rfl (Nat.le_of_ble_eq_true rfl) dX1_init_48 rfl (fun H locs hP hD hS => ?_)
  refine lv_aload_n hx hb dX1_init_51 rfl (lv_at hl 0 rfl) ?_
  refine va_new (ci := 4) (fs := [.null]) (C := RX4) (T := TX4) (N := 1) hx hb hts inX4 tyX4 tyX4_ok hown (hts (.classLink RX1 24 RX4) (List.mem_of_getElem? (i := 8) rfl)) (hts (.instantiable RX4 1) (List.mem_of_getElem? (i := 9) rfl)) (hts (.initialized RX4) (List.mem_of_getElem? (i := 10) rfl)) hK.1 hP hD hS hA rfl (fun j hj => by exact dflt_X4 j hj) (Nat.le_of_ble_eq_true rfl) (Nat.le_of_ble_eq_true rfl) dX1_init_52 (fun q3 H hP hD hS => ?_)
  refine W.widen (k := 5) (n := 99) (Nat.le_of_ble_eq_true rfl) (Nat.le_of_ble_eq_true rfl) ?_
  refine lv_dup hx hb dX1_init_55 rfl ?_
  refine lv_bipush (v := (48 : Int32)) hx hb dX1_init_56 kc_bipush_48 ?_
  refine cIx (pre := (([(h0, .inr (1, [.int (4 : Int32), .int (3 : Int32), .int (3 : Int32), .int (7 : Int32), .int 0, .int 0, .int 0, .int 0, .int 0, .int 0, .ref q1, .ref q2, .null, .null, .null, .null]))] ++ (rwW cI q1 b1 48 rowN)) ++ (rwW cI q2 b2 48 rowN))) (As := [.int ((48 : Int32))]) (rest := [.ref q3, .ref h0]) S (c_X4_init l D cI cN q3 48 (by decide) _) (cwI 1 hts gX1_init_X4_init rfl rfl rfl (hts (.initialized RX4) (List.mem_of_getElem? (i := 10) rfl)) (hts (.methodLink RX1 26 yX4_init) (List.mem_of_getElem? (i := 17) rfl)) (hts (.instanceMethod yX4_init) (List.mem_of_getElem? (i := 18) rfl)) rfl (by decide +kernel) ⟨Nat.le_of_ble_eq_true rfl, Nat.le_of_ble_eq_true rfl⟩) hK hO hP hD hS hA rfl hl.1 rfl (Nat.le_of_ble_eq_true rfl) dX1_init_58 ⟨Nat.le_of_ble_eq_true rfl, Nat.le_of_ble_eq_true rfl⟩ (fun b3 H locs hpp hP hD hS => ?_)
  refine W.widen (k := 6) (n := 147) (Nat.le_of_ble_eq_true rfl) (Nat.le_of_ble_eq_true rfl) ?_
  refine gputF (D := D) (ci := 1) (v := .ref q3) (ty := .object "ClosExchange$Row") (C := RX1) (T := TX1) (N := 16) (wf := ((([(h0, .inr (1, [.int (4 : Int32), .int (3 : Int32), .int (3 : Int32), .int (7 : Int32), .int 0, .int 0, .int 0, .int 0, .int 0, .int 0, .ref q1, .ref q2, .ref q3, .null, .null, .null]))] ++ (rwW cI q1 b1 48 rowN)) ++ (rwW cI q2 b2 48 rowN)) ++ (rwW cI q3 b3 48 rowN))) hx hb hts inX1 tyX1 tyX1_ok nmX1 hown hK.1 hP hD hS 0 rfl rfl 12 (by decide) (hts (.fieldLink RX1 36 "ClosExchange$Network" "vias" "LClosExchange$Row;") (List.mem_of_getElem? (i := 13) rfl)) (fun _ h9 => h9) rfl hname rfl (by decide +kernel) rfl rfl (Nat.le_of_ble_eq_true rfl) dX1_init_61 rfl (fun H locs hP hD hS => ?_)
  refine lv_aload_n hx hb dX1_init_64 rfl (lv_at hl 0 rfl) ?_
  refine va_new (ci := 4) (fs := [.null]) (C := RX4) (T := TX4) (N := 1) hx hb hts inX4 tyX4 tyX4_ok hown (hts (.classLink RX1 24 RX4) (List.mem_of_getElem? (i := 8) rfl)) (hts (.instantiable RX4 1) (List.mem_of_getElem? (i := 9) rfl)) (hts (.initialized RX4) (List.mem_of_getElem? (i := 10) rfl)) hK.1 hP hD hS hA rfl (fun j hj => by exact dflt_X4 j hj) (Nat.le_of_ble_eq_true rfl) (Nat.le_of_ble_eq_true rfl) dX1_init_65 (fun q4 H hP hD hS => ?_)
  refine W.widen (k := 7) (n := 148) (Nat.le_of_ble_eq_true rfl) (Nat.le_of_ble_eq_true rfl) ?_
  refine lv_dup hx hb dX1_init_68 rfl ?_
  refine lv_bipush (v := (48 : Int32)) hx hb dX1_init_69 kc_bipush_48 ?_
  refine cIx (pre := ((([(h0, .inr (1, [.int (4 : Int32), .int (3 : Int32), .int (3 : Int32), .int (7 : Int32), .int 0, .int 0, .int 0, .int 0, .int 0, .int 0, .ref q1, .ref q2, .ref q3, .null, .null, .null]))] ++ (rwW cI q1 b1 48 rowN)) ++ (rwW cI q2 b2 48 rowN)) ++ (rwW cI q3 b3 48 rowN))) (As := [.int ((48 : Int32))]) (rest := [.ref q4, .ref h0]) S (c_X4_init l D cI cN q4 48 (by decide) _) (cwI 1 hts gX1_init_X4_init rfl rfl rfl (hts (.initialized RX4) (List.mem_of_getElem? (i := 10) rfl)) (hts (.methodLink RX1 26 yX4_init) (List.mem_of_getElem? (i := 17) rfl)) (hts (.instanceMethod yX4_init) (List.mem_of_getElem? (i := 18) rfl)) rfl (by decide +kernel) ⟨Nat.le_of_ble_eq_true rfl, Nat.le_of_ble_eq_true rfl⟩) hK hO hP hD hS hA rfl hl.1 rfl (Nat.le_of_ble_eq_true rfl) dX1_init_71 ⟨Nat.le_of_ble_eq_true rfl, Nat.le_of_ble_eq_true rfl⟩ (fun b4 H locs hpp hP hD hS => ?_)
  refine W.widen (k := 8) (n := 196) (Nat.le_of_ble_eq_true rfl) (Nat.le_of_ble_eq_true rfl) ?_
  refine gputF (D := D) (ci := 1) (v := .ref q4) (ty := .object "ClosExchange$Row") (C := RX1) (T := TX1) (N := 16) (wf := (((([(h0, .inr (1, [.int (4 : Int32), .int (3 : Int32), .int (3 : Int32), .int (7 : Int32), .int 0, .int 0, .int 0, .int 0, .int 0, .int 0, .ref q1, .ref q2, .ref q3, .ref q4, .null, .null]))] ++ (rwW cI q1 b1 48 rowN)) ++ (rwW cI q2 b2 48 rowN)) ++ (rwW cI q3 b3 48 rowN)) ++ (rwW cI q4 b4 48 rowN))) hx hb hts inX1 tyX1 tyX1_ok nmX1 hown hK.1 hP hD hS 0 rfl rfl 13 (by decide) (hts (.fieldLink RX1 39 "ClosExchange$Network" "inlets" "LClosExchange$Row;") (List.mem_of_getElem? (i := 14) rfl)) (fun _ h9 => h9) rfl hname rfl (by decide +kernel) rfl rfl (Nat.le_of_ble_eq_true rfl) dX1_init_74 rfl (fun H locs hP hD hS => ?_)
  refine lv_aload_n hx hb dX1_init_77 rfl (lv_at hl 0 rfl) ?_
  refine va_new (ci := 4) (fs := [.null]) (C := RX4) (T := TX4) (N := 1) hx hb hts inX4 tyX4 tyX4_ok hown (hts (.classLink RX1 24 RX4) (List.mem_of_getElem? (i := 8) rfl)) (hts (.instantiable RX4 1) (List.mem_of_getElem? (i := 9) rfl)) (hts (.initialized RX4) (List.mem_of_getElem? (i := 10) rfl)) hK.1 hP hD hS hA rfl (fun j hj => by exact dflt_X4 j hj) (Nat.le_of_ble_eq_true rfl) (Nat.le_of_ble_eq_true rfl) dX1_init_78 (fun q5 H hP hD hS => ?_)
  refine W.widen (k := 9) (n := 197) (Nat.le_of_ble_eq_true rfl) (Nat.le_of_ble_eq_true rfl) ?_
  refine lv_dup hx hb dX1_init_81 rfl ?_
  refine lv_bipush (v := (64 : Int32)) hx hb dX1_init_82 kc_bipush_64 ?_
  refine cIx (pre := (((([(h0, .inr (1, [.int (4 : Int32), .int (3 : Int32), .int (3 : Int32), .int (7 : Int32), .int 0, .int 0, .int 0, .int 0, .int 0, .int 0, .ref q1, .ref q2, .ref q3, .ref q4, .null, .null]))] ++ (rwW cI q1 b1 48 rowN)) ++ (rwW cI q2 b2 48 rowN)) ++ (rwW cI q3 b3 48 rowN)) ++ (rwW cI q4 b4 48 rowN))) (As := [.int ((64 : Int32))]) (rest := [.ref q5, .ref h0]) S (c_X4_init l D cI cN q5 64 (by decide) _) (cwI 1 hts gX1_init_X4_init rfl rfl rfl (hts (.initialized RX4) (List.mem_of_getElem? (i := 10) rfl)) (hts (.methodLink RX1 26 yX4_init) (List.mem_of_getElem? (i := 17) rfl)) (hts (.instanceMethod yX4_init) (List.mem_of_getElem? (i := 18) rfl)) rfl (by decide +kernel) ⟨Nat.le_of_ble_eq_true rfl, Nat.le_of_ble_eq_true rfl⟩) hK hO hP hD hS hA rfl hl.1 rfl (Nat.le_of_ble_eq_true rfl) dX1_init_84 ⟨Nat.le_of_ble_eq_true rfl, Nat.le_of_ble_eq_true rfl⟩ (fun b5 H locs hpp hP hD hS => ?_)
  refine W.widen (k := 10) (n := 261) (Nat.le_of_ble_eq_true rfl) (Nat.le_of_ble_eq_true rfl) ?_
  refine gputF (D := D) (ci := 1) (v := .ref q5) (ty := .object "ClosExchange$Row") (C := RX1) (T := TX1) (N := 16) (wf := ((((([(h0, .inr (1, [.int (4 : Int32), .int (3 : Int32), .int (3 : Int32), .int (7 : Int32), .int 0, .int 0, .int 0, .int 0, .int 0, .int 0, .ref q1, .ref q2, .ref q3, .ref q4, .ref q5, .null]))] ++ (rwW cI q1 b1 48 rowN)) ++ (rwW cI q2 b2 48 rowN)) ++ (rwW cI q3 b3 48 rowN)) ++ (rwW cI q4 b4 48 rowN)) ++ (rwW cI q5 b5 64 rowN))) hx hb hts inX1 tyX1 tyX1_ok nmX1 hown hK.1 hP hD hS 0 rfl rfl 14 (by decide) (hts (.fieldLink RX1 42 "ClosExchange$Network" "firstLinks" "LClosExchange$Row;") (List.mem_of_getElem? (i := 15) rfl)) (fun _ h9 => h9) rfl hname rfl (by decide +kernel) rfl rfl (Nat.le_of_ble_eq_true rfl) dX1_init_87 rfl (fun H locs hP hD hS => ?_)
  refine lv_aload_n hx hb dX1_init_90 rfl (lv_at hl 0 rfl) ?_
  refine va_new (ci := 4) (fs := [.null]) (C := RX4) (T := TX4) (N := 1) hx hb hts inX4 tyX4 tyX4_ok hown (hts (.classLink RX1 24 RX4) (List.mem_of_getElem? (i := 8) rfl)) (hts (.instantiable RX4 1) (List.mem_of_getElem? (i := 9) rfl)) (hts (.initialized RX4) (List.mem_of_getElem? (i := 10) rfl)) hK.1 hP hD hS hA rfl (fun j hj => by exact dflt_X4 j hj) (Nat.le_of_ble_eq_true rfl) (Nat.le_of_ble_eq_true rfl) dX1_init_91 (fun q6 H hP hD hS => ?_)
  refine W.widen (k := 11) (n := 262) (Nat.le_of_ble_eq_true rfl) (Nat.le_of_ble_eq_true rfl) ?_
  refine lv_dup hx hb dX1_init_94 rfl ?_
  refine lv_bipush (v := (64 : Int32)) hx hb dX1_init_95 kc_bipush_64 ?_
  refine cIx (pre := ((((([(h0, .inr (1, [.int (4 : Int32), .int (3 : Int32), .int (3 : Int32), .int (7 : Int32), .int 0, .int 0, .int 0, .int 0, .int 0, .int 0, .ref q1, .ref q2, .ref q3, .ref q4, .ref q5, .null]))] ++ (rwW cI q1 b1 48 rowN)) ++ (rwW cI q2 b2 48 rowN)) ++ (rwW cI q3 b3 48 rowN)) ++ (rwW cI q4 b4 48 rowN)) ++ (rwW cI q5 b5 64 rowN))) (As := [.int ((64 : Int32))]) (rest := [.ref q6, .ref h0]) S (c_X4_init l D cI cN q6 64 (by decide) _) (cwI 1 hts gX1_init_X4_init rfl rfl rfl (hts (.initialized RX4) (List.mem_of_getElem? (i := 10) rfl)) (hts (.methodLink RX1 26 yX4_init) (List.mem_of_getElem? (i := 17) rfl)) (hts (.instanceMethod yX4_init) (List.mem_of_getElem? (i := 18) rfl)) rfl (by decide +kernel) ⟨Nat.le_of_ble_eq_true rfl, Nat.le_of_ble_eq_true rfl⟩) hK hO hP hD hS hA rfl hl.1 rfl (Nat.le_of_ble_eq_true rfl) dX1_init_97 ⟨Nat.le_of_ble_eq_true rfl, Nat.le_of_ble_eq_true rfl⟩ (fun b6 H locs hpp hP hD hS => ?_)
  refine W.widen (k := 12) (n := 326) (Nat.le_of_ble_eq_true rfl) (Nat.le_of_ble_eq_true rfl) ?_
  refine gputF (D := D) (ci := 1) (v := .ref q6) (ty := .object "ClosExchange$Row") (C := RX1) (T := TX1) (N := 16) (wf := (((((([(h0, .inr (1, [.int (4 : Int32), .int (3 : Int32), .int (3 : Int32), .int (7 : Int32), .int 0, .int 0, .int 0, .int 0, .int 0, .int 0, .ref q1, .ref q2, .ref q3, .ref q4, .ref q5, .ref q6]))] ++ (rwW cI q1 b1 48 rowN)) ++ (rwW cI q2 b2 48 rowN)) ++ (rwW cI q3 b3 48 rowN)) ++ (rwW cI q4 b4 48 rowN)) ++ (rwW cI q5 b5 64 rowN)) ++ (rwW cI q6 b6 64 rowN))) hx hb hts inX1 tyX1 tyX1_ok nmX1 hown hK.1 hP hD hS 0 rfl rfl 15 (by decide) (hts (.fieldLink RX1 45 "ClosExchange$Network" "lastLinks" "LClosExchange$Row;") (List.mem_of_getElem? (i := 16) rfl)) (fun _ h9 => h9) rfl hname rfl (by decide +kernel) rfl rfl (Nat.le_of_ble_eq_true rfl) dX1_init_100 rfl (fun H locs hP hD hS => ?_)
  have hP9 := hP.sub (ws' := nwW cI (fun k => [h0, q1, q2, q3, q4, q5, q6, b1, b2, b3, b4, b5, b6].getD k 0) net0) [0, 1, 3, 5, 7, 9, 11, 2, 4, 6, 8, 10, 12] rfl
  have hD9 := hD.sub (ws' := nwW cI (fun k => [h0, q1, q2, q3, q4, q5, q6, b1, b2, b3, b4, b5, b6].getD k 0) net0) [0, 1, 3, 5, 7, 9, 11, 2, 4, 6, 8, 10, 12] rfl rfl
  exact hret _ H locs ls _ rfl dX1_init_103 hP9 hD9 hS
def txt0 : OS := (fun _ => (0 : Int32), fun _ => rowN)
abbrev rm_X2_init : Room := { frames := 2, cells := 2, slots := 61, locals := 51 }
set_option maxRecDepth 100000 in
set_option maxHeartbeats 4000000 in
theorem c_X2_init (l : Launch) (D : va_G) (cI cN : ClassId) (h0 : Nat) (sz : Nat) : CtN l D cI cN yX2_init wsX2_init rm_X2_init 2 61 (Nat → Nat) [.ref h0] [(h0, .inr (2, [.null, .int 0, .int 0, .int 0, .int 0, .int 0]))] sz (fun q => q 0 = h0) (fun q => txW cI q txt0) := by
  refine mN (cc := cX2_init) (maxL := 1) (by decide) rfl (Nat.le_of_ble_eq_true rfl) ?_
  intro p e s m args below meth c Q A S hname hK hO hP hD hS hA hret ls hl
  obtain ⟨hx, hb, hml, hown, hts⟩ := id S
  have hl : lv_has ls 1 [(0, .ref h0)] := hl
  have inX2 := in_X2_init_X2
  have inX4 := in_X2_init_X4
  refine lv_aload_n hx hb dX2_init_0 rfl (lv_at hl 0 rfl) ?_
  refine W.objInit hx hb hown (hts (.methodLink RX2 3 objectInit) (List.mem_of_getElem? (i := 1) rfl)) (hts (.instanceMethod objectInit) (List.mem_of_getElem? (i := 2) rfl)) (hts _ (List.mem_of_getElem? (i := 3) rfl)) rfl (by rw [hml]; exact hl.1) rfl dX2_init_1 (Nat.le_of_ble_eq_true rfl) (Nat.le_of_ble_eq_true rfl) ?_
  refine W.eq (g2 := F0 m 4 ls []) rfl ?_
  refine lv_aload_n hx hb dX2_init_4 rfl (lv_at hl 0 rfl) ?_
  refine va_new (ci := 4) (fs := [.null]) (C := RX4) (T := TX4) (N := 1) hx hb hts inX4 tyX4 tyX4_ok hown (hts (.classLink RX2 9 RX4) (List.mem_of_getElem? (i := 4) rfl)) (hts (.instantiable RX4 1) (List.mem_of_getElem? (i := 5) rfl)) (hts (.initialized RX4) (List.mem_of_getElem? (i := 6) rfl)) hK.1 hP hD hS hA rfl (fun j hj => by exact dflt_X4 j hj) (Nat.le_of_ble_eq_true rfl) (Nat.le_of_ble_eq_true rfl) dX2_init_5 (fun q1 H hP hD hS => ?_)
  refine W.widen (k := 1) (n := 1) (Nat.le_of_ble_eq_true rfl) (Nat.le_of_ble_eq_true rfl) ?_
  refine lv_dup hx hb dX2_init_8 rfl ?_
  refine lv_bipush (v := (60 : Int32)) hx hb dX2_init_9 kc_bipush_60 ?_
  refine cIx (pre := [(h0, .inr (2, [.null, .int 0, .int 0, .int 0, .int 0, .int 0]))]) (As := [.int ((60 : Int32))]) (rest := [.ref q1, .ref h0]) S (c_X4_init l D cI cN q1 60 (by decide) _) (cwI 1 hts gX2_init_X4_init rfl rfl rfl (hts (.initialized RX4) (List.mem_of_getElem? (i := 6) rfl)) (hts (.methodLink RX2 11 yX4_init) (List.mem_of_getElem? (i := 8) rfl)) (hts (.instanceMethod yX4_init) (List.mem_of_getElem? (i := 9) rfl)) rfl (by decide +kernel) ⟨Nat.le_of_ble_eq_true rfl, Nat.le_of_ble_eq_true rfl⟩) hK hO hP hD hS hA rfl hl.1 rfl (Nat.le_of_ble_eq_true rfl) dX2_init_11 ⟨Nat.le_of_ble_eq_true rfl, Nat.le_of_ble_eq_true rfl⟩ (fun b1 H locs hpp hP hD hS => ?_)
  refine W.widen (k := 2) (n := 61) (Nat.le_of_ble_eq_true rfl) (Nat.le_of_ble_eq_true rfl) ?_
  refine gputF (D := D) (ci := 2) (v := .ref q1) (ty := .object "ClosExchange$Row") (C := RX2) (T := TX2) (N := 6) (wf := ([(h0, .inr (2, [.ref q1, .int 0, .int 0, .int 0, .int 0, .int 0]))] ++ (rwW cI q1 b1 60 rowN))) hx hb hts inX2 tyX2 tyX2_ok nmX2 hown hK.1 hP hD hS 0 rfl rfl 0 (by decide) (hts (.fieldLink RX2 14 "ClosExchange$OrderText" "signs" "LClosExchange$Row;") (List.mem_of_getElem? (i := 7) rfl)) (fun _ h9 => h9) rfl hname rfl (by decide +kernel) rfl rfl (Nat.le_of_ble_eq_true rfl) dX2_init_14 rfl (fun H locs hP hD hS => ?_)
  exact hret (fun k => [h0, q1, b1].getD k 0) H locs ls _ rfl dX2_init_17 hP hD hS
abbrev rm_X3_init : Room := { frames := 2, cells := 4, slots := 66, locals := 51 }
set_option maxRecDepth 100000 in
set_option maxHeartbeats 4000000 in
theorem c_X3_init (l : Launch) (D : va_G) (cI cN : ClassId) (h0 : Nat) (sz : Nat) : CtN l D cI cN yX3_init wsX3_init rm_X3_init 4 66 (Nat → Nat) [.ref h0] [(h0, .inr (3, [.null, .int 0, .int 0, .int 0, .null]))] sz (fun q => q 0 = h0) (fun q => rtW cI q txt0) := by
  refine mN (cc := cX3_init) (maxL := 1) (by decide) rfl (Nat.le_of_ble_eq_true rfl) ?_
  intro p e s m args below meth c Q A S hname hK hO hP hD hS hA hret ls hl
  obtain ⟨hx, hb, hml, hown, hts⟩ := id S
  have hl : lv_has ls 1 [(0, .ref h0)] := hl
  have inX3 := in_X3_init_X3
  have inX4 := in_X3_init_X4
  refine lv_aload_n hx hb dX3_init_0 rfl (lv_at hl 0 rfl) ?_
  refine W.objInit hx hb hown (hts (.methodLink RX3 3 objectInit) (List.mem_of_getElem? (i := 1) rfl)) (hts (.instanceMethod objectInit) (List.mem_of_getElem? (i := 2) rfl)) (hts _ (List.mem_of_getElem? (i := 3) rfl)) rfl (by rw [hml]; exact hl.1) rfl dX3_init_1 (Nat.le_of_ble_eq_true rfl) (Nat.le_of_ble_eq_true rfl) ?_
  refine W.eq (g2 := F0 m 4 ls []) rfl ?_
  refine lv_aload_n hx hb dX3_init_4 rfl (lv_at hl 0 rfl) ?_
  refine va_new (ci := 4) (fs := [.null]) (C := RX4) (T := TX4) (N := 1) hx hb hts inX4 tyX4 tyX4_ok hown (hts (.classLink RX3 9 RX4) (List.mem_of_getElem? (i := 4) rfl)) (hts (.instantiable RX4 1) (List.mem_of_getElem? (i := 5) rfl)) (hts (.initialized RX4) (List.mem_of_getElem? (i := 6) rfl)) hK.1 hP hD hS hA rfl (fun j hj => by exact dflt_X4 j hj) (Nat.le_of_ble_eq_true rfl) (Nat.le_of_ble_eq_true rfl) dX3_init_5 (fun q1 H hP hD hS => ?_)
  refine W.widen (k := 1) (n := 1) (Nat.le_of_ble_eq_true rfl) (Nat.le_of_ble_eq_true rfl) ?_
  refine lv_dup hx hb dX3_init_8 rfl ?_
  refine lv_bipush (v := (16 : Int32)) hx hb dX3_init_9 kc_bipush_16 ?_
  refine cIx (pre := [(h0, .inr (3, [.null, .int 0, .int 0, .int 0, .null]))]) (As := [.int ((16 : Int32))]) (rest := [.ref q1, .ref h0]) S (c_X4_init l D cI cN q1 16 (by decide) _) (cwI 1 hts gX3_init_X4_init rfl rfl rfl (hts (.initialized RX4) (List.mem_of_getElem? (i := 6) rfl)) (hts (.methodLink RX3 11 yX4_init) (List.mem_of_getElem? (i := 9) rfl)) (hts (.instanceMethod yX4_init) (List.mem_of_getElem? (i := 10) rfl)) rfl (by decide +kernel) ⟨Nat.le_of_ble_eq_true rfl, Nat.le_of_ble_eq_true rfl⟩) hK hO hP hD hS hA rfl hl.1 rfl (Nat.le_of_ble_eq_true rfl) dX3_init_11 ⟨Nat.le_of_ble_eq_true rfl, Nat.le_of_ble_eq_true rfl⟩ (fun b1 H locs hpp hP hD hS => ?_)
  refine W.widen (k := 2) (n := 17) (Nat.le_of_ble_eq_true rfl) (Nat.le_of_ble_eq_true rfl) ?_
  refine gputF (D := D) (ci := 3) (v := .ref q1) (ty := .object "ClosExchange$Row") (C := RX3) (T := TX3) (N := 5) (wf := ([(h0, .inr (3, [.ref q1, .int 0, .int 0, .int 0, .null]))] ++ (rwW cI q1 b1 16 rowN))) hx hb hts inX3 tyX3 tyX3_ok nmX3 hown hK.1 hP hD hS 0 rfl rfl 0 (by decide) (hts (.fieldLink RX3 14 "ClosExchange$Router" "chain" "LClosExchange$Row;") (List.mem_of_getElem? (i := 7) rfl)) (fun _ h9 => h9) rfl hname rfl (by decide +kernel) rfl rfl (Nat.le_of_ble_eq_true rfl) dX3_init_14 rfl (fun H locs hP hD hS => ?_)
  refine lv_aload_n hx hb dX3_init_17 rfl (lv_at hl 0 rfl) ?_
  refine va_new (ci := 4) (fs := [.null]) (C := RX4) (T := TX4) (N := 1) hx hb hts inX4 tyX4 tyX4_ok hown (hts (.classLink RX3 9 RX4) (List.mem_of_getElem? (i := 4) rfl)) (hts (.instantiable RX4 1) (List.mem_of_getElem? (i := 5) rfl)) (hts (.initialized RX4) (List.mem_of_getElem? (i := 6) rfl)) hK.1 hP hD hS hA rfl (fun j hj => by exact dflt_X4 j hj) (Nat.le_of_ble_eq_true rfl) (Nat.le_of_ble_eq_true rfl) dX3_init_18 (fun q2 H hP hD hS => ?_)
  refine W.widen (k := 3) (n := 18) (Nat.le_of_ble_eq_true rfl) (Nat.le_of_ble_eq_true rfl) ?_
  refine lv_dup hx hb dX3_init_21 rfl ?_
  refine lv_bipush (v := (48 : Int32)) hx hb dX3_init_22 kc_bipush_48 ?_
  refine cIx (pre := ([(h0, .inr (3, [.ref q1, .int 0, .int 0, .int 0, .null]))] ++ (rwW cI q1 b1 16 rowN))) (As := [.int ((48 : Int32))]) (rest := [.ref q2, .ref h0]) S (c_X4_init l D cI cN q2 48 (by decide) _) (cwI 1 hts gX3_init_X4_init rfl rfl rfl (hts (.initialized RX4) (List.mem_of_getElem? (i := 6) rfl)) (hts (.methodLink RX3 11 yX4_init) (List.mem_of_getElem? (i := 9) rfl)) (hts (.instanceMethod yX4_init) (List.mem_of_getElem? (i := 10) rfl)) rfl (by decide +kernel) ⟨Nat.le_of_ble_eq_true rfl, Nat.le_of_ble_eq_true rfl⟩) hK hO hP hD hS hA rfl hl.1 rfl (Nat.le_of_ble_eq_true rfl) dX3_init_24 ⟨Nat.le_of_ble_eq_true rfl, Nat.le_of_ble_eq_true rfl⟩ (fun b2 H locs hpp hP hD hS => ?_)
  refine W.widen (k := 4) (n := 66) (Nat.le_of_ble_eq_true rfl) (Nat.le_of_ble_eq_true rfl) ?_
  refine gputF (D := D) (ci := 3) (v := .ref q2) (ty := .object "ClosExchange$Row") (C := RX3) (T := TX3) (N := 5) (wf := (([(h0, .inr (3, [.ref q1, .int 0, .int 0, .int 0, .ref q2]))] ++ (rwW cI q1 b1 16 rowN)) ++ (rwW cI q2 b2 48 rowN))) hx hb hts inX3 tyX3 tyX3_ok nmX3 hown hK.1 hP hD hS 0 rfl rfl 4 (by decide) (hts (.fieldLink RX3 20 "ClosExchange$Router" "formerVias" "LClosExchange$Row;") (List.mem_of_getElem? (i := 8) rfl)) (fun _ h9 => h9) rfl hname rfl (by decide +kernel) rfl rfl (Nat.le_of_ble_eq_true rfl) dX3_init_27 rfl (fun H locs hP hD hS => ?_)
  have hP9 := hP.sub (ws' := rtW cI (fun k => [h0, q1, q2, b1, b2].getD k 0) txt0) [0, 1, 3, 2, 4] rfl
  have hD9 := hD.sub (ws' := rtW cI (fun k => [h0, q1, q2, b1, b2].getD k 0) txt0) [0, 1, 3, 2, 4] rfl rfl
  exact hret _ H locs ls _ rfl dX3_init_30 hP9 hD9 hS
