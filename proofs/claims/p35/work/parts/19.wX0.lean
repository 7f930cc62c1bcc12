abbrev rm_X0_latestState : Room := { frames := 0, cells := 0, slots := 0, locals := 0 }
abbrev rm_X0_push : Room := { frames := 4, cells := 0, slots := 0, locals := 100 }
abbrev rm_X0_takeBack : Room := { frames := 4, cells := 0, slots := 0, locals := 100 }
theorem in_X0_latestState_X0 : ∀ w ∈ u_ws RX0 TX0 3, w ∈ wsX0_latestState := fun w h => List.mem_cons_of_mem _ (List.mem_append_right _ h)
theorem in_X0_push_X0 : ∀ w ∈ u_ws RX0 TX0 3, w ∈ wsX0_push := fun w h => List.mem_cons_of_mem _ (List.mem_append_left _ (List.mem_append_left _ (List.mem_append_right _ h)))
theorem in_X0_takeBack_X0 : ∀ w ∈ u_ws RX0 TX0 3, w ∈ wsX0_takeBack := fun w h => List.mem_cons_of_mem _ (List.mem_append_left _ (List.mem_append_left _ (List.mem_append_right _ h)))
set_option maxRecDepth 100000 in
set_option maxHeartbeats 4000000 in
theorem c_X0_latestState (l : Launch) (D : va_G) (cI cN : ClassId) (h : Nat → Nat) (hq : Nat → Nat → Nat) (sz : Nat) (s0 : Nat → Int32) (k : Nat) (hk : k < 4) (hlat : s0 1 = nI k) : CtR l D cI cN yX0_latestState wsX0_latestState rm_X0_latestState [.ref (h 0)] (hdW cN h hq s0) sz (hq k 0) := by
  refine mR (cc := cX0_latestState) (maxL := 1) (C := "ClosExchange$Network") (by decide) rfl rfl (Nat.le_of_ble_eq_true rfl) ?_
  intro p e s m args below meth c Q S hK hP hS hret ls hl
  obtain ⟨hx, hb, hml, hown, hts⟩ := id S
  have hl : lv_has ls 1 [(0, .ref (h 0))] := hl
  have inX0 := in_X0_latestState_X0
  refine lv_aload_n hx hb dX0_latestState_0 rfl (lv_at hl 0 rfl) ?_
  refine va_get (D := D) (ci := 0) (v := .int (s0 1)) (C := RX0) (T := TX0) (N := 3) hx hb hts inX0 hown hK.1 hP 0 rfl rfl 1 (by decide) (hts (.fieldLink RX0 18 "ClosExchange$History" "latest" "I") (List.mem_of_getElem? (i := 1) rfl)) (fun _ h9 => h9) rfl dX0_latestState_1 ?_
  refine lv_if_lt (tgt := 31) hx hb dX0_latestState_4 (by decide) (fun c1 => ?_) (fun c1 => ?_)
  · exact absurd c1 (by rw [hlat]; exact nI_pos (by omega))
  refine lv_aload_n hx hb dX0_latestState_7 rfl (lv_at hl 0 rfl) ?_
  refine va_get (D := D) (ci := 0) (v := .int (s0 1)) (C := RX0) (T := TX0) (N := 3) hx hb hts inX0 hown hK.1 hP 0 rfl rfl 1 (by decide) (hts (.fieldLink RX0 18 "ClosExchange$History" "latest" "I") (List.mem_of_getElem? (i := 1) rfl)) (fun _ h9 => h9) rfl dX0_latestState_8 ?_
  refine lv_aload_n hx hb dX0_latestState_11 rfl (lv_at hl 0 rfl) ?_
  refine va_get (D := D) (ci := 0) (v := .ref (h 1)) (C := RX0) (T := TX0) (N := 3) hx hb hts inX0 hown hK.1 hP 0 rfl rfl 0 (by decide) (hts (.fieldLink RX0 11 "ClosExchange$History" "states" "[LClosExchange$Network;") (List.mem_of_getElem? (i := 2) rfl)) (fun _ h9 => h9) rfl dX0_latestState_12 ?_
  refine va_alen (v := (4 : Int32)) hx hb hK.1 hP 1 1 rfl rfl rfl dX0_latestState_15 ?_
  refine lv_icmp_ge (tgt := 31) hx hb dX0_latestState_16 (by decide) (fun c2 => ?_) (fun c2 => ?_)
  · exact absurd c2 (by rw [hlat]; exact nI_ge (a := k) (b := 4) hk (by decide))
  refine lv_aload_n hx hb dX0_latestState_19 rfl (lv_at hl 0 rfl) ?_
  refine va_get (D := D) (ci := 0) (v := .ref (h 1)) (C := RX0) (T := TX0) (N := 3) hx hb hts inX0 hown hK.1 hP 0 rfl rfl 0 (by decide) (hts (.fieldLink RX0 11 "ClosExchange$History" "states" "[LClosExchange$Network;") (List.mem_of_getElem? (i := 2) rfl)) (fun _ h9 => h9) rfl dX0_latestState_20 ?_
  refine lv_aload_n hx hb dX0_latestState_23 rfl (lv_at hl 0 rfl) ?_
  refine va_get (D := D) (ci := 0) (v := .int (s0 1)) (C := RX0) (T := TX0) (N := 3) hx hb hts inX0 hown hK.1 hP 0 rfl rfl 1 (by decide) (hts (.fieldLink RX0 18 "ClosExchange$History" "latest" "I") (List.mem_of_getElem? (i := 1) rfl)) (fun _ h9 => h9) rfl dX0_latestState_24 ?_
  refine va_aldq hx hb hK.1 hP 1 1 rfl rfl (by rw [hlat]; exact vp_in_nI hk (by omega)) dX0_latestState_27 ?_
  have ev : va_rf ((fun k => some (hq k 0)) (s0 1).toNatClampNeg) = .ref (hq k 0) := by rw [hlat, nI_clamp (by omega)]; rfl
  rw [ev]
  refine lv_goto (tgt := 32) hx hb dX0_latestState_28 (by decide) ?_
  exact hret _ _ ls _ dX0_latestState_32 hS
set_option maxRecDepth 100000 in
set_option maxHeartbeats 4000000 in
theorem c_X0_push_0 (l : Launch) (D : va_G) (cI cN : ClassId) (h : Nat → Nat) (hq : Nat → Nat → Nat) (q : Nat → Nat) (sz : Nat) (s0 : HS) (n : OS) (hlat : s0.1 1 = nI 0) : CtV l D cI cN yX0_push wsX0_push rm_X0_push 0 0 [.ref (h 0), .ref (q 0)] (hiW cI cN h hq s0 ++ nwW cI q n) sz (hiW cI cN h hq (pushK s0 n 1) ++ nwW cI q n) := by
  refine mV (cc := cX0_push) (maxL := 3) (by decide) rfl (Nat.le_of_ble_eq_true rfl) ?_
  intro p e s m args below meth c Q A S _ hK hP hD hS hA hret ls hl
  obtain ⟨hx, hb, hml, hown, hts⟩ := id S
  have hl : lv_has ls 3 [(0, .ref (h 0)), (1, .ref (q 0))] := hl
  have inX0 := in_X0_push_X0
  rw [hi_cat] at hP hD
  refine lv_aload_n hx hb dX0_push_0 rfl (lv_at hl 0 rfl) ?_
  refine lv_aload_n hx hb dX0_push_1 rfl (lv_at hl 0 rfl) ?_
  refine va_get (D := D) (ci := 0) (v := .int (s0.1 1)) (C := RX0) (T := TX0) (N := 3) hx hb hts inX0 hown hK.1 hP 0 rfl rfl 1 (by decide) (hts (.fieldLink RX0 18 "ClosExchange$History" "latest" "I") (List.mem_of_getElem? (i := 1) rfl)) (fun _ h9 => h9) rfl dX0_push_2 ?_
  refine lv_iconst (v := (1 : Int32)) hx hb dX0_push_5 kc_iconst_1 ?_
  refine lv_iadd hx hb dX0_push_6 ?_
  refine lv_iconst (v := (4 : Int32)) hx hb dX0_push_7 kc_iconst_4 ?_
  refine lv_irem hx hb dX0_push_8 (by decide) ?_
  have ej : ((s0.1 1 + (1 : Int32)) - (s0.1 1 + (1 : Int32)) / (4 : Int32) * (4 : Int32)) = nI 1 := by rw [hlat]; decide
  rw [ej]
  refine gput (D := D) (ci := 0) (v := .int (nI 1)) (ty := .int) (C := RX0) (T := TX0) (N := 3) (wf := (hdW cN h hq (upd s0.1 1 (nI 1)) ++ (nwW cI (hq 0) (s0.2 0) ++ (nwW cI (hq 1) (s0.2 1) ++ (nwW cI (hq 2) (s0.2 2) ++ (nwW cI (hq 3) (s0.2 3) ++ nwW cI q (n))))))) hx hb hts inX0 tyX0 tyX0_ok nmX0 hown hK.1 hP hD hS 0 rfl rfl 1 (by decide) (hts (.fieldLink RX0 18 "ClosExchange$History" "latest" "I") (List.mem_of_getElem? (i := 1) rfl)) (fun _ h9 => h9) rfl (by decide +kernel) rfl rfl (Nat.le_of_ble_eq_true rfl) dX0_push_9 rfl (fun H locs hP hD hS => ?_)
  refine lv_aload_n hx hb dX0_push_12 rfl (lv_at hl 0 rfl) ?_
  refine cPr (As := []) (rest := []) (q0 := 0) (ci := 0) S (c_X0_latestState l D cI cN h hq _ (upd s0.1 1 (nI 1)) 1 (by decide) rfl) (cwV 0 hts gX0_push_X0_latestState rfl rfl rfl (by decide +kernel) ⟨Nat.le_of_ble_eq_true rfl, Nat.le_of_ble_eq_true rfl⟩) hK hP hS hA [0, 1] rfl rfl rfl rfl hl.1 rfl (Nat.le_of_ble_eq_true rfl) dX0_push_13 ⟨Nat.zero_le _, Nat.zero_le _⟩ (fun H locs hP hS => ?_)
  refine lv_astore_n (lv' := [(2, .ref (hq 1 0)), (0, .ref (h 0)), (1, .ref (q 0))]) hx hb dX0_push_16 rfl hl (by decide) rfl (fun ls hl => ?_)
  refine lv_aload_n hx hb dX0_push_17 rfl (lv_at hl 0 rfl) ?_
  refine lv_ifnull hx hb dX0_push_18 ?_
  refine lv_aload_n hx hb dX0_push_21 rfl (lv_at hl 0 rfl) ?_
  refine lv_aload_n hx hb dX0_push_22 rfl (lv_at hl 2 rfl) ?_
  refine cBv (As := [.ref (q 0)]) (rest := []) (q0 := 15) (ci := 1) [(false, hdW cN h hq (upd s0.1 1 (nI 1)), hdW cN h hq (upd s0.1 1 (nI 1))), (false, nwW cI (hq 0) (s0.2 0), nwW cI (hq 0) (s0.2 0)), (true, nwW cI (hq 1) (s0.2 1), nwW cI (hq 1) (n)), (false, nwW cI (hq 2) (s0.2 2), nwW cI (hq 2) (s0.2 2)), (false, nwW cI (hq 3) (s0.2 3), nwW cI (hq 3) (s0.2 3)), (true, nwW cI q (n), nwW cI q (n))] ⟨rfl, (fun _ => rfl), rfl, (fun _ => rfl), ad_net, (fun h => Bool.noConfusion h), rfl, (fun _ => rfl), rfl, (fun _ => rfl), ad_net, (fun h => Bool.noConfusion h), trivial⟩ S (c_X1_copyFrom l D cI cN (hq 1) q _ (s0.2 1) n) (cwV 1 hts gX0_push_X1_copyFrom rfl rfl rfl (by decide +kernel) ⟨Nat.le_of_ble_eq_true rfl, Nat.le_of_ble_eq_true rfl⟩) hK hP hD hS hA rfl rfl rfl hl.1 rfl (Nat.le_of_ble_eq_true rfl) dX0_push_23 ⟨Nat.zero_le _, Nat.zero_le _⟩ (fun H locs hP hD hS => ?_)
  refine lv_aload_n hx hb dX0_push_26 rfl (lv_at hl 1 rfl) ?_
  refine lv_aload_n hx hb dX0_push_27 rfl (lv_at hl 1 rfl) ?_
  refine va_get (D := D) (ci := 0) (v := .int (s0.1 2)) (C := RX0) (T := TX0) (N := 3) hx hb hts inX0 hown hK.1 hP 0 rfl rfl 2 (by decide) (hts (.fieldLink RX0 30 "ClosExchange$History" "count" "I") (List.mem_of_getElem? (i := 2) rfl)) (fun _ h9 => h9) rfl dX0_push_28 ?_
  refine lv_iconst (v := (1 : Int32)) hx hb dX0_push_31 kc_iconst_1 ?_
  refine lv_iadd hx hb dX0_push_32 ?_
  refine lv_iconst (v := (4 : Int32)) hx hb dX0_push_33 kc_iconst_4 ?_
  refine va_mmin hx hb (hml.trans hl.1.symm) hown (hts (.methodLink RX0 33 Lib.Math.min.name) (List.mem_of_getElem? (i := 3) rfl)) (hts (.static Lib.Math.min.name) (List.mem_of_getElem? (i := 4) rfl)) (hts (.initialized "java/lang/Math") (List.mem_of_getElem? (i := 5) rfl)) (hts (.code Lib.Math.min.name Lib.Math.min.code 2 (some .int)) (List.mem_of_getElem? (i := 6) rfl)) (Nat.le_of_ble_eq_true rfl) (Nat.le_of_ble_eq_true rfl) (Nat.zero_le _) (Nat.zero_le _) dX0_push_34 ?_
  obtain ⟨w, hw⟩ : ∃ w, w = (if (4 : Int32) < (s0.1 2 + (1 : Int32)) then (4 : Int32) else (s0.1 2 + (1 : Int32))) := ⟨_, rfl⟩
  rw [← hw]
  refine gput (D := D) (ci := 0) (v := .int w) (ty := .int) (C := RX0) (T := TX0) (N := 3) (wf := (hdW cN h hq (upd (upd s0.1 1 (nI 1)) 2 w) ++ (nwW cI (hq 0) (s0.2 0) ++ (nwW cI (hq 1) (n) ++ (nwW cI (hq 2) (s0.2 2) ++ (nwW cI (hq 3) (s0.2 3) ++ nwW cI q (n))))))) hx hb hts inX0 tyX0 tyX0_ok nmX0 hown hK.1 hP hD hS 0 rfl rfl 2 (by decide) (hts (.fieldLink RX0 30 "ClosExchange$History" "count" "I") (List.mem_of_getElem? (i := 2) rfl)) (fun _ h9 => h9) rfl (by decide +kernel) rfl rfl (Nat.le_of_ble_eq_true rfl) dX0_push_37 rfl (fun H locs hP hD hS => ?_)
  have hpk : pushK s0 n 1 = ((upd (upd s0.1 1 (nI 1)) 2 w), fun i => if i = 1 then n else s0.2 i) := by rw [hw]; rfl
  rw [hpk, hi_cat] at hret
  exact hret H locs ls _ dX0_push_40 hP hD hS
set_option maxRecDepth 100000 in
set_option maxHeartbeats 4000000 in
theorem c_X0_push_1 (l : Launch) (D : va_G) (cI cN : ClassId) (h : Nat → Nat) (hq : Nat → Nat → Nat) (q : Nat → Nat) (sz : Nat) (s0 : HS) (n : OS) (hlat : s0.1 1 = nI 1) : CtV l D cI cN yX0_push wsX0_push rm_X0_push 0 0 [.ref (h 0), .ref (q 0)] (hiW cI cN h hq s0 ++ nwW cI q n) sz (hiW cI cN h hq (pushK s0 n 2) ++ nwW cI q n) := by
  refine mV (cc := cX0_push) (maxL := 3) (by decide) rfl (Nat.le_of_ble_eq_true rfl) ?_
  intro p e s m args below meth c Q A S _ hK hP hD hS hA hret ls hl
  obtain ⟨hx, hb, hml, hown, hts⟩ := id S
  have hl : lv_has ls 3 [(0, .ref (h 0)), (1, .ref (q 0))] := hl
  have inX0 := in_X0_push_X0
  rw [hi_cat] at hP hD
  refine lv_aload_n hx hb dX0_push_0 rfl (lv_at hl 0 rfl) ?_
  refine lv_aload_n hx hb dX0_push_1 rfl (lv_at hl 0 rfl) ?_
  refine va_get (D := D) (ci := 0) (v := .int (s0.1 1)) (C := RX0) (T := TX0) (N := 3) hx hb hts inX0 hown hK.1 hP 0 rfl rfl 1 (by decide) (hts (.fieldLink RX0 18 "ClosExchange$History" "latest" "I") (List.mem_of_getElem? (i := 1) rfl)) (fun _ h9 => h9) rfl dX0_push_2 ?_
  refine lv_iconst (v := (1 : Int32)) hx hb dX0_push_5 kc_iconst_1 ?_
  refine lv_iadd hx hb dX0_push_6 ?_
  refine lv_iconst (v := (4 : Int32)) hx hb dX0_push_7 kc_iconst_4 ?_
  refine lv_irem hx hb dX0_push_8 (by decide) ?_
  have ej : ((s0.1 1 + (1 : Int32)) - (s0.1 1 + (1 : Int32)) / (4 : Int32) * (4 : Int32)) = nI 2 := by rw [hlat]; decide
  rw [ej]
  refine gput (D := D) (ci := 0) (v := .int (nI 2)) (ty := .int) (C := RX0) (T := TX0) (N := 3) (wf := (hdW cN h hq (upd s0.1 1 (nI 2)) ++ (nwW cI (hq 0) (s0.2 0) ++ (nwW cI (hq 1) (s0.2 1) ++ (nwW cI (hq 2) (s0.2 2) ++ (nwW cI (hq 3) (s0.2 3) ++ nwW cI q (n))))))) hx hb hts inX0 tyX0 tyX0_ok nmX0 hown hK.1 hP hD hS 0 rfl rfl 1 (by decide) (hts (.fieldLink RX0 18 "ClosExchange$History" "latest" "I") (List.mem_of_getElem? (i := 1) rfl)) (fun _ h9 => h9) rfl (by decide +kernel) rfl rfl (Nat.le_of_ble_eq_true rfl) dX0_push_9 rfl (fun H locs hP hD hS => ?_)
  refine lv_aload_n hx hb dX0_push_12 rfl (lv_at hl 0 rfl) ?_
  refine cPr (As := []) (rest := []) (q0 := 0) (ci := 0) S (c_X0_latestState l D cI cN h hq _ (upd s0.1 1 (nI 2)) 2 (by decide) rfl) (cwV 0 hts gX0_push_X0_latestState rfl rfl rfl (by decide +kernel) ⟨Nat.le_of_ble_eq_true rfl, Nat.le_of_ble_eq_true rfl⟩) hK hP hS hA [0, 1] rfl rfl rfl rfl hl.1 rfl (Nat.le_of_ble_eq_true rfl) dX0_push_13 ⟨Nat.zero_le _, Nat.zero_le _⟩ (fun H locs hP hS => ?_)
  refine lv_astore_n (lv' := [(2, .ref (hq 2 0)), (0, .ref (h 0)), (1, .ref (q 0))]) hx hb dX0_push_16 rfl hl (by decide) rfl (fun ls hl => ?_)
  refine lv_aload_n hx hb dX0_push_17 rfl (lv_at hl 0 rfl) ?_
  refine lv_ifnull hx hb dX0_push_18 ?_
  refine lv_aload_n hx hb dX0_push_21 rfl (lv_at hl 0 rfl) ?_
  refine lv_aload_n hx hb dX0_push_22 rfl (lv_at hl 2 rfl) ?_
  refine cBv (As := [.ref (q 0)]) (rest := []) (q0 := 28) (ci := 1) [(false, hdW cN h hq (upd s0.1 1 (nI 2)), hdW cN h hq (upd s0.1 1 (nI 2))), (false, nwW cI (hq 0) (s0.2 0), nwW cI (hq 0) (s0.2 0)), (false, nwW cI (hq 1) (s0.2 1), nwW cI (hq 1) (s0.2 1)), (true, nwW cI (hq 2) (s0.2 2), nwW cI (hq 2) (n)), (false, nwW cI (hq 3) (s0.2 3), nwW cI (hq 3) (s0.2 3)), (true, nwW cI q (n), nwW cI q (n))] ⟨rfl, (fun _ => rfl), rfl, (fun _ => rfl), rfl, (fun _ => rfl), ad_net, (fun h => Bool.noConfusion h), rfl, (fun _ => rfl), ad_net, (fun h => Bool.noConfusion h), trivial⟩ S (c_X1_copyFrom l D cI cN (hq 2) q _ (s0.2 2) n) (cwV 1 hts gX0_push_X1_copyFrom rfl rfl rfl (by decide +kernel) ⟨Nat.le_of_ble_eq_true rfl, Nat.le_of_ble_eq_true rfl⟩) hK hP hD hS hA rfl rfl rfl hl.1 rfl (Nat.le_of_ble_eq_true rfl) dX0_push_23 ⟨Nat.zero_le _, Nat.zero_le _⟩ (fun H locs hP hD hS => ?_)
  refine lv_aload_n hx hb dX0_push_26 rfl (lv_at hl 1 rfl) ?_
  refine lv_aload_n hx hb dX0_push_27 rfl (lv_at hl 1 rfl) ?_
  refine va_get (D := D) (ci := 0) (v := .int (s0.1 2)) (C := RX0) (T := TX0) (N := 3) hx hb hts inX0 hown hK.1 hP 0 rfl rfl 2 (by decide) (hts (.fieldLink RX0 30 "ClosExchange$History" "count" "I") (List.mem_of_getElem? (i := 2) rfl)) (fun _ h9 => h9) rfl dX0_push_28 ?_
  refine lv_iconst (v := (1 : Int32)) hx hb dX0_push_31 kc_iconst_1 ?_
  refine lv_iadd hx hb dX0_push_32 ?_
  refine lv_iconst (v := (4 : Int32)) hx hb dX0_push_33 kc_iconst_4 ?_
  refine va_mmin hx hb (hml.trans hl.1.symm) hown (hts (.methodLink RX0 33 Lib.Math.min.name) (List.mem_of_getElem? (i := 3) rfl)) (hts (.static Lib.Math.min.name) (List.mem_of_getElem? (i := 4) rfl)) (hts (.initialized "java/lang/Math") (List.mem_of_getElem? (i := 5) rfl)) (hts (.code Lib.Math.min.name Lib.Math.min.code 2 (some .int)) (List.mem_of_getElem? (i := 6) rfl)) (Nat.le_of_ble_eq_true rfl) (Nat.le_of_ble_eq_true rfl) (Nat.zero_le _) (Nat.zero_le _) dX0_push_34 ?_
  obtain ⟨w, hw⟩ : ∃ w, w = (if (4 : Int32) < (s0.1 2 + (1 : Int32)) then (4 : Int32) else (s0.1 2 + (1 : Int32))) := ⟨_, rfl⟩
  rw [← hw]
  refine gput (D := D) (ci := 0) (v := .int w) (ty := .int) (C := RX0) (T := TX0) (N := 3) (wf := (hdW cN h hq (upd (upd s0.1 1 (nI 2)) 2 w) ++ (nwW cI (hq 0) (s0.2 0) ++ (nwW cI (hq 1) (s0.2 1) ++ (nwW cI (hq 2) (n) ++ (nwW cI (hq 3) (s0.2 3) ++ nwW cI q (n))))))) hx hb hts inX0 tyX0 tyX0_ok nmX0 hown hK.1 hP hD hS 0 rfl rfl 2 (by decide) (hts (.fieldLink RX0 30 "ClosExchange$History" "count" "I") (List.mem_of_getElem? (i := 2) rfl)) (fun _ h9 => h9) rfl (by decide +kernel) rfl rfl (Nat.le_of_ble_eq_true rfl) dX0_push_37 rfl (fun H locs hP hD hS => ?_)
  have hpk : pushK s0 n 2 = ((upd (upd s0.1 1 (nI 2)) 2 w), fun i => if i = 2 then n else s0.2 i) := by rw [hw]; rfl
  rw [hpk, hi_cat] at hret
  exact hret H locs ls _ dX0_push_40 hP hD hS
set_option maxRecDepth 100000 in
set_option maxHeartbeats 4000000 in
theorem c_X0_push_2 (l : Launch) (D : va_G) (cI cN : ClassId) (h : Nat → Nat) (hq : Nat → Nat → Nat) (q : Nat → Nat) (sz : Nat) (s0 : HS) (n : OS) (hlat : s0.1 1 = nI 2) : CtV l D cI cN yX0_push wsX0_push rm_X0_push 0 0 [.ref (h 0), .ref (q 0)] (hiW cI cN h hq s0 ++ nwW cI q n) sz (hiW cI cN h hq (pushK s0 n 3) ++ nwW cI q n) := by
  refine mV (cc := cX0_push) (maxL := 3) (by decide) rfl (Nat.le_of_ble_eq_true rfl) ?_
  intro p e s m args below meth c Q A S _ hK hP hD hS hA hret ls hl
  obtain ⟨hx, hb, hml, hown, hts⟩ := id S
  have hl : lv_has ls 3 [(0, .ref (h 0)), (1, .ref (q 0))] := hl
  have inX0 := in_X0_push_X0
  rw [hi_cat] at hP hD
  refine lv_aload_n hx hb dX0_push_0 rfl (lv_at hl 0 rfl) ?_
  refine lv_aload_n hx hb dX0_push_1 rfl (lv_at hl 0 rfl) ?_
  refine va_get (D := D) (ci := 0) (v := .int (s0.1 1)) (C := RX0) (T := TX0) (N := 3) hx hb hts inX0 hown hK.1 hP 0 rfl rfl 1 (by decide) (hts (.fieldLink RX0 18 "ClosExchange$History" "latest" "I") (List.mem_of_getElem? (i := 1) rfl)) (fun _ h9 => h9) rfl dX0_push_2 ?_
  refine lv_iconst (v := (1 : Int32)) hx hb dX0_push_5 kc_iconst_1 ?_
  refine lv_iadd hx hb dX0_push_6 ?_
  refine lv_iconst (v := (4 : Int32)) hx hb dX0_push_7 kc_iconst_4 ?_
  refine lv_irem hx hb dX0_push_8 (by decide) ?_
  have ej : ((s0.1 1 + (1 : Int32)) - (s0.1 1 + (1 : Int32)) / (4 : Int32) * (4 : Int32)) = nI 3 := by rw [hlat]; decide
  rw [ej]
  refine gput (D := D) (ci := 0) (v := .int (nI 3)) (ty := .int) (C := RX0) (T := TX0) (N := 3) (wf := (hdW cN h hq (upd s0.1 1 (nI 3)) ++ (nwW cI (hq 0) (s0.2 0) ++ (nwW cI (hq 1) (s0.2 1) ++ (nwW cI (hq 2) (s0.2 2) ++ (nwW cI (hq 3) (s0.2 3) ++ nwW cI q (n))))))) hx hb hts inX0 tyX0 tyX0_ok nmX0 hown hK.1 hP hD hS 0 rfl rfl 1 (by decide) (hts (.fieldLink RX0 18 "ClosExchange$History" "latest" "I") (List.mem_of_getElem? (i := 1) rfl)) (fun _ h9 => h9) rfl (by decide +kernel) rfl rfl (Nat.le_of_ble_eq_true rfl) dX0_push_9 rfl (fun H locs hP hD hS => ?_)
  refine lv_aload_n hx hb dX0_push_12 rfl (lv_at hl 0 rfl) ?_
  refine cPr (As := []) (rest := []) (q0 := 0) (ci := 0) S (c_X0_latestState l D cI cN h hq _ (upd s0.1 1 (nI 3)) 3 (by decide) rfl) (cwV 0 hts gX0_push_X0_latestState rfl rfl rfl (by decide +kernel) ⟨Nat.le_of_ble_eq_true rfl, Nat.le_of_ble_eq_true rfl⟩) hK hP hS hA [0, 1] rfl rfl rfl rfl hl.1 rfl (Nat.le_of_ble_eq_true rfl) dX0_push_13 ⟨Nat.zero_le _, Nat.zero_le _⟩ (fun H locs hP hS => ?_)
  refine lv_astore_n (lv' := [(2, .ref (hq 3 0)), (0, .ref (h 0)), (1, .ref (q 0))]) hx hb dX0_push_16 rfl hl (by decide) rfl (fun ls hl => ?_)
  refine lv_aload_n hx hb dX0_push_17 rfl (lv_at hl 0 rfl) ?_
  refine lv_ifnull hx hb dX0_push_18 ?_
  refine lv_aload_n hx hb dX0_push_21 rfl (lv_at hl 0 rfl) ?_
  refine lv_aload_n hx hb dX0_push_22 rfl (lv_at hl 2 rfl) ?_
  refine cBv (As := [.ref (q 0)]) (rest := []) (q0 := 41) (ci := 1) [(false, hdW cN h hq (upd s0.1 1 (nI 3)), hdW cN h hq (upd s0.1 1 (nI 3))), (false, nwW cI (hq 0) (s0.2 0), nwW cI (hq 0) (s0.2 0)), (false, nwW cI (hq 1) (s0.2 1), nwW cI (hq 1) (s0.2 1)), (false, nwW cI (hq 2) (s0.2 2), nwW cI (hq 2) (s0.2 2)), (true, nwW cI (hq 3) (s0.2 3), nwW cI (hq 3) (n)), (true, nwW cI q (n), nwW cI q (n))] ⟨rfl, (fun _ => rfl), rfl, (fun _ => rfl), rfl, (fun _ => rfl), rfl, (fun _ => rfl), ad_net, (fun h => Bool.noConfusion h), ad_net, (fun h => Bool.noConfusion h), trivial⟩ S (c_X1_copyFrom l D cI cN (hq 3) q _ (s0.2 3) n) (cwV 1 hts gX0_push_X1_copyFrom rfl rfl rfl (by decide +kernel) ⟨Nat.le_of_ble_eq_true rfl, Nat.le_of_ble_eq_true rfl⟩) hK hP hD hS hA rfl rfl rfl hl.1 rfl (Nat.le_of_ble_eq_true rfl) dX0_push_23 ⟨Nat.zero_le _, Nat.zero_le _⟩ (fun H locs hP hD hS => ?_)
  refine lv_aload_n hx hb dX0_push_26 rfl (lv_at hl 1 rfl) ?_
  refine lv_aload_n hx hb dX0_push_27 rfl (lv_at hl 1 rfl) ?_
  refine va_get (D := D) (ci := 0) (v := .int (s0.1 2)) (C := RX0) (T := TX0) (N := 3) hx hb hts inX0 hown hK.1 hP 0 rfl rfl 2 (by decide) (hts (.fieldLink RX0 30 "ClosExchange$History" "count" "I") (List.mem_of_getElem? (i := 2) rfl)) (fun _ h9 => h9) rfl dX0_push_28 ?_
  refine lv_iconst (v := (1 : Int32)) hx hb dX0_push_31 kc_iconst_1 ?_
  refine lv_iadd hx hb dX0_push_32 ?_
  refine lv_iconst (v := (4 : Int32)) hx hb dX0_push_33 kc_iconst_4 ?_
  refine va_mmin hx hb (hml.trans hl.1.symm) hown (hts (.methodLink RX0 33 Lib.Math.min.name) (List.mem_of_getElem? (i := 3) rfl)) (hts (.static Lib.Math.min.name) (List.mem_of_getElem? (i := 4) rfl)) (hts (.initialized "java/lang/Math") (List.mem_of_getElem? (i := 5) rfl)) (hts (.code Lib.Math.min.name Lib.Math.min.code 2 (some .int)) (List.mem_of_getElem? (i := 6) rfl)) (Nat.le_of_ble_eq_true rfl) (Nat.le_of_ble_eq_true rfl) (Nat.zero_le _) (Nat.zero_le _) dX0_push_34 ?_
  obtain ⟨w, hw⟩ : ∃ w, w = (if (4 : Int32) < (s0.1 2 + (1 : Int32)) then (4 : Int32) else (s0.1 2 + (1 : Int32))) := ⟨_, rfl⟩
  rw [← hw]
  refine gput (D := D) (ci := 0) (v := .int w) (ty := .int) (C := RX0) (T := TX0) (N := 3) (wf := (hdW cN h hq (upd (upd s0.1 1 (nI 3)) 2 w) ++ (nwW cI (hq 0) (s0.2 0) ++ (nwW cI (hq 1) (s0.2 1) ++ (nwW cI (hq 2) (s0.2 2) ++ (nwW cI (hq 3) (n) ++ nwW cI q (n))))))) hx hb hts inX0 tyX0 tyX0_ok nmX0 hown hK.1 hP hD hS 0 rfl rfl 2 (by decide) (hts (.fieldLink RX0 30 "ClosExchange$History" "count" "I") (List.mem_of_getElem? (i := 2) rfl)) (fun _ h9 => h9) rfl (by decide +kernel) rfl rfl (Nat.le_of_ble_eq_true rfl) dX0_push_37 rfl (fun H locs hP hD hS => ?_)
  have hpk : pushK s0 n 3 = ((upd (upd s0.1 1 (nI 3)) 2 w), fun i => if i = 3 then n else s0.2 i) := by rw [hw]; rfl
  rw [hpk, hi_cat] at hret
  exact hret H locs ls _ dX0_push_40 hP hD hS
set_option maxRecDepth 100000 in
set_option maxHeartbeats 4000000 in
theorem c_X0_push_3 (l : Launch) (D : va_G) (cI cN : ClassId) (h : Nat → Nat) (hq : Nat → Nat → Nat) (q : Nat → Nat) (sz : Nat) (s0 : HS) (n : OS) (hlat : s0.1 1 = nI 3) : CtV l D cI cN yX0_push wsX0_push rm_X0_push 0 0 [.ref (h 0), .ref (q 0)] (hiW cI cN h hq s0 ++ nwW cI q n) sz (hiW cI cN h hq (pushK s0 n 0) ++ nwW cI q n) := by
  refine mV (cc := cX0_push) (maxL := 3) (by decide) rfl (Nat.le_of_ble_eq_true rfl) ?_
  intro p e s m args below meth c Q A S _ hK hP hD hS hA hret ls hl
  obtain ⟨hx, hb, hml, hown, hts⟩ := id S
  have hl : lv_has ls 3 [(0, .ref (h 0)), (1, .ref (q 0))] := hl
  have inX0 := in_X0_push_X0
  rw [hi_cat] at hP hD
  refine lv_aload_n hx hb dX0_push_0 rfl (lv_at hl 0 rfl) ?_
  refine lv_aload_n hx hb dX0_push_1 rfl (lv_at hl 0 rfl) ?_
  refine va_get (D := D) (ci := 0) (v := .int (s0.1 1)) (C := RX0) (T := TX0) (N := 3) hx hb hts inX0 hown hK.1 hP 0 rfl rfl 1 (by decide) (hts (.fieldLink RX0 18 "ClosExchange$History" "latest" "I") (List.mem_of_getElem? (i := 1) rfl)) (fun _ h9 => h9) rfl dX0_push_2 ?_
  refine lv_iconst (v := (1 : Int32)) hx hb dX0_push_5 kc_iconst_1 ?_
  refine lv_iadd hx hb dX0_push_6 ?_
  refine lv_iconst (v := (4 : Int32)) hx hb dX0_push_7 kc_iconst_4 ?_
  refine lv_irem hx hb dX0_push_8 (by decide) ?_
  have ej : ((s0.1 1 + (1 : Int32)) - (s0.1 1 + (1 : Int32)) / (4 : Int32) * (4 : Int32)) = nI 0 := by rw [hlat]; decide
  rw [ej]
  refine gput (D := D) (ci := 0) (v := .int (nI 0)) (ty := .int) (C := RX0) (T := TX0) (N := 3) (wf := (hdW cN h hq (upd s0.1 1 (nI 0)) ++ (nwW cI (hq 0) (s0.2 0) ++ (nwW cI (hq 1) (s0.2 1) ++ (nwW cI (hq 2) (s0.2 2) ++ (nwW cI (hq 3) (s0.2 3) ++ nwW cI q (n))))))) hx hb hts inX0 tyX0 tyX0_ok nmX0 hown hK.1 hP hD hS 0 rfl rfl 1 (by decide) (hts (.fieldLink RX0 18 "ClosExchange$History" "latest" "I") (List.mem_of_getElem? (i := 1) rfl)) (fun _ h9 => h9) rfl (by decide +kernel) rfl rfl (Nat.le_of_ble_eq_true rfl) dX0_push_9 rfl (fun H locs hP hD hS => ?_)
  refine lv_aload_n hx hb dX0_push_12 rfl (lv_at hl 0 rfl) ?_
  refine cPr (As := []) (rest := []) (q0 := 0) (ci := 0) S (c_X0_latestState l D cI cN h hq _ (upd s0.1 1 (nI 0)) 0 (by decide) rfl) (cwV 0 hts gX0_push_X0_latestState rfl rfl rfl (by decide +kernel) ⟨Nat.le_of_ble_eq_true rfl, Nat.le_of_ble_eq_true rfl⟩) hK hP hS hA [0, 1] rfl rfl rfl rfl hl.1 rfl (Nat.le_of_ble_eq_true rfl) dX0_push_13 ⟨Nat.zero_le _, Nat.zero_le _⟩ (fun H locs hP hS => ?_)
  refine lv_astore_n (lv' := [(2, .ref (hq 0 0)), (0, .ref (h 0)), (1, .ref (q 0))]) hx hb dX0_push_16 rfl hl (by decide) rfl (fun ls hl => ?_)
  refine lv_aload_n hx hb dX0_push_17 rfl (lv_at hl 0 rfl) ?_
  refine lv_ifnull hx hb dX0_push_18 ?_
  refine lv_aload_n hx hb dX0_push_21 rfl (lv_at hl 0 rfl) ?_
  refine lv_aload_n hx hb dX0_push_22 rfl (lv_at hl 2 rfl) ?_
  refine cBv (As := [.ref (q 0)]) (rest := []) (q0 := 2) (ci := 1) [(false, hdW cN h hq (upd s0.1 1 (nI 0)), hdW cN h hq (upd s0.1 1 (nI 0))), (true, nwW cI (hq 0) (s0.2 0), nwW cI (hq 0) (n)), (false, nwW cI (hq 1) (s0.2 1), nwW cI (hq 1) (s0.2 1)), (false, nwW cI (hq 2) (s0.2 2), nwW cI (hq 2) (s0.2 2)), (false, nwW cI (hq 3) (s0.2 3), nwW cI (hq 3) (s0.2 3)), (true, nwW cI q (n), nwW cI q (n))] ⟨rfl, (fun _ => rfl), ad_net, (fun h => Bool.noConfusion h), rfl, (fun _ => rfl), rfl, (fun _ => rfl), rfl, (fun _ => rfl), ad_net, (fun h => Bool.noConfusion h), trivial⟩ S (c_X1_copyFrom l D cI cN (hq 0) q _ (s0.2 0) n) (cwV 1 hts gX0_push_X1_copyFrom rfl rfl rfl (by decide +kernel) ⟨Nat.le_of_ble_eq_true rfl, Nat.le_of_ble_eq_true rfl⟩) hK hP hD hS hA rfl rfl rfl hl.1 rfl (Nat.le_of_ble_eq_true rfl) dX0_push_23 ⟨Nat.zero_le _, Nat.zero_le _⟩ (fun H locs hP hD hS => ?_)
  refine lv_aload_n hx hb dX0_push_26 rfl (lv_at hl 1 rfl) ?_
  refine lv_aload_n hx hb dX0_push_27 rfl (lv_at hl 1 rfl) ?_
  refine va_get (D := D) (ci := 0) (v := .int (s0.1 2)) (C := RX0) (T := TX0) (N := 3) hx hb hts inX0 hown hK.1 hP 0 rfl rfl 2 (by decide) (hts (.fieldLink RX0 30 "ClosExchange$History" "count" "I") (List.mem_of_getElem? (i := 2) rfl)) (fun _ h9 => h9) rfl dX0_push_28 ?_
  refine lv_iconst (v := (1 : Int32)) hx hb dX0_push_31 kc_iconst_1 ?_
  refine lv_iadd hx hb dX0_push_32 ?_
  refine lv_iconst (v := (4 : Int32)) hx hb dX0_push_33 kc_iconst_4 ?_
  refine va_mmin hx hb (hml.trans hl.1.symm) hown (hts (.methodLink RX0 33 Lib.Math.min.name) (List.mem_of_getElem? (i := 3) rfl)) (hts (.static Lib.Math.min.name) (List.mem_of_getElem? (i := 4) rfl)) (hts (.initialized "java/lang/Math") (List.mem_of_getElem? (i := 5) rfl)) (hts (.code Lib.Math.min.name Lib.Math.min.code 2 (some .int)) (List.mem_of_getElem? (i := 6) rfl)) (Nat.le_of_ble_eq_true rfl) (Nat.le_of_ble_eq_true rfl) (Nat.zero_le _) (Nat.zero_le _) dX0_push_34 ?_
  obtain ⟨w, hw⟩ : ∃ w, w = (if (4 : Int32) < (s0.1 2 + (1 : Int32)) then (4 : Int32) else (s0.1 2 + (1 : Int32))) := ⟨_, rfl⟩
  rw [← hw]
  refine gput (D := D) (ci := 0) (v := .int w) (ty := .int) (C := RX0) (T := TX0) (N := 3) (wf := (hdW cN h hq (upd (upd s0.1 1 (nI 0)) 2 w) ++ (nwW cI (hq 0) (n) ++ (nwW cI (hq 1) (s0.2 1) ++ (nwW cI (hq 2) (s0.2 2) ++ (nwW cI (hq 3) (s0.2 3) ++ nwW cI q (n))))))) hx hb hts inX0 tyX0 tyX0_ok nmX0 hown hK.1 hP hD hS 0 rfl rfl 2 (by decide) (hts (.fieldLink RX0 30 "ClosExchange$History" "count" "I") (List.mem_of_getElem? (i := 2) rfl)) (fun _ h9 => h9) rfl (by decide +kernel) rfl rfl (Nat.le_of_ble_eq_true rfl) dX0_push_37 rfl (fun H locs hP hD hS => ?_)
  have hpk : pushK s0 n 0 = ((upd (upd s0.1 1 (nI 0)) 2 w), fun i => if i = 0 then n else s0.2 i) := by rw [hw]; rfl
  rw [hpk, hi_cat] at hret
  exact hret H locs ls _ dX0_push_40 hP hD hS
set_option maxRecDepth 100000 in
set_option maxHeartbeats 4000000 in
theorem c_X0_takeBack_0 (l : Launch) (D : va_G) (cI cN : ClassId) (h : Nat → Nat) (hq : Nat → Nat → Nat) (q : Nat → Nat) (sz : Nat) (s0 : HS) (n : OS) (r0 : Int32) (s1 : HS) (n1 : OS) (hlat : s0.1 1 = nI 0) (hf : (if s0.1 2 = (0 : Int32) then some ((-6 : Int32), s0, n) else some (s0.1 2 - (1 : Int32), backK s0 3, s0.2 0)) = some (r0, s1, n1)) : CtI l D cI cN yX0_takeBack wsX0_takeBack rm_X0_takeBack 0 0 [.ref (h 0), .ref (q 0)] (hiW cI cN h hq s0 ++ nwW cI q n) sz r0 (hiW cI cN h hq s1 ++ nwW cI q n1) := by
  refine mW (cc := cX0_takeBack) (maxL := 3) (ty := .int) (by decide) rfl rfl (Nat.le_of_ble_eq_true rfl) ?_
  intro p e s m args below meth c Q A S hK hP hD hS hA hret ls hl
  obtain ⟨hx, hb, hml, hown, hts⟩ := id S
  have hl : lv_has ls 3 [(0, .ref (h 0)), (1, .ref (q 0))] := hl
  have inX0 := in_X0_takeBack_X0
  have hP0 := hP
  have hD0 := hD
  rw [hi_cat] at hP hD
  refine lv_aload_n hx hb dX0_takeBack_0 rfl (lv_at hl 0 rfl) ?_
  refine cPr (As := []) (rest := []) (q0 := 0) (ci := 0) S (c_X0_latestState l D cI cN h hq _ s0.1 0 (by decide) hlat) (cwV 0 hts gX0_takeBack_X0_latestState rfl rfl rfl (by decide +kernel) ⟨Nat.le_of_ble_eq_true rfl, Nat.le_of_ble_eq_true rfl⟩) hK hP hS hA [0, 1] rfl rfl rfl rfl hl.1 rfl (Nat.le_of_ble_eq_true rfl) dX0_takeBack_1 ⟨Nat.zero_le _, Nat.zero_le _⟩ (fun H locs hP hS => ?_)
  refine lv_astore_n (lv' := [(2, .ref (hq 0 0)), (0, .ref (h 0)), (1, .ref (q 0))]) hx hb dX0_takeBack_4 rfl hl (by decide) rfl (fun ls hl => ?_)
  refine lv_aload_n hx hb dX0_takeBack_5 rfl (lv_at hl 1 rfl) ?_
  refine va_get (D := D) (ci := 0) (v := .int (s0.1 2)) (C := RX0) (T := TX0) (N := 3) hx hb hts inX0 hown hK.1 hP 0 rfl rfl 2 (by decide) (hts (.fieldLink RX0 30 "ClosExchange$History" "count" "I") (List.mem_of_getElem? (i := 1) rfl)) (fun _ h9 => h9) rfl dX0_takeBack_6 ?_
  refine lv_if_eq (tgt := 16) hx hb dX0_takeBack_9 (by decide) (fun c1 => ?_) (fun c1 => ?_)
  · have hf := Option.some.inj (it_t hf c1)
    have e0 : (-6 : Int32) = r0 := congrArg (fun z => z.1) hf
    have e1 : s0 = s1 := congrArg (fun z => z.2.1) hf
    have e2 : n = n1 := congrArg (fun z => z.2.2) hf
    subst e0; subst e1; subst e2
    refine lv_bipush (v := (-6 : Int32)) hx hb dX0_takeBack_16 kc_bipush_m6 ?_
    rw [hi_cat] at hret
    exact hret H locs ls _ dX0_takeBack_18 rfl hP hD hS
  have hf := Option.some.inj (it_f hf c1)
  have e0 : s0.1 2 - (1 : Int32) = r0 := congrArg (fun z => z.1) hf
  have e1 : backK s0 3 = s1 := congrArg (fun z => z.2.1) hf
  have e2 : s0.2 0 = n1 := congrArg (fun z => z.2.2) hf
  subst e1; subst e2
  refine lv_aload_n hx hb dX0_takeBack_12 rfl (lv_at hl 0 rfl) ?_
  refine lv_ifnonnull (tgt := 19) hx hb dX0_takeBack_13 (by decide) ?_
  refine lv_aload_n hx hb dX0_takeBack_19 rfl (lv_at hl 2 rfl) ?_
  refine lv_aload_n hx hb dX0_takeBack_20 rfl (lv_at hl 0 rfl) ?_
  refine cBv (As := [.ref (hq 0 0)]) (rest := []) (q0 := 54) (ci := 1) [(false, hdW cN h hq s0.1, hdW cN h hq s0.1), (true, nwW cI (hq 0) (s0.2 0), nwW cI (hq 0) (s0.2 0)), (false, nwW cI (hq 1) (s0.2 1), nwW cI (hq 1) (s0.2 1)), (false, nwW cI (hq 2) (s0.2 2), nwW cI (hq 2) (s0.2 2)), (false, nwW cI (hq 3) (s0.2 3), nwW cI (hq 3) (s0.2 3)), (true, nwW cI q (n), nwW cI q (s0.2 0))] ⟨rfl, (fun _ => rfl), ad_net, (fun h => Bool.noConfusion h), rfl, (fun _ => rfl), rfl, (fun _ => rfl), rfl, (fun _ => rfl), ad_net, (fun h => Bool.noConfusion h), trivial⟩ S (c_X1_copyFromR l D cI cN q (hq 0) _ n (s0.2 0)) (cwV 1 hts gX0_takeBack_X1_copyFrom rfl rfl rfl (by decide +kernel) ⟨Nat.le_of_ble_eq_true rfl, Nat.le_of_ble_eq_true rfl⟩) hK hP hD hS hA rfl rfl rfl hl.1 rfl (Nat.le_of_ble_eq_true rfl) dX0_takeBack_21 ⟨Nat.zero_le _, Nat.zero_le _⟩ (fun H locs hP hD hS => ?_)
  refine lv_aload_n hx hb dX0_takeBack_24 rfl (lv_at hl 1 rfl) ?_
  refine lv_aload_n hx hb dX0_takeBack_25 rfl (lv_at hl 1 rfl) ?_
  refine va_get (D := D) (ci := 0) (v := .int (s0.1 1)) (C := RX0) (T := TX0) (N := 3) hx hb hts inX0 hown hK.1 hP 0 rfl rfl 1 (by decide) (hts (.fieldLink RX0 18 "ClosExchange$History" "latest" "I") (List.mem_of_getElem? (i := 2) rfl)) (fun _ h9 => h9) rfl dX0_takeBack_26 ?_
  refine lv_iconst (v := (4 : Int32)) hx hb dX0_takeBack_29 kc_iconst_4 ?_
  refine lv_iadd hx hb dX0_takeBack_30 ?_
  refine lv_iconst (v := (1 : Int32)) hx hb dX0_takeBack_31 kc_iconst_1 ?_
  refine lv_isub hx hb dX0_takeBack_32 ?_
  refine lv_iconst (v := (4 : Int32)) hx hb dX0_takeBack_33 kc_iconst_4 ?_
  refine lv_irem hx hb dX0_takeBack_34 (by decide) ?_
  have ej : ((s0.1 1 + (4 : Int32) - (1 : Int32)) - (s0.1 1 + (4 : Int32) - (1 : Int32)) / (4 : Int32) * (4 : Int32)) = nI 3 := by rw [hlat]; decide
  rw [ej]
  refine gput (D := D) (ci := 0) (v := .int (nI 3)) (ty := .int) (C := RX0) (T := TX0) (N := 3) (wf := (hdW cN h hq (upd s0.1 1 (nI 3)) ++ (nwW cI (hq 0) (s0.2 0) ++ (nwW cI (hq 1) (s0.2 1) ++ (nwW cI (hq 2) (s0.2 2) ++ (nwW cI (hq 3) (s0.2 3) ++ nwW cI q (s0.2 0))))))) hx hb hts inX0 tyX0 tyX0_ok nmX0 hown hK.1 hP hD hS 0 rfl rfl 1 (by decide) (hts (.fieldLink RX0 18 "ClosExchange$History" "latest" "I") (List.mem_of_getElem? (i := 2) rfl)) (fun _ h9 => h9) rfl (by decide +kernel) rfl rfl (Nat.le_of_ble_eq_true rfl) dX0_takeBack_35 rfl (fun H locs hP hD hS => ?_)
  refine lv_aload_n hx hb dX0_takeBack_38 rfl (lv_at hl 1 rfl) ?_
  refine lv_dup hx hb dX0_takeBack_39 rfl ?_
  refine va_get (D := D) (ci := 0) (v := .int (s0.1 2)) (C := RX0) (T := TX0) (N := 3) hx hb hts inX0 hown hK.1 hP 0 rfl rfl 2 (by decide) (hts (.fieldLink RX0 30 "ClosExchange$History" "count" "I") (List.mem_of_getElem? (i := 1) rfl)) (fun _ h9 => h9) rfl dX0_takeBack_40 ?_
  refine lv_iconst (v := (1 : Int32)) hx hb dX0_takeBack_43 kc_iconst_1 ?_
  refine lv_isub hx hb dX0_takeBack_44 ?_
  rw [e0]
  refine gput (D := D) (ci := 0) (v := .int r0) (ty := .int) (C := RX0) (T := TX0) (N := 3) (wf := (hdW cN h hq (upd (upd s0.1 1 (nI 3)) 2 r0) ++ (nwW cI (hq 0) (s0.2 0) ++ (nwW cI (hq 1) (s0.2 1) ++ (nwW cI (hq 2) (s0.2 2) ++ (nwW cI (hq 3) (s0.2 3) ++ nwW cI q (s0.2 0))))))) hx hb hts inX0 tyX0 tyX0_ok nmX0 hown hK.1 hP hD hS 0 rfl rfl 2 (by decide) (hts (.fieldLink RX0 30 "ClosExchange$History" "count" "I") (List.mem_of_getElem? (i := 1) rfl)) (fun _ h9 => h9) rfl (by decide +kernel) rfl rfl (Nat.le_of_ble_eq_true rfl) dX0_takeBack_45 rfl (fun H locs hP hD hS => ?_)
  refine lv_aload_n hx hb dX0_takeBack_48 rfl (lv_at hl 1 rfl) ?_
  refine va_get (D := D) (ci := 0) (v := .int r0) (C := RX0) (T := TX0) (N := 3) hx hb hts inX0 hown hK.1 hP 0 rfl rfl 2 (by decide) (hts (.fieldLink RX0 30 "ClosExchange$History" "count" "I") (List.mem_of_getElem? (i := 1) rfl)) (fun _ h9 => h9) rfl dX0_takeBack_49 ?_
  have hpk : backK s0 3 = ((upd (upd s0.1 1 (nI 3)) 2 r0), s0.2) := by unfold backK; rw [e0]
  rw [hpk, hi_cat] at hret
  exact hret H locs ls _ dX0_takeBack_52 rfl hP hD hS
set_option maxRecDepth 100000 in
set_option maxHeartbeats 4000000 in
theorem c_X0_takeBack_1 (l : Launch) (D : va_G) (cI cN : ClassId) (h : Nat → Nat) (hq : Nat → Nat → Nat) (q : Nat → Nat) (sz : Nat) (s0 : HS) (n : OS) (r0 : Int32) (s1 : HS) (n1 : OS) (hlat : s0.1 1 = nI 1) (hf : (if s0.1 2 = (0 : Int32) then some ((-6 : Int32), s0, n) else some (s0.1 2 - (1 : Int32), backK s0 0, s0.2 1)) = some (r0, s1, n1)) : CtI l D cI cN yX0_takeBack wsX0_takeBack rm_X0_takeBack 0 0 [.ref (h 0), .ref (q 0)] (hiW cI cN h hq s0 ++ nwW cI q n) sz r0 (hiW cI cN h hq s1 ++ nwW cI q n1) := by
  refine mW (cc := cX0_takeBack) (maxL := 3) (ty := .int) (by decide) rfl rfl (Nat.le_of_ble_eq_true rfl) ?_
  intro p e s m args below meth c Q A S hK hP hD hS hA hret ls hl
  obtain ⟨hx, hb, hml, hown, hts⟩ := id S
  have hl : lv_has ls 3 [(0, .ref (h 0)), (1, .ref (q 0))] := hl
  have inX0 := in_X0_takeBack_X0
  have hP0 := hP
  have hD0 := hD
  rw [hi_cat] at hP hD
  refine lv_aload_n hx hb dX0_takeBack_0 rfl (lv_at hl 0 rfl) ?_
  refine cPr (As := []) (rest := []) (q0 := 0) (ci := 0) S (c_X0_latestState l D cI cN h hq _ s0.1 1 (by decide) hlat) (cwV 0 hts gX0_takeBack_X0_latestState rfl rfl rfl (by decide +kernel) ⟨Nat.le_of_ble_eq_true rfl, Nat.le_of_ble_eq_true rfl⟩) hK hP hS hA [0, 1] rfl rfl rfl rfl hl.1 rfl (Nat.le_of_ble_eq_true rfl) dX0_takeBack_1 ⟨Nat.zero_le _, Nat.zero_le _⟩ (fun H locs hP hS => ?_)
  refine lv_astore_n (lv' := [(2, .ref (hq 1 0)), (0, .ref (h 0)), (1, .ref (q 0))]) hx hb dX0_takeBack_4 rfl hl (by decide) rfl (fun ls hl => ?_)
  refine lv_aload_n hx hb dX0_takeBack_5 rfl (lv_at hl 1 rfl) ?_
  refine va_get (D := D) (ci := 0) (v := .int (s0.1 2)) (C := RX0) (T := TX0) (N := 3) hx hb hts inX0 hown hK.1 hP 0 rfl rfl 2 (by decide) (hts (.fieldLink RX0 30 "ClosExchange$History" "count" "I") (List.mem_of_getElem? (i := 1) rfl)) (fun _ h9 => h9) rfl dX0_takeBack_6 ?_
  refine lv_if_eq (tgt := 16) hx hb dX0_takeBack_9 (by decide) (fun c1 => ?_) (fun c1 => ?_)
  · have hf := Option.some.inj (it_t hf c1)
    have e0 : (-6 : Int32) = r0 := congrArg (fun z => z.1) hf
    have e1 : s0 = s1 := congrArg (fun z => z.2.1) hf
    have e2 : n = n1 := congrArg (fun z => z.2.2) hf
    subst e0; subst e1; subst e2
    refine lv_bipush (v := (-6 : Int32)) hx hb dX0_takeBack_16 kc_bipush_m6 ?_
    rw [hi_cat] at hret
    exact hret H locs ls _ dX0_takeBack_18 rfl hP hD hS
  have hf := Option.some.inj (it_f hf c1)
  have e0 : s0.1 2 - (1 : Int32) = r0 := congrArg (fun z => z.1) hf
  have e1 : backK s0 0 = s1 := congrArg (fun z => z.2.1) hf
  have e2 : s0.2 1 = n1 := congrArg (fun z => z.2.2) hf
  subst e1; subst e2
  refine lv_aload_n hx hb dX0_takeBack_12 rfl (lv_at hl 0 rfl) ?_
  refine lv_ifnonnull (tgt := 19) hx hb dX0_takeBack_13 (by decide) ?_
  refine lv_aload_n hx hb dX0_takeBack_19 rfl (lv_at hl 2 rfl) ?_
  refine lv_aload_n hx hb dX0_takeBack_20 rfl (lv_at hl 0 rfl) ?_
  refine cBv (As := [.ref (hq 1 0)]) (rest := []) (q0 := 54) (ci := 1) [(false, hdW cN h hq s0.1, hdW cN h hq s0.1), (false, nwW cI (hq 0) (s0.2 0), nwW cI (hq 0) (s0.2 0)), (true, nwW cI (hq 1) (s0.2 1), nwW cI (hq 1) (s0.2 1)), (false, nwW cI (hq 2) (s0.2 2), nwW cI (hq 2) (s0.2 2)), (false, nwW cI (hq 3) (s0.2 3), nwW cI (hq 3) (s0.2 3)), (true, nwW cI q (n), nwW cI q (s0.2 1))] ⟨rfl, (fun _ => rfl), rfl, (fun _ => rfl), ad_net, (fun h => Bool.noConfusion h), rfl, (fun _ => rfl), rfl, (fun _ => rfl), ad_net, (fun h => Bool.noConfusion h), trivial⟩ S (c_X1_copyFromR l D cI cN q (hq 1) _ n (s0.2 1)) (cwV 1 hts gX0_takeBack_X1_copyFrom rfl rfl rfl (by decide +kernel) ⟨Nat.le_of_ble_eq_true rfl, Nat.le_of_ble_eq_true rfl⟩) hK hP hD hS hA rfl rfl rfl hl.1 rfl (Nat.le_of_ble_eq_true rfl) dX0_takeBack_21 ⟨Nat.zero_le _, Nat.zero_le _⟩ (fun H locs hP hD hS => ?_)
  refine lv_aload_n hx hb dX0_takeBack_24 rfl (lv_at hl 1 rfl) ?_
  refine lv_aload_n hx hb dX0_takeBack_25 rfl (lv_at hl 1 rfl) ?_
  refine va_get (D := D) (ci := 0) (v := .int (s0.1 1)) (C := RX0) (T := TX0) (N := 3) hx hb hts inX0 hown hK.1 hP 0 rfl rfl 1 (by decide) (hts (.fieldLink RX0 18 "ClosExchange$History" "latest" "I") (List.mem_of_getElem? (i := 2) rfl)) (fun _ h9 => h9) rfl dX0_takeBack_26 ?_
  refine lv_iconst (v := (4 : Int32)) hx hb dX0_takeBack_29 kc_iconst_4 ?_
  refine lv_iadd hx hb dX0_takeBack_30 ?_
  refine lv_iconst (v := (1 : Int32)) hx hb dX0_takeBack_31 kc_iconst_1 ?_
  refine lv_isub hx hb dX0_takeBack_32 ?_
  refine lv_iconst (v := (4 : Int32)) hx hb dX0_takeBack_33 kc_iconst_4 ?_
  refine lv_irem hx hb dX0_takeBack_34 (by decide) ?_
  have ej : ((s0.1 1 + (4 : Int32) - (1 : Int32)) - (s0.1 1 + (4 : Int32) - (1 : Int32)) / (4 : Int32) * (4 : Int32)) = nI 0 := by rw [hlat]; decide
  rw [ej]
  refine gput (D := D) (ci := 0) (v := .int (nI 0)) (ty := .int) (C := RX0) (T := TX0) (N := 3) (wf := (hdW cN h hq (upd s0.1 1 (nI 0)) ++ (nwW cI (hq 0) (s0.2 0) ++ (nwW cI (hq 1) (s0.2 1) ++ (nwW cI (hq 2) (s0.2 2) ++ (nwW cI (hq 3) (s0.2 3) ++ nwW cI q (s0.2 1))))))) hx hb hts inX0 tyX0 tyX0_ok nmX0 hown hK.1 hP hD hS 0 rfl rfl 1 (by decide) (hts (.fieldLink RX0 18 "ClosExchange$History" "latest" "I") (List.mem_of_getElem? (i := 2) rfl)) (fun _ h9 => h9) rfl (by decide +kernel) rfl rfl (Nat.le_of_ble_eq_true rfl) dX0_takeBack_35 rfl (fun H locs hP hD hS => ?_)
  refine lv_aload_n hx hb dX0_takeBack_38 rfl (lv_at hl 1 rfl) ?_
  refine lv_dup hx hb dX0_takeBack_39 rfl ?_
  refine va_get (D := D) (ci := 0) (v := .int (s0.1 2)) (C := RX0) (T := TX0) (N := 3) hx hb hts inX0 hown hK.1 hP 0 rfl rfl 2 (by decide) (hts (.fieldLink RX0 30 "ClosExchange$History" "count" "I") (List.mem_of_getElem? (i := 1) rfl)) (fun _ h9 => h9) rfl dX0_takeBack_40 ?_
  refine lv_iconst (v := (1 : Int32)) hx hb dX0_takeBack_43 kc_iconst_1 ?_
  refine lv_isub hx hb dX0_takeBack_44 ?_
  rw [e0]
  refine gput (D := D) (ci := 0) (v := .int r0) (ty := .int) (C := RX0) (T := TX0) (N := 3) (wf := (hdW cN h hq (upd (upd s0.1 1 (nI 0)) 2 r0) ++ (nwW cI (hq 0) (s0.2 0) ++ (nwW cI (hq 1) (s0.2 1) ++ (nwW cI (hq 2) (s0.2 2) ++ (nwW cI (hq 3) (s0.2 3) ++ nwW cI q (s0.2 1))))))) hx hb hts inX0 tyX0 tyX0_ok nmX0 hown hK.1 hP hD hS 0 rfl rfl 2 (by decide) (hts (.fieldLink RX0 30 "ClosExchange$History" "count" "I") (List.mem_of_getElem? (i := 1) rfl)) (fun _ h9 => h9) rfl (by decide +kernel) rfl rfl (Nat.le_of_ble_eq_true rfl) dX0_takeBack_45 rfl (fun H locs hP hD hS => ?_)
  refine lv_aload_n hx hb dX0_takeBack_48 rfl (lv_at hl 1 rfl) ?_
  refine va_get (D := D) (ci := 0) (v := .int r0) (C := RX0) (T := TX0) (N := 3) hx hb hts inX0 hown hK.1 hP 0 rfl rfl 2 (by decide) (hts (.fieldLink RX0 30 "ClosExchange$History" "count" "I") (List.mem_of_getElem? (i := 1) rfl)) (fun _ h9 => h9) rfl dX0_takeBack_49 ?_
  have hpk : backK s0 0 = ((upd (upd s0.1 1 (nI 0)) 2 r0), s0.2) := by unfold backK; rw [e0]
  rw [hpk, hi_cat] at hret
  exact hret H locs ls _ dX0_takeBack_52 rfl hP hD hS
set_option maxRecDepth 100000 in
set_option maxHeartbeats 4000000 in
theorem c_X0_takeBack_2 (l : Launch) (D : va_G) (cI cN : ClassId) (h : Nat → Nat) (hq : Nat → Nat → Nat) (q : Nat → Nat) (sz : Nat) (s0 : HS) (n : OS) (r0 : Int32) (s1 : HS) (n1 : OS) (hlat : s0.1 1 = nI 2) (hf : (if s0.1 2 = (0 : Int32) then some ((-6 : Int32), s0, n) else some (s0.1 2 - (1 : Int32), backK s0 1, s0.2 2)) = some (r0, s1, n1)) : CtI l D cI cN yX0_takeBack wsX0_takeBack rm_X0_takeBack 0 0 [.ref (h 0), .ref (q 0)] (hiW cI cN h hq s0 ++ nwW cI q n) sz r0 (hiW cI cN h hq s1 ++ nwW cI q n1) := by
  refine mW (cc := cX0_takeBack) (maxL := 3) (ty := .int) (by decide) rfl rfl (Nat.le_of_ble_eq_true rfl) ?_
  intro p e s m args below meth c Q A S hK hP hD hS hA hret ls hl
  obtain ⟨hx, hb, hml, hown, hts⟩ := id S
  have hl : lv_has ls 3 [(0, .ref (h 0)), (1, .ref (q 0))] := hl
  have inX0 := in_X0_takeBack_X0
  have hP0 := hP
  have hD0 := hD
  rw [hi_cat] at hP hD
  refine lv_aload_n hx hb dX0_takeBack_0 rfl (lv_at hl 0 rfl) ?_
  refine cPr (As := []) (rest := []) (q0 := 0) (ci := 0) S (c_X0_latestState l D cI cN h hq _ s0.1 2 (by decide) hlat) (cwV 0 hts gX0_takeBack_X0_latestState rfl rfl rfl (by decide +kernel) ⟨Nat.le_of_ble_eq_true rfl, Nat.le_of_ble_eq_true rfl⟩) hK hP hS hA [0, 1] rfl rfl rfl rfl hl.1 rfl (Nat.le_of_ble_eq_true rfl) dX0_takeBack_1 ⟨Nat.zero_le _, Nat.zero_le _⟩ (fun H locs hP hS => ?_)
  refine lv_astore_n (lv' := [(2, .ref (hq 2 0)), (0, .ref (h 0)), (1, .ref (q 0))]) hx hb dX0_takeBack_4 rfl hl (by decide) rfl (fun ls hl => ?_)
  refine lv_aload_n hx hb dX0_takeBack_5 rfl (lv_at hl 1 rfl) ?_
  refine va_get (D := D) (ci := 0) (v := .int (s0.1 2)) (C := RX0) (T := TX0) (N := 3) hx hb hts inX0 hown hK.1 hP 0 rfl rfl 2 (by decide) (hts (.fieldLink RX0 30 "ClosExchange$History" "count" "I") (List.mem_of_getElem? (i := 1) rfl)) (fun _ h9 => h9) rfl dX0_takeBack_6 ?_
  refine lv_if_eq (tgt := 16) hx hb dX0_takeBack_9 (by decide) (fun c1 => ?_) (fun c1 => ?_)
  · have hf := Option.some.inj (it_t hf c1)
    have e0 : (-6 : Int32) = r0 := congrArg (fun z => z.1) hf
    have e1 : s0 = s1 := congrArg (fun z => z.2.1) hf
    have e2 : n = n1 := congrArg (fun z => z.2.2) hf
    subst e0; subst e1; subst e2
    refine lv_bipush (v := (-6 : Int32)) hx hb dX0_takeBack_16 kc_bipush_m6 ?_
    rw [hi_cat] at hret
    exact hret H locs ls _ dX0_takeBack_18 rfl hP hD hS
  have hf := Option.some.inj (it_f hf c1)
  have e0 : s0.1 2 - (1 : Int32) = r0 := congrArg (fun z => z.1) hf
  have e1 : backK s0 1 = s1 := congrArg (fun z => z.2.1) hf
  have e2 : s0.2 2 = n1 := congrArg (fun z => z.2.2) hf
  subst e1; subst e2
  refine lv_aload_n hx hb dX0_takeBack_12 rfl (lv_at hl 0 rfl) ?_
  refine lv_ifnonnull (tgt := 19) hx hb dX0_takeBack_13 (by decide) ?_
  refine lv_aload_n hx hb dX0_takeBack_19 rfl (lv_at hl 2 rfl) ?_
  refine lv_aload_n hx hb dX0_takeBack_20 rfl (lv_at hl 0 rfl) ?_
  refine cBv (As := [.ref (hq 2 0)]) (rest := []) (q0 := 54) (ci := 1) [(false, hdW cN h hq s0.1, hdW cN h hq s0.1), (false, nwW cI (hq 0) (s0.2 0), nwW cI (hq 0) (s0.2 0)), (false, nwW cI (hq 1) (s0.2 1), nwW cI (hq 1) (s0.2 1)), (true, nwW cI (hq 2) (s0.2 2), nwW cI (hq 2) (s0.2 2)), (false, nwW cI (hq 3) (s0.2 3), nwW cI (hq 3) (s0.2 3)), (true, nwW cI q (n), nwW cI q (s0.2 2))] ⟨rfl, (fun _ => rfl), rfl, (fun _ => rfl), rfl, (fun _ => rfl), ad_net, (fun h => Bool.noConfusion h), rfl, (fun _ => rfl), ad_net, (fun h => Bool.noConfusion h), trivial⟩ S (c_X1_copyFromR l D cI cN q (hq 2) _ n (s0.2 2)) (cwV 1 hts gX0_takeBack_X1_copyFrom rfl rfl rfl (by decide +kernel) ⟨Nat.le_of_ble_eq_true rfl, Nat.le_of_ble_eq_true rfl⟩) hK hP hD hS hA rfl rfl rfl hl.1 rfl (Nat.le_of_ble_eq_true rfl) dX0_takeBack_21 ⟨Nat.zero_le _, Nat.zero_le _⟩ (fun H locs hP hD hS => ?_)
  refine lv_aload_n hx hb dX0_takeBack_24 rfl (lv_at hl 1 rfl) ?_
  refine lv_aload_n hx hb dX0_takeBack_25 rfl (lv_at hl 1 rfl) ?_
  refine va_get (D := D) (ci := 0) (v := .int (s0.1 1)) (C := RX0) (T := TX0) (N := 3) hx hb hts inX0 hown hK.1 hP 0 rfl rfl 1 (by decide) (hts (.fieldLink RX0 18 "ClosExchange$History" "latest" "I") (List.mem_of_getElem? (i := 2) rfl)) (fun _ h9 => h9) rfl dX0_takeBack_26 ?_
  refine lv_iconst (v := (4 : Int32)) hx hb dX0_takeBack_29 kc_iconst_4 ?_
  refine lv_iadd hx hb dX0_takeBack_30 ?_
  refine lv_iconst (v := (1 : Int32)) hx hb dX0_takeBack_31 kc_iconst_1 ?_
  refine lv_isub hx hb dX0_takeBack_32 ?_
  refine lv_iconst (v := (4 : Int32)) hx hb dX0_takeBack_33 kc_iconst_4 ?_
  refine lv_irem hx hb dX0_takeBack_34 (by decide) ?_
  have ej : ((s0.1 1 + (4 : Int32) - (1 : Int32)) - (s0.1 1 + (4 : Int32) - (1 : Int32)) / (4 : Int32) * (4 : Int32)) = nI 1 := by rw [hlat]; decide
  rw [ej]
  refine gput (D := D) (ci := 0) (v := .int (nI 1)) (ty := .int) (C := RX0) (T := TX0) (N := 3) (wf := (hdW cN h hq (upd s0.1 1 (nI 1)) ++ (nwW cI (hq 0) (s0.2 0) ++ (nwW cI (hq 1) (s0.2 1) ++ (nwW cI (hq 2) (s0.2 2) ++ (nwW cI (hq 3) (s0.2 3) ++ nwW cI q (s0.2 2))))))) hx hb hts inX0 tyX0 tyX0_ok nmX0 hown hK.1 hP hD hS 0 rfl rfl 1 (by decide) (hts (.fieldLink RX0 18 "ClosExchange$History" "latest" "I") (List.mem_of_getElem? (i := 2) rfl)) (fun _ h9 => h9) rfl (by decide +kernel) rfl rfl (Nat.le_of_ble_eq_true rfl) dX0_takeBack_35 rfl (fun H locs hP hD hS => ?_)
  refine lv_aload_n hx hb dX0_takeBack_38 rfl (lv_at hl 1 rfl) ?_
  refine lv_dup hx hb dX0_takeBack_39 rfl ?_
  refine va_get (D := D) (ci := 0) (v := .int (s0.1 2)) (C := RX0) (T := TX0) (N := 3) hx hb hts inX0 hown hK.1 hP 0 rfl rfl 2 (by decide) (hts (.fieldLink RX0 30 "ClosExchange$History" "count" "I") (List.mem_of_getElem? (i := 1) rfl)) (fun _ h9 => h9) rfl dX0_takeBack_40 ?_
  refine lv_iconst (v := (1 : Int32)) hx hb dX0_takeBack_43 kc_iconst_1 ?_
  refine lv_isub hx hb dX0_takeBack_44 ?_
  rw [e0]
  refine gput (D := D) (ci := 0) (v := .int r0) (ty := .int) (C := RX0) (T := TX0) (N := 3) (wf := (hdW cN h hq (upd (upd s0.1 1 (nI 1)) 2 r0) ++ (nwW cI (hq 0) (s0.2 0) ++ (nwW cI (hq 1) (s0.2 1) ++ (nwW cI (hq 2) (s0.2 2) ++ (nwW cI (hq 3) (s0.2 3) ++ nwW cI q (s0.2 2))))))) hx hb hts inX0 tyX0 tyX0_ok nmX0 hown hK.1 hP hD hS 0 rfl rfl 2 (by decide) (hts (.fieldLink RX0 30 "ClosExchange$History" "count" "I") (List.mem_of_getElem? (i := 1) rfl)) (fun _ h9 => h9) rfl (by decide +kernel) rfl rfl (Nat.le_of_ble_eq_true rfl) dX0_takeBack_45 rfl (fun H locs hP hD hS => ?_)
  refine lv_aload_n hx hb dX0_takeBack_48 rfl (lv_at hl 1 rfl) ?_
  refine va_get (D := D) (ci := 0) (v := .int r0) (C := RX0) (T := TX0) (N := 3) hx hb hts inX0 hown hK.1 hP 0 rfl rfl 2 (by decide) (hts (.fieldLink RX0 30 "ClosExchange$History" "count" "I") (List.mem_of_getElem? (i := 1) rfl)) (fun _ h9 => h9) rfl dX0_takeBack_49 ?_
  have hpk : backK s0 1 = ((upd (upd s0.1 1 (nI 1)) 2 r0), s0.2) := by unfold backK; rw [e0]
  rw [hpk, hi_cat] at hret
  exact hret H locs ls _ dX0_takeBack_52 rfl hP hD hS
set_option maxRecDepth 100000 in
set_option maxHeartbeats 4000000 in
theorem c_X0_takeBack_3 (l : Launch) (D : va_G) (cI cN : ClassId) (h : Nat → Nat) (hq : Nat → Nat → Nat) (q : Nat → Nat) (sz : Nat) (s0 : HS) (n : OS) (r0 : Int32) (s1 : HS) (n1 : OS) (hlat : s0.1 1 = nI 3) (hf : (if s0.1 2 = (0 : Int32) then some ((-6 : Int32), s0, n) else some (s0.1 2 - (1 : Int32), backK s0 2, s0.2 3)) = some (r0, s1, n1)) : CtI l D cI cN yX0_takeBack wsX0_takeBack rm_X0_takeBack 0 0 [.ref (h 0), .ref (q 0)] (hiW cI cN h hq s0 ++ nwW cI q n) sz r0 (hiW cI cN h hq s1 ++ nwW cI q n1) := by
  refine mW (cc := cX0_takeBack) (maxL := 3) (ty := .int) (by decide) rfl rfl (Nat.le_of_ble_eq_true rfl) ?_
  intro p e s m args below meth c Q A S hK hP hD hS hA hret ls hl
  obtain ⟨hx, hb, hml, hown, hts⟩ := id S
  have hl : lv_has ls 3 [(0, .ref (h 0)), (1, .ref (q 0))] := hl
  have inX0 := in_X0_takeBack_X0
  have hP0 := hP
  have hD0 := hD
  rw [hi_cat] at hP hD
  refine lv_aload_n hx hb dX0_takeBack_0 rfl (lv_at hl 0 rfl) ?_
  refine cPr (As := []) (rest := []) (q0 := 0) (ci := 0) S (c_X0_latestState l D cI cN h hq _ s0.1 3 (by decide) hlat) (cwV 0 hts gX0_takeBack_X0_latestState rfl rfl rfl (by decide +kernel) ⟨Nat.le_of_ble_eq_true rfl, Nat.le_of_ble_eq_true rfl⟩) hK hP hS hA [0, 1] rfl rfl rfl rfl hl.1 rfl (Nat.le_of_ble_eq_true rfl) dX0_takeBack_1 ⟨Nat.zero_le _, Nat.zero_le _⟩ (fun H locs hP hS => ?_)
  refine lv_astore_n (lv' := [(2, .ref (hq 3 0)), (0, .ref (h 0)), (1, .ref (q 0))]) hx hb dX0_takeBack_4 rfl hl (by decide) rfl (fun ls hl => ?_)
  refine lv_aload_n hx hb dX0_takeBack_5 rfl (lv_at hl 1 rfl) ?_
  refine va_get (D := D) (ci := 0) (v := .int (s0.1 2)) (C := RX0) (T := TX0) (N := 3) hx hb hts inX0 hown hK.1 hP 0 rfl rfl 2 (by decide) (hts (.fieldLink RX0 30 "ClosExchange$History" "count" "I") (List.mem_of_getElem? (i := 1) rfl)) (fun _ h9 => h9) rfl dX0_takeBack_6 ?_
  refine lv_if_eq (tgt := 16) hx hb dX0_takeBack_9 (by decide) (fun c1 => ?_) (fun c1 => ?_)
  · have hf := Option.some.inj (it_t hf c1)
    have e0 : (-6 : Int32) = r0 := congrArg (fun z => z.1) hf
    have e1 : s0 = s1 := congrArg (fun z => z.2.1) hf
    have e2 : n = n1 := congrArg (fun z => z.2.2) hf
    subst e0; subst e1; subst e2
    refine lv_bipush (v := (-6 : Int32)) hx hb dX0_takeBack_16 kc_bipush_m6 ?_
    rw [hi_cat] at hret
    exact hret H locs ls _ dX0_takeBack_18 rfl hP hD hS
  have hf := Option.some.inj (it_f hf c1)
  have e0 : s0.1 2 - (1 : Int32) = r0 := congrArg (fun z => z.1) hf
  have e1 : backK s0 2 = s1 := congrArg (fun z => z.2.1) hf
  have e2 : s0.2 3 = n1 := congrArg (fun z => z.2.2) hf
  subst e1; subst e2
  refine lv_aload_n hx hb dX0_takeBack_12 rfl (lv_at hl 0 rfl) ?_
  refine lv_ifnonnull (tgt := 19) hx hb dX0_takeBack_13 (by decide) ?_
  refine lv_aload_n hx hb dX0_takeBack_19 rfl (lv_at hl 2 rfl) ?_
  refine lv_aload_n hx hb dX0_takeBack_20 rfl (lv_at hl 0 rfl) ?_
  refine cBv (As := [.ref (hq 3 0)]) (rest := []) (q0 := 54) (ci := 1) [(false, hdW cN h hq s0.1, hdW cN h hq s0.1), (false, nwW cI (hq 0) (s0.2 0), nwW cI (hq 0) (s0.2 0)), (false, nwW cI (hq 1) (s0.2 1), nwW cI (hq 1) (s0.2 1)), (false, nwW cI (hq 2) (s0.2 2), nwW cI (hq 2) (s0.2 2)), (true, nwW cI (hq 3) (s0.2 3), nwW cI (hq 3) (s0.2 3)), (true, nwW cI q (n), nwW cI q (s0.2 3))] ⟨rfl, (fun _ => rfl), rfl, (fun _ => rfl), rfl, (fun _ => rfl), rfl, (fun _ => rfl), ad_net, (fun h => Bool.noConfusion h), ad_net, (fun h => Bool.noConfusion h), trivial⟩ S (c_X1_copyFromR l D cI cN q (hq 3) _ n (s0.2 3)) (cwV 1 hts gX0_takeBack_X1_copyFrom rfl rfl rfl (by decide +kernel) ⟨Nat.le_of_ble_eq_true rfl, Nat.le_of_ble_eq_true rfl⟩) hK hP hD hS hA rfl rfl rfl hl.1 rfl (Nat.le_of_ble_eq_true rfl) dX0_takeBack_21 ⟨Nat.zero_le _, Nat.zero_le _⟩ (fun H locs hP hD hS => ?_)
  refine lv_aload_n hx hb dX0_takeBack_24 rfl (lv_at hl 1 rfl) ?_
  refine lv_aload_n hx hb dX0_takeBack_25 rfl (lv_at hl 1 rfl) ?_
  refine va_get (D := D) (ci := 0) (v := .int (s0.1 1)) (C := RX0) (T := TX0) (N := 3) hx hb hts inX0 hown hK.1 hP 0 rfl rfl 1 (by decide) (hts (.fieldLink RX0 18 "ClosExchange$History" "latest" "I") (List.mem_of_getElem? (i := 2) rfl)) (fun _ h9 => h9) rfl dX0_takeBack_26 ?_
  refine lv_iconst (v := (4 : Int32)) hx hb dX0_takeBack_29 kc_iconst_4 ?_
  refine lv_iadd hx hb dX0_takeBack_30 ?_
  refine lv_iconst (v := (1 : Int32)) hx hb dX0_takeBack_31 kc_iconst_1 ?_
  refine lv_isub hx hb dX0_takeBack_32 ?_
  refine lv_iconst (v := (4 : Int32)) hx hb dX0_takeBack_33 kc_iconst_4 ?_
  refine lv_irem hx hb dX0_takeBack_34 (by decide) ?_
  have ej : ((s0.1 1 + (4 : Int32) - (1 : Int32)) - (s0.1 1 + (4 : Int32) - (1 : Int32)) / (4 : Int32) * (4 : Int32)) = nI 2 := by rw [hlat]; decide
  rw [ej]
  refine gput (D := D) (ci := 0) (v := .int (nI 2)) (ty := .int) (C := RX0) (T := TX0) (N := 3) (wf := (hdW cN h hq (upd s0.1 1 (nI 2)) ++ (nwW cI (hq 0) (s0.2 0) ++ (nwW cI (hq 1) (s0.2 1) ++ (nwW cI (hq 2) (s0.2 2) ++ (nwW cI (hq 3) (s0.2 3) ++ nwW cI q (s0.2 3))))))) hx hb hts inX0 tyX0 tyX0_ok nmX0 hown hK.1 hP hD hS 0 rfl rfl 1 (by decide) (hts (.fieldLink RX0 18 "ClosExchange$History" "latest" "I") (List.mem_of_getElem? (i := 2) rfl)) (fun _ h9 => h9) rfl (by decide +kernel) rfl rfl (Nat.le_of_ble_eq_true rfl) dX0_takeBack_35 rfl (fun H locs hP hD hS => ?_)
  refine lv_aload_n hx hb dX0_takeBack_38 rfl (lv_at hl 1 rfl) ?_
  refine lv_dup hx hb dX0_takeBack_39 rfl ?_
  refine va_get (D := D) (ci := 0) (v := .int (s0.1 2)) (C := RX0) (T := TX0) (N := 3) hx hb hts inX0 hown hK.1 hP 0 rfl rfl 2 (by decide) (hts (.fieldLink RX0 30 "ClosExchange$History" "count" "I") (List.mem_of_getElem? (i := 1) rfl)) (fun _ h9 => h9) rfl dX0_takeBack_40 ?_
  refine lv_iconst (v := (1 : Int32)) hx hb dX0_takeBack_43 kc_iconst_1 ?_
  refine lv_isub hx hb dX0_takeBack_44 ?_
  rw [e0]
  refine gput (D := D) (ci := 0) (v := .int r0) (ty := .int) (C := RX0) (T := TX0) (N := 3) (wf := (hdW cN h hq (upd (upd s0.1 1 (nI 2)) 2 r0) ++ (nwW cI (hq 0) (s0.2 0) ++ (nwW cI (hq 1) (s0.2 1) ++ (nwW cI (hq 2) (s0.2 2) ++ (nwW cI (hq 3) (s0.2 3) ++ nwW cI q (s0.2 3))))))) hx hb hts inX0 tyX0 tyX0_ok nmX0 hown hK.1 hP hD hS 0 rfl rfl 2 (by decide) (hts (.fieldLink RX0 30 "ClosExchange$History" "count" "I") (List.mem_of_getElem? (i := 1) rfl)) (fun _ h9 => h9) rfl (by decide +kernel) rfl rfl (Nat.le_of_ble_eq_true rfl) dX0_takeBack_45 rfl (fun H locs hP hD hS => ?_)
  refine lv_aload_n hx hb dX0_takeBack_48 rfl (lv_at hl 1 rfl) ?_
  refine va_get (D := D) (ci := 0) (v := .int r0) (C := RX0) (T := TX0) (N := 3) hx hb hts inX0 hown hK.1 hP 0 rfl rfl 2 (by decide) (hts (.fieldLink RX0 30 "ClosExchange$History" "count" "I") (List.mem_of_getElem? (i := 1) rfl)) (fun _ h9 => h9) rfl dX0_takeBack_49 ?_
  have hpk : backK s0 2 = ((upd (upd s0.1 1 (nI 2)) 2 r0), s0.2) := by unfold backK; rw [e0]
  rw [hpk, hi_cat] at hret
  exact hret H locs ls _ dX0_takeBack_52 rfl hP hD hS
theorem c_X0_push (l : Launch) (D : va_G) (cI cN : ClassId) (h : Nat → Nat) (hq : Nat → Nat → Nat) (q : Nat → Nat) (sz : Nat) (hi : HS) (n : OS) (hi' : HS) (hf : fX0_push hi n = some hi') : CtV l D cI cN yX0_push wsX0_push rm_X0_push 0 0 [.ref (h 0), .ref (q 0)] (hiW cI cN h hq hi ++ nwW cI q n) sz (hiW cI cN h hq hi' ++ nwW cI q n) := by
  unfold fX0_push at hf
  by_cases c0 : hi.1 1 = nI 0
  · have e := Option.some.inj (it_t hf c0); subst e; exact c_X0_push_0 l D cI cN h hq q sz hi n c0
  have hf := it_f hf c0
  by_cases c1 : hi.1 1 = nI 1
  · have e := Option.some.inj (it_t hf c1); subst e; exact c_X0_push_1 l D cI cN h hq q sz hi n c1
  have hf := it_f hf c1
  by_cases c2 : hi.1 1 = nI 2
  · have e := Option.some.inj (it_t hf c2); subst e; exact c_X0_push_2 l D cI cN h hq q sz hi n c2
  have hf := it_f hf c2
  by_cases c3 : hi.1 1 = nI 3
  · have e := Option.some.inj (it_t hf c3); subst e; exact c_X0_push_3 l D cI cN h hq q sz hi n c3
  have hf := it_f hf c3
  cases hf
theorem c_X0_takeBack (l : Launch) (D : va_G) (cI cN : ClassId) (h : Nat → Nat) (hq : Nat → Nat → Nat) (q : Nat → Nat) (sz : Nat) (hi : HS) (n : OS) (r0 : Int32) (hi' : HS) (n' : OS) (hf : fX0_takeBack hi n = some (r0, hi', n')) : CtI l D cI cN yX0_takeBack wsX0_takeBack rm_X0_takeBack 0 0 [.ref (h 0), .ref (q 0)] (hiW cI cN h hq hi ++ nwW cI q n) sz r0 (hiW cI cN h hq hi' ++ nwW cI q n') := by
  unfold fX0_takeBack at hf
  by_cases c0 : hi.1 1 = nI 0
  · exact c_X0_takeBack_0 l D cI cN h hq q sz hi n r0 hi' n' c0 (it_t hf c0)
  have hf := it_f hf c0
  by_cases c1 : hi.1 1 = nI 1
  · exact c_X0_takeBack_1 l D cI cN h hq q sz hi n r0 hi' n' c1 (it_t hf c1)
  have hf := it_f hf c1
  by_cases c2 : hi.1 1 = nI 2
  · exact c_X0_takeBack_2 l D cI cN h hq q sz hi n r0 hi' n' c2 (it_t hf c2)
  have hf := it_f hf c2
  by_cases c3 : hi.1 1 = nI 3
  · exact c_X0_takeBack_3 l D cI cN h hq q sz hi n r0 hi' n' c3 (it_t hf c3)
  have hf := it_f hf c3
  cases hf
