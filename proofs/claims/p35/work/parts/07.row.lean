/-! ClosExchange$Row, java.util.Arrays.fill, java.lang.Integer.bitCount -/
abbrev rm_X4_get : Room := { frames := 0, cells := 0, slots := 0, locals := 0 }
abbrev rm_X4_set : Room := { frames := 0, cells := 0, slots := 0, locals := 0 }
abbrev rm_J7_fill : Room := { frames := 0, cells := 0, slots := 0, locals := 0 }
abbrev rm_X4_empty : Room := { frames := 1, cells := 0, slots := 0, locals := 24 }
abbrev rm_X4_copyFrom : Room := { frames := 1, cells := 0, slots := 0, locals := 30 }
theorem inX4_get : ∀ w ∈ u_ws RX4 TX4 1, w ∈ wsX4_get := fun w h => List.mem_cons_of_mem _ (List.mem_append_right _ h)
theorem inX4_set : ∀ w ∈ u_ws RX4 TX4 1, w ∈ wsX4_set := fun w h => List.mem_cons_of_mem _ (List.mem_append_right _ h)
theorem inX4_empty : ∀ w ∈ u_ws RX4 TX4 1, w ∈ wsX4_empty := fun w h => List.mem_cons_of_mem _ (List.mem_append_right _ h)
theorem inX4_copyFrom : ∀ w ∈ u_ws RX4 TX4 1, w ∈ wsX4_copyFrom := fun w h => List.mem_cons_of_mem _ (List.mem_append_right _ h)
theorem row_in {L : Nat} (hL : L < 2147483648) {i : Int32} (h0 : ¬ i < 0) (h1 : ¬ Int32.ofNat L ≤ i) : vp_in i L := by
  rcases pk_ix i (n := L) (by omega) with h | h | ⟨j, hj, e⟩
  · exact absurd h h0
  · exact absurd h h1
  · rw [e]; exact vp_in_nI hj (by omega)
set_option maxRecDepth 100000 in
set_option maxHeartbeats 4000000 in
theorem c_X4_get (l : Launch) (D : va_G) (cI cN : ClassId) (a b L : Nat) (hL : L < 2147483648) (sz : Nat) (f : Nat → Int32) (x1 : Int32) : CtP l D cI cN yX4_get wsX4_get rm_X4_get [.ref a, .int x1] (rwW cI a b L f) sz (rget f L x1) := by
  refine mP (cc := cX4_get) (maxL := 2) (ty := .int) (by decide) rfl rfl (Nat.le_of_ble_eq_true rfl) ?_
  intro p e s m args below meth c Q S hK hP hS hret ls hl
  obtain ⟨hx, hb, hml, hown, hts⟩ := id S
  have hl : lv_has ls 2 [(0, .ref a), (1, .int x1)] := hl
  generalize hf : rget f L x1 = r0 at hret
  unfold rget at hf
  refine lv_iload_n hx hb dX4_get_0 rfl (lv_at hl 1 rfl) ?_
  refine lv_if_lt (tgt := 22) hx hb dX4_get_1 (by decide) (fun c1 => ?_) (fun c1 => ?_)
  · have hf := it_t hf c1
    subst hf
    refine lv_bipush (v := (-6 : Int32)) hx hb dX4_get_22 (by decide) ?_
    exact hret _ _ ls _ dX4_get_24 rfl hS
  · have hf := it_f hf c1
    refine lv_iload_n hx hb dX4_get_4 rfl (lv_at hl 1 rfl) ?_
    refine lv_aload_n hx hb dX4_get_5 rfl (lv_at hl 0 rfl) ?_
    refine va_get (D := D) (ci := 4) (v := .ref b) (C := RX4) (T := TX4) (N := 1) hx hb hts inX4_get hown hK.1 hP 0 rfl rfl 0 (by decide) (hts (.fieldLink RX4 15 "ClosExchange$Row" "cells" "[I") (List.mem_of_getElem? (i := 1) rfl)) (fun _ h9 => h9) rfl dX4_get_6 ?_
    refine va_alen (v := Int32.ofNat L) hx hb hK.1 hP 1 0 rfl rfl rfl dX4_get_9 ?_
    refine lv_icmp_ge (tgt := 22) hx hb dX4_get_10 (by decide) (fun c2 => ?_) (fun c2 => ?_)
    · have hf := it_t hf c2
      subst hf
      refine lv_bipush (v := (-6 : Int32)) hx hb dX4_get_22 (by decide) ?_
      exact hret _ _ ls _ dX4_get_24 rfl hS
    · have hf := it_f hf c2
      refine lv_aload_n hx hb dX4_get_13 rfl (lv_at hl 0 rfl) ?_
      refine va_get (D := D) (ci := 4) (v := .ref b) (C := RX4) (T := TX4) (N := 1) hx hb hts inX4_get hown hK.1 hP 0 rfl rfl 0 (by decide) (hts (.fieldLink RX4 15 "ClosExchange$Row" "cells" "[I") (List.mem_of_getElem? (i := 1) rfl)) (fun _ h9 => h9) rfl dX4_get_14 ?_
      refine lv_iload_n hx hb dX4_get_17 rfl (lv_at hl 1 rfl) ?_
      refine va_iald hx hb hK.1 hP 1 0 rfl rfl (row_in hL c1 c2) dX4_get_18 ?_
      refine lv_goto (tgt := 24) hx hb dX4_get_19 (by decide) ?_
      subst hf
      exact hret _ _ ls _ dX4_get_24 rfl hS
set_option maxRecDepth 100000 in
set_option maxHeartbeats 4000000 in
theorem c_X4_set (l : Launch) (D : va_G) (cI cN : ClassId) (a b L : Nat) (hL : L < 2147483648) (sz : Nat) (f : Nat → Int32) (x1 x2 : Int32) (n1 : Nat → Int32) (hf : rset f L x1 x2 = n1) : CtV l D cI cN yX4_set wsX4_set rm_X4_set 0 0 [.ref a, .int x1, .int x2] (rwW cI a b L f) sz (rwW cI a b L n1) := by
  refine mV (cc := cX4_set) (maxL := 3) (by decide) rfl (Nat.le_of_ble_eq_true rfl) ?_
  intro p e s m args below meth c Q A S _ hK hP hD hS hA hret ls hl
  obtain ⟨hx, hb, hml, hown, hts⟩ := id S
  have hl : lv_has ls 3 [(0, .ref a), (1, .int x1), (2, .int x2)] := hl
  unfold rset at hf
  refine lv_iload_n hx hb dX4_set_0 rfl (lv_at hl 1 rfl) ?_
  refine lv_if_lt (tgt := 20) hx hb dX4_set_1 (by decide) (fun c1 => ?_) (fun c1 => ?_)
  · have hf := it_t hf c1
    subst hf
    exact hret _ _ ls _ dX4_set_20 hP hD hS
  · have hf := it_f hf c1
    refine lv_iload_n hx hb dX4_set_4 rfl (lv_at hl 1 rfl) ?_
    refine lv_aload_n hx hb dX4_set_5 rfl (lv_at hl 0 rfl) ?_
    refine va_get (D := D) (ci := 4) (v := .ref b) (C := RX4) (T := TX4) (N := 1) hx hb hts inX4_set hown hK.1 hP 0 rfl rfl 0 (by decide) (hts (.fieldLink RX4 15 "ClosExchange$Row" "cells" "[I") (List.mem_of_getElem? (i := 1) rfl)) (fun _ h9 => h9) rfl dX4_set_6 ?_
    refine va_alen (v := Int32.ofNat L) hx hb hK.1 hP 1 0 rfl rfl rfl dX4_set_9 ?_
    refine lv_icmp_ge (tgt := 20) hx hb dX4_set_10 (by decide) (fun c2 => ?_) (fun c2 => ?_)
    · have hf := it_t hf c2
      subst hf
      exact hret _ _ ls _ dX4_set_20 hP hD hS
    · have hf := it_f hf c2
      refine lv_aload_n hx hb dX4_set_13 rfl (lv_at hl 0 rfl) ?_
      refine va_get (D := D) (ci := 4) (v := .ref b) (C := RX4) (T := TX4) (N := 1) hx hb hts inX4_set hown hK.1 hP 0 rfl rfl 0 (by decide) (hts (.fieldLink RX4 15 "ClosExchange$Row" "cells" "[I") (List.mem_of_getElem? (i := 1) rfl)) (fun _ h9 => h9) rfl dX4_set_14 ?_
      refine lv_iload_n hx hb dX4_set_17 rfl (lv_at hl 1 rfl) ?_
      refine lv_iload_n hx hb dX4_set_18 rfl (lv_at hl 2 rfl) ?_
      refine giast (wf := rwW cI a b L (upd f x1.toNatClampNeg x2)) hx hb hK.1 hP hD hS 1 0 rfl rfl (row_in hL c1 c2) dX4_set_19 rfl (fun H locs hP hD hS => ?_)
      subst hf
      exact hret _ _ ls _ dX4_set_20 hP hD hS
set_option maxRecDepth 100000 in
set_option maxHeartbeats 4000000 in
/-- Arrays.fill(int[], int) -/
theorem c_J7_fill (l : Launch) (D : va_G) (cI cN : ClassId) (b L : Nat) (hL : L < 2147483648) (sz : Nat) (f : Nat → Int32) (x1 : Int32) : CtV l D cI cN yJ7_fill_53178 wsJ7_fill_53178 rm_J7_fill 0 0 [.ref b, .int x1] [(b, .inl (cI, L, .inl f))] sz [(b, .inl (cI, L, .inl (fun _ => x1)))] := by
  refine mV (cc := cJ7_fill_53178) (maxL := 4) (by decide) rfl (Nat.le_of_ble_eq_true rfl) ?_
  intro p e s m args below meth c Q A S _ hK hP hD hS hA hret ls hl
  obtain ⟨hx, hb, hml, hown, hts⟩ := id S
  have hl : lv_has ls 4 [(0, .ref b), (1, .int x1)] := hl
  refine lv_iconst (v := (0 : Int32)) hx hb dJ7_fill_53178_0 (by decide) ?_
  refine lv_istore_n (lv' := [(2, .int (0 : Int32)), (0, .ref b), (1, .int x1)]) hx hb dJ7_fill_53178_1 rfl hl (by decide) rfl (fun ls hl => ?_)
  refine lv_aload_n hx hb dJ7_fill_53178_2 rfl (lv_at hl 1 rfl) ?_
  refine va_alen (v := Int32.ofNat L) hx hb hK.1 hP 0 0 rfl rfl rfl dJ7_fill_53178_3 ?_
  refine lv_istore_n (lv' := [(3, .int (Int32.ofNat L)), (2, .int (0 : Int32)), (0, .ref b), (1, .int x1)]) hx hb dJ7_fill_53178_4 rfl hl (by decide) rfl (fun ls hl => ?_)
  have loop : ∀ (k j : Nat), j + k = L → ∀ (g : Nat → Int32), (∀ i, i < j → g i = x1) → ∀ (H : Heap) (locs : List Loc) (ls : Array Slot), va_P D vwCl [(b, .inl (cI, L, .inl g))] H → va_D A [(b, .inl (cI, L, .inl g))] → va_S A s.heap H locs → lv_has ls 4 [(3, .int (Int32.ofNat L)), (2, .int (nI j)), (0, .ref b), (1, .int x1)] → W p l e (headSpec wsJ7_fill_53178 rm_J7_fill).room s m args below meth c H locs 0 0 Q (F0 m 5 ls []) := by
    intro k
    induction k with
    | zero =>
      intro j hj g hg H locs ls hP hD hS hl
      refine lv_iload_n hx hb dJ7_fill_53178_5 rfl (lv_at hl 1 rfl) ?_
      refine lv_iload_n hx hb dJ7_fill_53178_6 rfl (lv_at hl 0 rfl) ?_
      refine lv_icmp_ge (tgt := 20) hx hb dJ7_fill_53178_7 (by decide) (fun _ => ?_) (fun c1 => ?_)
      · exact hret H locs ls _ dJ7_fill_53178_20 (P_ce hP (k := 0) rfl (g := fun _ => x1) (fun i hi => hg i (by omega))) (hD.set (p := 0) rfl) hS
      · exact absurd (nI_le (a := L) (b := j) (by omega) (by omega)) c1
    | succ k ih =>
      intro j hj g hg H locs ls hP hD hS hl
      refine lv_iload_n hx hb dJ7_fill_53178_5 rfl (lv_at hl 1 rfl) ?_
      refine lv_iload_n hx hb dJ7_fill_53178_6 rfl (lv_at hl 0 rfl) ?_
      refine lv_icmp_ge (tgt := 20) hx hb dJ7_fill_53178_7 (by decide) (fun c1 => ?_) (fun _ => ?_)
      · exact absurd c1 (nI_ge (a := j) (b := L) (by omega) (by omega))
      · refine lv_aload_n hx hb dJ7_fill_53178_10 rfl (lv_at hl 2 rfl) ?_
        refine lv_iload_n hx hb dJ7_fill_53178_11 rfl (lv_at hl 1 rfl) ?_
        refine lv_iload_n hx hb dJ7_fill_53178_12 rfl (lv_at hl 3 rfl) ?_
        refine giast (wf := [(b, .inl (cI, L, .inl (upd g (nI j).toNatClampNeg x1)))]) hx hb hK.1 hP hD hS 0 0 rfl rfl (vp_in_nI (by omega) (by omega)) dJ7_fill_53178_13 rfl (fun H locs hP hD hS => ?_)
        refine lv_iinc (v := nI j + 1) (lv' := [(2, .int (nI j + 1)), (3, .int (Int32.ofNat L)), (0, .ref b), (1, .int x1)]) hx hb dJ7_fill_53178_14 hl (k := 1) rfl rfl (by decide) rfl (fun ls hl => ?_)
        refine lv_goto (tgt := 5) hx hb dJ7_fill_53178_17 (by decide) ?_
        refine ih (j + 1) (by omega) (upd g (nI j).toNatClampNeg x1) (fun i hi => ?_) H locs ls hP hD hS ?_
        · rw [nI_clamp (by omega)]
          unfold upd
          by_cases hij : i = j
          · rw [if_pos hij]
          · rw [if_neg hij]; exact hg i (by omega)
        · rw [← nI_1]; exact lv_sub hl [1, 0, 2, 3] rfl
  exact loop L 0 (by omega) f (fun i hi => absurd hi (by omega)) _ _ _ hP hD hS (by rw [nI_0]; exact hl)
set_option maxRecDepth 100000 in
set_option maxHeartbeats 4000000 in
theorem c_X4_empty (l : Launch) (D : va_G) (cI cN : ClassId) (a b L : Nat) (hL : L < 2147483648) (sz : Nat) (f : Nat → Int32) : CtV l D cI cN yX4_empty wsX4_empty rm_X4_empty 0 0 [.ref a] (rwW cI a b L f) sz (rwW cI a b L rowN) := by
  refine mV (cc := cX4_empty) (maxL := 1) (by decide) rfl (Nat.le_of_ble_eq_true rfl) ?_
  intro p e s m args below meth c Q A S _ hK hP hD hS hA hret ls hl
  obtain ⟨hx, hb, hml, hown, hts⟩ := id S
  have hl : lv_has ls 1 [(0, .ref a)] := hl
  refine lv_aload_n hx hb dX4_empty_0 rfl (lv_at hl 0 rfl) ?_
  refine va_get (D := D) (ci := 4) (v := .ref b) (C := RX4) (T := TX4) (N := 1) hx hb hts inX4_empty hown hK.1 hP 0 rfl rfl 0 (by decide) (hts (.fieldLink RX4 15 "ClosExchange$Row" "cells" "[I") (List.mem_of_getElem? (i := 1) rfl)) (fun _ h9 => h9) rfl dX4_empty_1 ?_
  refine lv_bipush (v := (-6 : Int32)) hx hb dX4_empty_4 (by decide) ?_
  refine cSv (As := [.ref b, .int (-6 : Int32)]) (rest := []) (wr := pickW (rwW cI a b L f) [0]) (wf := rwW cI a b L rowN) S (c_J7_fill l D cI cN b L hL _ f (-6)) (va_cwS 2 hts gX4_empty_J7_fill_53178 rfl rfl rfl (by decide +kernel) ⟨Nat.le_of_ble_eq_true rfl, Nat.le_of_ble_eq_true rfl⟩) hK hP hD hS hA [1] [0] [0, 1] rfl rfl rfl rfl (by decide) rfl rfl rfl hl.1 rfl (Nat.le_of_ble_eq_true rfl) dX4_empty_6 ⟨Nat.zero_le _, Nat.zero_le _⟩ (fun H locs hP hD hS => ?_)
  exact hret _ _ ls _ dX4_empty_9 hP hD hS
set_option maxRecDepth 100000 in
set_option maxHeartbeats 4000000 in
theorem c_X4_copyFrom (l : Launch) (D : va_G) (cI cN : ClassId) (a b a2 b2 L : Nat) (hL : L < 2147483648) (sz : Nat) (f g : Nat → Int32) : CtV l D cI cN yX4_copyFrom wsX4_copyFrom rm_X4_copyFrom 0 0 [.ref a, .ref a2] (rwW cI a b L f ++ rwW cI a2 b2 L g) sz (rwW cI a b L g ++ rwW cI a2 b2 L g) := by
  refine mV (cc := cX4_copyFrom) (maxL := 2) (by decide) rfl (Nat.le_of_ble_eq_true rfl) ?_
  intro p e s m args below meth c Q A S _ hK hP hD hS hA hret ls hl
  obtain ⟨hx, hb, hml, hown, hts⟩ := id S
  have hl : lv_has ls 2 [(0, .ref a), (1, .ref a2)] := hl
  refine lv_aload_n hx hb dX4_copyFrom_0 rfl (lv_at hl 1 rfl) ?_
  refine va_get (D := D) (ci := 4) (v := .ref b2) (C := RX4) (T := TX4) (N := 1) hx hb hts inX4_copyFrom hown hK.1 hP 2 rfl rfl 0 (by decide) (hts (.fieldLink RX4 15 "ClosExchange$Row" "cells" "[I") (List.mem_of_getElem? (i := 1) rfl)) (fun _ h9 => h9) rfl dX4_copyFrom_1 ?_
  refine lv_iconst (v := (0 : Int32)) hx hb dX4_copyFrom_4 (by decide) ?_
  refine lv_aload_n hx hb dX4_copyFrom_5 rfl (lv_at hl 0 rfl) ?_
  refine va_get (D := D) (ci := 4) (v := .ref b) (C := RX4) (T := TX4) (N := 1) hx hb hts inX4_copyFrom hown hK.1 hP 0 rfl rfl 0 (by decide) (hts (.fieldLink RX4 15 "ClosExchange$Row" "cells" "[I") (List.mem_of_getElem? (i := 1) rfl)) (fun _ h9 => h9) rfl dX4_copyFrom_6 ?_
  refine lv_iconst (v := (0 : Int32)) hx hb dX4_copyFrom_9 (by decide) ?_
  refine lv_aload_n hx hb dX4_copyFrom_10 rfl (lv_at hl 0 rfl) ?_
  refine va_get (D := D) (ci := 4) (v := .ref b) (C := RX4) (T := TX4) (N := 1) hx hb hts inX4_copyFrom hown hK.1 hP 0 rfl rfl 0 (by decide) (hts (.fieldLink RX4 15 "ClosExchange$Row" "cells" "[I") (List.mem_of_getElem? (i := 1) rfl)) (fun _ h9 => h9) rfl dX4_copyFrom_11 ?_
  refine va_alen (v := Int32.ofNat L) hx hb hK.1 hP 1 0 rfl rfl rfl dX4_copyFrom_14 ?_
  refine lv_aload_n hx hb dX4_copyFrom_15 rfl (lv_at hl 1 rfl) ?_
  refine va_get (D := D) (ci := 4) (v := .ref b2) (C := RX4) (T := TX4) (N := 1) hx hb hts inX4_copyFrom hown hK.1 hP 2 rfl rfl 0 (by decide) (hts (.fieldLink RX4 15 "ClosExchange$Row" "cells" "[I") (List.mem_of_getElem? (i := 1) rfl)) (fun _ h9 => h9) rfl dX4_copyFrom_16 ?_
  refine va_alen (v := Int32.ofNat L) hx hb hK.1 hP 3 0 rfl rfl rfl dX4_copyFrom_19 ?_
  refine va_mmin hx hb (hml.trans hl.1.symm) hown (hts _ (List.mem_of_getElem? (i := 2) rfl)) (hts _ (List.mem_of_getElem? (i := 3) rfl)) (hts _ (List.mem_of_getElem? (i := 4) rfl)) (hts _ (List.mem_of_getElem? (i := 5) rfl)) (Nat.le_of_ble_eq_true rfl) (Nat.le_of_ble_eq_true rfl) (Nat.zero_le _) (Nat.zero_le _) dX4_copyFrom_20 ?_
  rw [ite_self]
  have hc : (Int32.ofNat L).toNatClampNeg = L := nI_clamp (n := L) (by omega)
  have h00 : (0 : Int32).toNatClampNeg = 0 := by decide
  refine va_copyi hx hb (hml.trans hl.1.symm) hown (hts _ (List.mem_of_getElem? (i := 6) rfl)) (hts _ (List.mem_of_getElem? (i := 7) rfl)) (hts _ (List.mem_of_getElem? (i := 8) rfl)) (hts _ (List.mem_of_getElem? (i := 9) rfl)) hK.1 hP hD hS 3 1 0 0 rfl rfl rfl rfl rfl (by decide) (by decide) (nI_pos (n := L) (by omega)) (by rw [hc, h00]; omega) (by rw [hc, h00]; omega) (fun _ _ => rfl) (Nat.le_of_ble_eq_true rfl) (Nat.le_of_ble_eq_true rfl) dX4_copyFrom_23 (fun H locs hP hD hS => ?_)
  refine hret H locs ls _ dX4_copyFrom_26 (P_ce hP (k := 1) rfl (g := g) (fun j hj => ?_)) (hD.set (p := 1) rfl) hS
  rw [hc, h00, pk_cpy_in (Nat.zero_le j) (by omega), Nat.sub_zero, Nat.zero_add]
