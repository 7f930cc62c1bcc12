abbrev rm_L_law : Room := { frames := 8, cells := 0, slots := 0, locals := 209 }
set_option maxRecDepth 100000 in
set_option maxHeartbeats 4000000 in
theorem w_L_law_37 {p : Program} {l : Launch} {e : Env} {s : State} {m : MethodId} {args : Array Value} {below : List Frame} {meth : Method} {c : Code} {Q : State → Prop} {D : va_G} {cI cN : ClassId} {A : Nat → Prop} {ka : Nat} {h : Nat → Nat} {hq : Nat → Nat → Nat} {u : Nat → Nat} {qo : Nat → Nat} {qs : Nat → Nat} {t : Nat → Nat} {qt : Nat → Nat} {q : Nat → Nat} (S : CallFix p m c cL_law 14 s args wsL_law RL) (hK : KN D cI cN s) (hA : ∀ q : Nat, s.heap.size ≤ q → A q) {b : Nat} {L : Nat} {xs : Nat → Int32} (hX : va_X b L xs s s.heap) (hbl : b < s.heap.size) (hbA : ¬ A b) {x : OS} {tr : OS} {r0 : Int32} {kx' : OS} {hi' : HS} {o' : OS} {sn' : OS} {r' : OS} {n' : OS} (hret : ∀ (H : Heap) (locs : List Loc) (ls : Array Slot) (pc : Nat), decode cL_law pc = .ok (.ireturn, 1) → narrow .boolean (.int r0) = .int r0 → va_P D vwCl ((cxW ka (q 0) (qo 0) (qs 0) (qt 0) (t 0) (h 0) (u 0) (kx'.1 7)) ++ ((hiW cI cN h hq hi') ++ ((txW cI u x) ++ ((nwW cI qo o') ++ ((nwW cI qs sn') ++ ((rtW cI t r') ++ ((nwW cI qt tr) ++ (nwW cI q n')))))))) H → va_D A ((cxW ka (q 0) (qo 0) (qs 0) (qt 0) (t 0) (h 0) (u 0) (kx'.1 7)) ++ ((hiW cI cN h hq hi') ++ ((txW cI u x) ++ ((nwW cI qo o') ++ ((nwW cI qs sn') ++ ((rtW cI t r') ++ ((nwW cI qt tr) ++ (nwW cI q n')))))))) → va_S A s.heap H locs → W p l e room_1 s m args below meth c H locs 115 2889 Q (F0 m pc ls [.int r0])) : ∀ (k : Nat) (x2 : Int32) (kx : OS) (hi : HS) (o : OS) (sn : OS) (r : OS) (n : OS), fL_law_37 xs L x tr k x2 kx hi o sn r n = some (r0, kx', hi', o', sn', r', n') → ∀ (H : Heap) (locs : List Loc) (ls : Array Slot), va_P D vwCl ((cxW ka (q 0) (qo 0) (qs 0) (qt 0) (t 0) (h 0) (u 0) (kx.1 7)) ++ ((hiW cI cN h hq hi) ++ ((txW cI u x) ++ ((nwW cI qo o) ++ ((nwW cI qs sn) ++ ((rtW cI t r) ++ ((nwW cI qt tr) ++ (nwW cI q n)))))))) H → va_D A ((cxW ka (q 0) (qo 0) (qs 0) (qt 0) (t 0) (h 0) (u 0) (kx.1 7)) ++ ((hiW cI cN h hq hi) ++ ((txW cI u x) ++ ((nwW cI qo o) ++ ((nwW cI qs sn) ++ ((rtW cI t r) ++ ((nwW cI qt tr) ++ (nwW cI q n)))))))) → va_S A s.heap H locs → lv_has ls 14 [(0, .ref b), (1, .ref ka), (2, .int x2)] → W p l e room_1 s m args below meth c H locs 115 2889 Q (F0 m 37 ls []) := by
  obtain ⟨hx, hb, hml, hown, hts⟩ := id S
  intro k
  induction k with
  | zero => intro x2 kx hi o sn r n hf; rw [fL_law_37_z] at hf; cases hf
  | succ k ih =>
    intro x2 kx hi o sn r n hf H locs ls hP hD hS hl
    rw [fL_law_37_s] at hf
    refine lv_iload_n hx hb dL_law_37 rfl (lv_at hl 2 rfl) ?_
    refine lv_bipush (v := (40 : Int32)) hx hb dL_law_38 kc_bipush_40 ?_
    refine lv_icmp_ge (tgt := 335) hx hb dL_law_40 (by decide) (fun c7 => ?_) (fun c7 => ?_)
    · have hf := it_t hf c7
      refine lv_aload_n hx hb dL_law_335 rfl (lv_at hl 1 rfl) ?_
      obtain ⟨v8, hv8, hf⟩ := it_b hf
      refine cTi (As := [.ref ka]) (rest := []) S (c_L_holds l D cI cN ka (qo 0) (qs 0) (qt 0) (t 0) h hq u q _ kx hi x n v8 hv8) (va_cwS 1 hts gL_law_L_holds rfl rfl rfl (by decide +kernel) ⟨Nat.le_of_ble_eq_true rfl, Nat.le_of_ble_eq_true rfl⟩) hK hP hS hA (P_sel [(true, (cxW ka (q 0) (qo 0) (qs 0) (qt 0) (t 0) (h 0) (u 0) (kx.1 7)), (cxW ka (q 0) (qo 0) (qs 0) (qt 0) (t 0) (h 0) (u 0) (kx.1 7))), (true, (hiW cI cN h hq hi), (hiW cI cN h hq hi)), (true, (txW cI u x), (txW cI u x)), (false, (nwW cI qo o), (nwW cI qo o)), (false, (nwW cI qs sn), (nwW cI qs sn)), (false, (rtW cI t r), (rtW cI t r)), (false, (nwW cI qt tr), (nwW cI qt tr)), (true, (nwW cI q n), (nwW cI q n))] hP) rfl hl.1 rfl (Nat.le_of_ble_eq_true rfl) dL_law_336 ⟨Nat.le_of_ble_eq_true rfl, Nat.le_of_ble_eq_true rfl⟩ (fun H locs hP hS => ?_)
      obtain ⟨c9, hf⟩ := it_g hf
      have e0 : v8 = r0 := congrArg (fun z => z.1) (Option.some.inj hf)
      have e1 : kx = kx' := congrArg (fun z => z.2.1) (Option.some.inj hf)
      have e2 : hi = hi' := congrArg (fun z => z.2.2.1) (Option.some.inj hf)
      have e3 : o = o' := congrArg (fun z => z.2.2.2.1) (Option.some.inj hf)
      have e4 : sn = sn' := congrArg (fun z => z.2.2.2.2.1) (Option.some.inj hf)
      have e5 : r = r' := congrArg (fun z => z.2.2.2.2.2.1) (Option.some.inj hf)
      have e6 : n = n' := congrArg (fun z => z.2.2.2.2.2.2) (Option.some.inj hf)
      subst e0
      subst e1
      subst e2
      subst e3
      subst e4
      subst e5
      subst e6
      exact hret H locs ls _ dL_law_339 (nb_bool c9) hP hD hS
    · have hf := it_f hf c7
      refine lv_aload_n hx hb dL_law_43 rfl (lv_at hl 0 rfl) ?_
      refine lv_iconst (v := (2 : Int32)) hx hb dL_law_44 kc_iconst_2 ?_
      refine lv_iload_n hx hb dL_law_45 rfl (lv_at hl 2 rfl) ?_
      refine lv_imul hx hb dL_law_46 ?_
      obtain ⟨v10, hv10, hf⟩ := it_b hf
      refine cXi (rest := []) S (c_L_cell l b L _ xs ((2 : Int32) * x2) v10 hv10) (va_cwS 2 hts gL_law_L_cell rfl rfl rfl (by decide +kernel) ⟨Nat.le_of_ble_eq_true rfl, Nat.le_of_ble_eq_true rfl⟩) hP hS hA hX hbl hbA rfl hl.1 rfl (Nat.le_of_ble_eq_true rfl) dL_law_47 ⟨Nat.le_of_ble_eq_true rfl, Nat.le_of_ble_eq_true rfl⟩ (fun H locs hP hS => ?_)
      refine lv_istore_n (lv' := [(3, .int v10), (0, .ref b), (1, .ref ka), (2, .int x2)]) hx hb dL_law_50 rfl hl (by decide) rfl (fun ls hl => ?_)
      refine lv_aload_n hx hb dL_law_51 rfl (lv_at hl 1 rfl) ?_
      refine lv_iconst (v := (2 : Int32)) hx hb dL_law_52 kc_iconst_2 ?_
      refine lv_iload_n hx hb dL_law_53 rfl (lv_at hl 3 rfl) ?_
      refine lv_imul hx hb dL_law_54 ?_
      refine lv_iconst (v := (1 : Int32)) hx hb dL_law_55 kc_iconst_1 ?_
      refine lv_iadd hx hb dL_law_56 ?_
      obtain ⟨v11, hv11, hf⟩ := it_b hf
      refine cXi (rest := []) S (c_L_cell l b L _ xs (((2 : Int32) * x2) + (1 : Int32)) v11 hv11) (va_cwS 2 hts gL_law_L_cell rfl rfl rfl (by decide +kernel) ⟨Nat.le_of_ble_eq_true rfl, Nat.le_of_ble_eq_true rfl⟩) hP hS hA hX hbl hbA rfl hl.1 rfl (Nat.le_of_ble_eq_true rfl) dL_law_57 ⟨Nat.le_of_ble_eq_true rfl, Nat.le_of_ble_eq_true rfl⟩ (fun H locs hP hS => ?_)
      refine lv_istore (lv' := [(4, .int v11), (3, .int v10), (0, .ref b), (1, .ref ka), (2, .int x2)]) hx hb dL_law_60 hl (by decide) rfl (fun ls hl => ?_)
      refine lv_aload_n hx hb dL_law_62 rfl (lv_at hl 3 rfl) ?_
      obtain ⟨v12, hv12, hf⟩ := it_b hf
      refine cTl (As := [.ref ka]) (rest := []) S (c_L_told l D cI cN ka (qo 0) (qs 0) (qt 0) (t 0) h hq u q _ kx hi x n v12 hv12) (va_cwS 1 hts gL_law_L_told rfl rfl rfl (by decide +kernel) ⟨Nat.le_of_ble_eq_true rfl, Nat.le_of_ble_eq_true rfl⟩) hK hP hS hA (P_sel [(true, (cxW ka (q 0) (qo 0) (qs 0) (qt 0) (t 0) (h 0) (u 0) (kx.1 7)), (cxW ka (q 0) (qo 0) (qs 0) (qt 0) (t 0) (h 0) (u 0) (kx.1 7))), (true, (hiW cI cN h hq hi), (hiW cI cN h hq hi)), (true, (txW cI u x), (txW cI u x)), (false, (nwW cI qo o), (nwW cI qo o)), (false, (nwW cI qs sn), (nwW cI qs sn)), (false, (rtW cI t r), (rtW cI t r)), (false, (nwW cI qt tr), (nwW cI qt tr)), (true, (nwW cI q n), (nwW cI q n))] hP) rfl hl.1 rfl (Nat.le_of_ble_eq_true rfl) dL_law_63 ⟨Nat.le_of_ble_eq_true rfl, Nat.le_of_ble_eq_true rfl⟩ (fun H locs hP hS => ?_)
      refine lv_lstore (lv' := [(5, .long v12), (4, .int v11), (3, .int v10), (0, .ref b), (1, .ref ka), (2, .int x2)]) hx hb dL_law_66 hl (by decide) rfl (fun ls hl => ?_)
      refine lv_aload_n hx hb dL_law_68 rfl (lv_at hl 4 rfl) ?_
      refine lv_bipush (v := (10 : Int32)) hx hb dL_law_69 kc_bipush_10 ?_
      obtain ⟨v13, hv13, hf⟩ := it_b hf
      refine cQi (As := [.int (10 : Int32)]) (rest := []) (q0 := 0) (ci := 5) S (c_X5_total l D cI cN ka (qo 0) (qs 0) (qt 0) (t 0) h hq u q _ kx hi x n (10 : Int32) v13 hv13) (cwV 1 hts gL_law_X5_total rfl rfl rfl (by decide +kernel) ⟨Nat.le_of_ble_eq_true rfl, Nat.le_of_ble_eq_true rfl⟩) hK hP hS hA (P_sel [(true, (cxW ka (q 0) (qo 0) (qs 0) (qt 0) (t 0) (h 0) (u 0) (kx.1 7)), (cxW ka (q 0) (qo 0) (qs 0) (qt 0) (t 0) (h 0) (u 0) (kx.1 7))), (true, (hiW cI cN h hq hi), (hiW cI cN h hq hi)), (true, (txW cI u x), (txW cI u x)), (false, (nwW cI qo o), (nwW cI qo o)), (false, (nwW cI qs sn), (nwW cI qs sn)), (false, (rtW cI t r), (rtW cI t r)), (false, (nwW cI qt tr), (nwW cI qt tr)), (true, (nwW cI q n), (nwW cI q n))] hP) rfl rfl rfl hl.1 rfl (Nat.le_of_ble_eq_true rfl) dL_law_71 ⟨Nat.le_of_ble_eq_true rfl, Nat.le_of_ble_eq_true rfl⟩ (fun H locs hP hS => ?_)
      refine lv_istore (lv' := [(7, .int v13), (5, .long v12), (4, .int v11), (3, .int v10), (0, .ref b), (1, .ref ka), (2, .int x2)]) hx hb dL_law_74 hl (by decide) rfl (fun ls hl => ?_)
      refine lv_aload_n hx hb dL_law_76 rfl (lv_at hl 5 rfl) ?_
      refine lv_iload_n hx hb dL_law_77 rfl (lv_at hl 3 rfl) ?_
      refine lv_iload hx hb dL_law_78 (lv_at hl 2 rfl) ?_
      obtain ⟨v14, hv14, hf⟩ := it_b hf
      refine cTw (As := [.ref ka, .int v10, .int v11]) (rest := []) [(true, (cxW ka (q 0) (qo 0) (qs 0) (qt 0) (t 0) (h 0) (u 0) (kx.1 7)), (cxW ka (q 0) (qo 0) (qs 0) (qt 0) (t 0) (h 0) (u 0) (kx.1 7))), (true, (hiW cI cN h hq hi), (hiW cI cN h hq v14.2.1)), (true, (txW cI u x), (txW cI u x)), (true, (nwW cI qo o), (nwW cI qo v14.2.2.1)), (true, (nwW cI qs sn), (nwW cI qs sn)), (true, (rtW cI t r), (rtW cI t v14.2.2.2.1)), (false, (nwW cI qt tr), (nwW cI qt tr)), (true, (nwW cI q n), (nwW cI q v14.2.2.2.2))] ⟨ad_cex, (fun h => Bool.noConfusion h), ad_his, (fun h => Bool.noConfusion h), ad_txt, (fun h => Bool.noConfusion h), ad_net, (fun h => Bool.noConfusion h), ad_net, (fun h => Bool.noConfusion h), ad_rtr, (fun h => Bool.noConfusion h), rfl, (fun _ => rfl), ad_net, (fun h => Bool.noConfusion h), trivial⟩ S (c_L_act l D cI cN ka (qt 0) h hq u qo qs t q _ kx hi x o sn r n v10 v11 v14.1 v14.2.1 v14.2.2.1 v14.2.2.2.1 v14.2.2.2.2 hv14) (va_cwS 3 hts gL_law_L_act rfl rfl rfl (by decide +kernel) ⟨Nat.le_of_ble_eq_true rfl, Nat.le_of_ble_eq_true rfl⟩) hK hP hD hS hA rfl hl.1 rfl (Nat.le_of_ble_eq_true rfl) dL_law_80 ⟨Nat.le_of_ble_eq_true rfl, Nat.le_of_ble_eq_true rfl⟩ (fun H locs hP hD hS => ?_)
      refine lv_istore (lv' := [(8, .int v14.1), (7, .int v13), (5, .long v12), (4, .int v11), (3, .int v10), (0, .ref b), (1, .ref ka), (2, .int x2)]) hx hb dL_law_83 hl (by decide) rfl (fun ls hl => ?_)
      refine lv_aload_n hx hb dL_law_85 rfl (lv_at hl 6 rfl) ?_
      obtain ⟨v15, hv15, hf⟩ := it_b hf
      refine cTl (As := [.ref ka]) (rest := []) S (c_L_told l D cI cN ka (qo 0) (qs 0) (qt 0) (t 0) h hq u q _ kx v14.2.1 x v14.2.2.2.2 v15 hv15) (va_cwS 1 hts gL_law_L_told rfl rfl rfl (by decide +kernel) ⟨Nat.le_of_ble_eq_true rfl, Nat.le_of_ble_eq_true rfl⟩) hK hP hS hA (P_sel [(true, (cxW ka (q 0) (qo 0) (qs 0) (qt 0) (t 0) (h 0) (u 0) (kx.1 7)), (cxW ka (q 0) (qo 0) (qs 0) (qt 0) (t 0) (h 0) (u 0) (kx.1 7))), (true, (hiW cI cN h hq v14.2.1), (hiW cI cN h hq v14.2.1)), (true, (txW cI u x), (txW cI u x)), (false, (nwW cI qo v14.2.2.1), (nwW cI qo v14.2.2.1)), (false, (nwW cI qs sn), (nwW cI qs sn)), (false, (rtW cI t v14.2.2.2.1), (rtW cI t v14.2.2.2.1)), (false, (nwW cI qt tr), (nwW cI qt tr)), (true, (nwW cI q v14.2.2.2.2), (nwW cI q v14.2.2.2.2))] hP) rfl hl.1 rfl (Nat.le_of_ble_eq_true rfl) dL_law_86 ⟨Nat.le_of_ble_eq_true rfl, Nat.le_of_ble_eq_true rfl⟩ (fun H locs hP hS => ?_)
      refine lv_lstore (lv' := [(9, .long v15), (8, .int v14.1), (7, .int v13), (5, .long v12), (4, .int v11), (3, .int v10), (0, .ref b), (1, .ref ka), (2, .int x2)]) hx hb dL_law_89 hl (by decide) rfl (fun ls hl => ?_)
      refine lv_iload hx hb dL_law_91 (lv_at hl 1 rfl) ?_
      refine lv_if_ge (tgt := 118) hx hb dL_law_93 (by decide) (fun c16 => ?_) (fun c16 => ?_)
      · have hf := it_t hf c16
        refine lv_aload_n hx hb dL_law_118 rfl (lv_at hl 7 rfl) ?_
        refine lv_bipush (v := (10 : Int32)) hx hb dL_law_119 kc_bipush_10 ?_
        obtain ⟨v17, hv17, hf⟩ := it_b hf
        refine cQi (As := [.int (10 : Int32)]) (rest := []) (q0 := 0) (ci := 5) S (c_X5_total l D cI cN ka (qo 0) (qs 0) (qt 0) (t 0) h hq u q _ kx v14.2.1 x v14.2.2.2.2 (10 : Int32) v17 hv17) (cwV 1 hts gL_law_X5_total rfl rfl rfl (by decide +kernel) ⟨Nat.le_of_ble_eq_true rfl, Nat.le_of_ble_eq_true rfl⟩) hK hP hS hA (P_sel [(true, (cxW ka (q 0) (qo 0) (qs 0) (qt 0) (t 0) (h 0) (u 0) (kx.1 7)), (cxW ka (q 0) (qo 0) (qs 0) (qt 0) (t 0) (h 0) (u 0) (kx.1 7))), (true, (hiW cI cN h hq v14.2.1), (hiW cI cN h hq v14.2.1)), (true, (txW cI u x), (txW cI u x)), (false, (nwW cI qo v14.2.2.1), (nwW cI qo v14.2.2.1)), (false, (nwW cI qs sn), (nwW cI qs sn)), (false, (rtW cI t v14.2.2.2.1), (rtW cI t v14.2.2.2.1)), (false, (nwW cI qt tr), (nwW cI qt tr)), (true, (nwW cI q v14.2.2.2.2), (nwW cI q v14.2.2.2.2))] hP) rfl rfl rfl hl.1 rfl (Nat.le_of_ble_eq_true rfl) dL_law_121 ⟨Nat.le_of_ble_eq_true rfl, Nat.le_of_ble_eq_true rfl⟩ (fun H locs hP hS => ?_)
        refine lv_iload hx hb dL_law_124 (lv_at hl 2 rfl) ?_
        refine lv_iconst (v := (4 : Int32)) hx hb dL_law_126 kc_iconst_4 ?_
        obtain ⟨v19, hg, hf⟩ := it_j hf
        have hj : ∀ (H : Heap) (locs : List Loc) (ls : Array Slot), va_P D vwCl ((cxW ka (q 0) (qo 0) (qs 0) (qt 0) (t 0) (h 0) (u 0) (kx.1 7)) ++ ((hiW cI cN h hq v14.2.1) ++ ((txW cI u x) ++ ((nwW cI qo v14.2.2.1) ++ ((nwW cI qs sn) ++ ((rtW cI t v14.2.2.2.1) ++ ((nwW cI qt tr) ++ (nwW cI q v14.2.2.2.2)))))))) H → va_D A ((cxW ka (q 0) (qo 0) (qs 0) (qt 0) (t 0) (h 0) (u 0) (kx.1 7)) ++ ((hiW cI cN h hq v14.2.1) ++ ((txW cI u x) ++ ((nwW cI qo v14.2.2.1) ++ ((nwW cI qs sn) ++ ((rtW cI t v14.2.2.2.1) ++ ((nwW cI qt tr) ++ (nwW cI q v14.2.2.2.2)))))))) → va_S A s.heap H locs → lv_has ls 14 [(0, .ref b), (1, .ref ka), (2, .int x2), (3, .int v10), (4, .int v11), (5, .long v12), (8, .int v14.1), (9, .long v15)] → W p l e room_1 s m args below meth c H locs 115 2889 Q (F0 m 138 ls [.int v19, .int v17]) := by
          intro H locs ls hP hD hS hl
          refine lv_icmp_eq (tgt := 143) hx hb dL_law_138 (by decide) (fun c20 => ?_) (fun c20 => ?_)
          · have hf := it_t hf c20
            refine lv_iload hx hb dL_law_143 (lv_at hl 6 rfl) ?_
            refine lv_if_lt (tgt := 210) hx hb dL_law_145 (by decide) (fun c21 => ?_) (fun c21 => ?_)
            · have hf := it_t hf c21
              refine lv_aload_n hx hb dL_law_210 rfl (lv_at hl 1 rfl) ?_
              refine lv_iconst (v := (0 : Int32)) hx hb dL_law_211 kc_iconst_0 ?_
              obtain ⟨v22, hv22, hf⟩ := it_b hf
              refine cQi (As := [.int (0 : Int32)]) (rest := []) (q0 := 0) (ci := 5) S (c_X5_total l D cI cN ka (qo 0) (qs 0) (qt 0) (t 0) h hq u q _ kx v14.2.1 x v14.2.2.2.2 (0 : Int32) v22 hv22) (cwV 1 hts gL_law_X5_total rfl rfl rfl (by decide +kernel) ⟨Nat.le_of_ble_eq_true rfl, Nat.le_of_ble_eq_true rfl⟩) hK hP hS hA (P_sel [(true, (cxW ka (q 0) (qo 0) (qs 0) (qt 0) (t 0) (h 0) (u 0) (kx.1 7)), (cxW ka (q 0) (qo 0) (qs 0) (qt 0) (t 0) (h 0) (u 0) (kx.1 7))), (true, (hiW cI cN h hq v14.2.1), (hiW cI cN h hq v14.2.1)), (true, (txW cI u x), (txW cI u x)), (false, (nwW cI qo v14.2.2.1), (nwW cI qo v14.2.2.1)), (false, (nwW cI qs sn), (nwW cI qs sn)), (false, (rtW cI t v14.2.2.2.1), (rtW cI t v14.2.2.2.1)), (false, (nwW cI qt tr), (nwW cI qt tr)), (true, (nwW cI q v14.2.2.2.2), (nwW cI q v14.2.2.2.2))] hP) rfl rfl rfl hl.1 rfl (Nat.le_of_ble_eq_true rfl) dL_law_212 ⟨Nat.le_of_ble_eq_true rfl, Nat.le_of_ble_eq_true rfl⟩ (fun H locs hP hS => ?_)
              refine lv_aload_n hx hb dL_law_215 rfl (lv_at hl 1 rfl) ?_
              refine lv_iconst (v := (1 : Int32)) hx hb dL_law_216 kc_iconst_1 ?_
              obtain ⟨v23, hv23, hf⟩ := it_b hf
              refine cQi (As := [.int (1 : Int32)]) (rest := [.int v22]) (q0 := 0) (ci := 5) S (c_X5_total l D cI cN ka (qo 0) (qs 0) (qt 0) (t 0) h hq u q _ kx v14.2.1 x v14.2.2.2.2 (1 : Int32) v23 hv23) (cwV 1 hts gL_law_X5_total rfl rfl rfl (by decide +kernel) ⟨Nat.le_of_ble_eq_true rfl, Nat.le_of_ble_eq_true rfl⟩) hK hP hS hA (P_sel [(true, (cxW ka (q 0) (qo 0) (qs 0) (qt 0) (t 0) (h 0) (u 0) (kx.1 7)), (cxW ka (q 0) (qo 0) (qs 0) (qt 0) (t 0) (h 0) (u 0) (kx.1 7))), (true, (hiW cI cN h hq v14.2.1), (hiW cI cN h hq v14.2.1)), (true, (txW cI u x), (txW cI u x)), (false, (nwW cI qo v14.2.2.1), (nwW cI qo v14.2.2.1)), (false, (nwW cI qs sn), (nwW cI qs sn)), (false, (rtW cI t v14.2.2.2.1), (rtW cI t v14.2.2.2.1)), (false, (nwW cI qt tr), (nwW cI qt tr)), (true, (nwW cI q v14.2.2.2.2), (nwW cI q v14.2.2.2.2))] hP) rfl rfl rfl hl.1 rfl (Nat.le_of_ble_eq_true rfl) dL_law_217 ⟨Nat.le_of_ble_eq_true rfl, Nat.le_of_ble_eq_true rfl⟩ (fun H locs hP hS => ?_)
              refine lv_imul hx hb dL_law_220 ?_
              refine lv_istore (lv' := [(11, .int (v22 * v23)), (0, .ref b), (1, .ref ka), (2, .int x2), (3, .int v10), (4, .int v11), (5, .long v12), (8, .int v14.1), (9, .long v15)]) hx hb dL_law_221 hl (by decide) rfl (fun ls hl => ?_)
              refine lv_iload_n hx hb dL_law_223 rfl (lv_at hl 3 rfl) ?_
              refine lv_iconst (v := (3 : Int32)) hx hb dL_law_224 kc_iconst_3 ?_
              refine lv_irem hx hb dL_law_225 (by decide) ?_
              obtain ⟨v32, hg, hf⟩ := it_b hf
              have hj : ∀ (H : Heap) (locs : List Loc) (ls : Array Slot), va_P D vwCl ((cxW ka (q 0) (qo 0) (qs 0) (qt 0) (t 0) (h 0) (u 0) (kx.1 7)) ++ ((hiW cI cN h hq v32.2.1) ++ ((txW cI u x) ++ ((nwW cI qo v32.2.2.1) ++ ((nwW cI qs sn) ++ ((rtW cI t v32.2.2.2.1) ++ ((nwW cI qt tr) ++ (nwW cI q v32.2.2.2.2)))))))) H → va_D A ((cxW ka (q 0) (qo 0) (qs 0) (qt 0) (t 0) (h 0) (u 0) (kx.1 7)) ++ ((hiW cI cN h hq v32.2.1) ++ ((txW cI u x) ++ ((nwW cI qo v32.2.2.1) ++ ((nwW cI qs sn) ++ ((rtW cI t v32.2.2.2.1) ++ ((nwW cI qt tr) ++ (nwW cI q v32.2.2.2.2)))))))) → va_S A s.heap H locs → lv_has ls 14 [(0, .ref b), (1, .ref ka), (2, .int x2)] → W p l e room_1 s m args below meth c H locs 115 2889 Q (F0 m 286 ls [.int v32.1]) := by
                intro H locs ls hP hD hS hl
                refine lv_istore (lv' := [(12, .int v32.1), (0, .ref b), (1, .ref ka), (2, .int x2)]) hx hb dL_law_286 hl (by decide) rfl (fun ls hl => ?_)
                refine lv_iload hx hb dL_law_288 (lv_at hl 0 rfl) ?_
                refine lv_if_ne (tgt := 295) hx hb dL_law_290 (by decide) (fun c33 => ?_) (fun c33 => ?_)
                · have hf := it_f hf c33
                  refine lv_iload_n hx hb dL_law_295 rfl (lv_at hl 3 rfl) ?_
                  refine lv_bipush (v := (11 : Int32)) hx hb dL_law_296 kc_bipush_11 ?_
                  refine lv_irem hx hb dL_law_298 (by decide) ?_
                  refine lv_iconst (v := (5 : Int32)) hx hb dL_law_299 kc_iconst_5 ?_
                  obtain ⟨v37, hg, hf⟩ := it_b hf
                  have hj : ∀ (H : Heap) (locs : List Loc) (ls : Array Slot), va_P D vwCl ((cxW ka (q 0) (qo 0) (qs 0) (qt 0) (t 0) (h 0) (u 0) (v37.2.1.1 7)) ++ ((hiW cI cN h hq v32.2.1) ++ ((txW cI u x) ++ ((nwW cI qo v32.2.2.1) ++ ((nwW cI qs v37.2.2) ++ ((rtW cI t v32.2.2.2.1) ++ ((nwW cI qt tr) ++ (nwW cI q v32.2.2.2.2)))))))) H → va_D A ((cxW ka (q 0) (qo 0) (qs 0) (qt 0) (t 0) (h 0) (u 0) (v37.2.1.1 7)) ++ ((hiW cI cN h hq v32.2.1) ++ ((txW cI u x) ++ ((nwW cI qo v32.2.2.1) ++ ((nwW cI qs v37.2.2) ++ ((rtW cI t v32.2.2.2.1) ++ ((nwW cI qt tr) ++ (nwW cI q v32.2.2.2.2)))))))) → va_S A s.heap H locs → lv_has ls 14 [(0, .ref b), (1, .ref ka), (2, .int x2)] → W p l e room_1 s m args below meth c H locs 115 2889 Q (F0 m 315 ls [.int v37.1]) := by
                    intro H locs ls hP hD hS hl
                    refine lv_istore (lv' := [(13, .int v37.1), (0, .ref b), (1, .ref ka), (2, .int x2)]) hx hb dL_law_315 hl (by decide) rfl (fun ls hl => ?_)
                    refine lv_iload hx hb dL_law_317 (lv_at hl 0 rfl) ?_
                    refine lv_aload_n hx hb dL_law_319 rfl (lv_at hl 2 rfl) ?_
                    refine lv_iconst (v := (5 : Int32)) hx hb dL_law_320 kc_iconst_5 ?_
                    obtain ⟨v38, hv38, hf⟩ := it_b hf
                    refine cQi (As := [.int (5 : Int32)]) (rest := [.int v37.1]) (q0 := 0) (ci := 5) S (c_X5_total l D cI cN ka (qo 0) (qs 0) (qt 0) (t 0) h hq u q _ v37.2.1 v32.2.1 x v32.2.2.2.2 (5 : Int32) v38 hv38) (cwV 1 hts gL_law_X5_total rfl rfl rfl (by decide +kernel) ⟨Nat.le_of_ble_eq_true rfl, Nat.le_of_ble_eq_true rfl⟩) hK hP hS hA (P_sel [(true, (cxW ka (q 0) (qo 0) (qs 0) (qt 0) (t 0) (h 0) (u 0) (v37.2.1.1 7)), (cxW ka (q 0) (qo 0) (qs 0) (qt 0) (t 0) (h 0) (u 0) (v37.2.1.1 7))), (true, (hiW cI cN h hq v32.2.1), (hiW cI cN h hq v32.2.1)), (true, (txW cI u x), (txW cI u x)), (false, (nwW cI qo v32.2.2.1), (nwW cI qo v32.2.2.1)), (false, (nwW cI qs v37.2.2), (nwW cI qs v37.2.2)), (false, (rtW cI t v32.2.2.2.1), (rtW cI t v32.2.2.2.1)), (false, (nwW cI qt tr), (nwW cI qt tr)), (true, (nwW cI q v32.2.2.2.2), (nwW cI q v32.2.2.2.2))] hP) rfl rfl rfl hl.1 rfl (Nat.le_of_ble_eq_true rfl) dL_law_321 ⟨Nat.le_of_ble_eq_true rfl, Nat.le_of_ble_eq_true rfl⟩ (fun H locs hP hS => ?_)
                    refine lv_icmp_eq (tgt := 329) hx hb dL_law_324 (by decide) (fun c39 => ?_) (fun c39 => ?_)
                    · have hf := it_t hf c39
                      refine lv_iinc (v := (x2 + (1 : Int32))) (lv' := [(2, .int (x2 + (1 : Int32))), (13, .int v37.1), (0, .ref b), (1, .ref ka)]) hx hb dL_law_329 hl (k := 3) rfl rfl (by decide) rfl (fun ls hl => ?_)
                      refine lv_goto (tgt := 37) hx hb dL_law_332 (by decide) ?_
                      exact ih _ _ _ _ _ _ _ hf H locs ls hP hD hS (lv_sub hl [2, 3, 0] rfl)
                    · have hf := it_f hf c39
                      refine lv_iconst (v := (0 : Int32)) hx hb dL_law_327 kc_iconst_0 ?_
                      have e0 : (0 : Int32) = r0 := congrArg (fun z => z.1) (Option.some.inj hf)
                      have e1 : v37.2.1 = kx' := congrArg (fun z => z.2.1) (Option.some.inj hf)
                      have e2 : v32.2.1 = hi' := congrArg (fun z => z.2.2.1) (Option.some.inj hf)
                      have e3 : v32.2.2.1 = o' := congrArg (fun z => z.2.2.2.1) (Option.some.inj hf)
                      have e4 : v37.2.2 = sn' := congrArg (fun z => z.2.2.2.2.1) (Option.some.inj hf)
                      have e5 : v32.2.2.2.1 = r' := congrArg (fun z => z.2.2.2.2.2.1) (Option.some.inj hf)
                      have e6 : v32.2.2.2.2 = n' := congrArg (fun z => z.2.2.2.2.2.2) (Option.some.inj hf)
                      subst e0
                      subst e1
                      subst e2
                      subst e3
                      subst e4
                      subst e5
                      subst e6
                      exact hret H locs ls _ dL_law_328 (by first | rfl | (split <;> rfl) | (split <;> (first | rfl | (split <;> rfl))) | assumption) hP hD hS
                  have hf := hg
                  refine lv_icmp_ne (tgt := 310) hx hb dL_law_300 (by decide) (fun c34 => ?_) (fun c34 => ?_)
                  · have hf := it_f hf c34
                    refine lv_aload_n hx hb dL_law_310 rfl (lv_at hl 2 rfl) ?_
                    refine lv_iconst (v := (5 : Int32)) hx hb dL_law_311 kc_iconst_5 ?_
                    obtain ⟨v35, hv35, hf⟩ := it_b hf
                    refine cQi (As := [.int (5 : Int32)]) (rest := []) (q0 := 0) (ci := 5) S (c_X5_total l D cI cN ka (qo 0) (qs 0) (qt 0) (t 0) h hq u q _ kx v32.2.1 x v32.2.2.2.2 (5 : Int32) v35 hv35) (cwV 1 hts gL_law_X5_total rfl rfl rfl (by decide +kernel) ⟨Nat.le_of_ble_eq_true rfl, Nat.le_of_ble_eq_true rfl⟩) hK hP hS hA (P_sel [(true, (cxW ka (q 0) (qo 0) (qs 0) (qt 0) (t 0) (h 0) (u 0) (kx.1 7)), (cxW ka (q 0) (qo 0) (qs 0) (qt 0) (t 0) (h 0) (u 0) (kx.1 7))), (true, (hiW cI cN h hq v32.2.1), (hiW cI cN h hq v32.2.1)), (true, (txW cI u x), (txW cI u x)), (false, (nwW cI qo v32.2.2.1), (nwW cI qo v32.2.2.1)), (false, (nwW cI qs sn), (nwW cI qs sn)), (false, (rtW cI t v32.2.2.2.1), (rtW cI t v32.2.2.2.1)), (false, (nwW cI qt tr), (nwW cI qt tr)), (true, (nwW cI q v32.2.2.2.2), (nwW cI q v32.2.2.2.2))] hP) rfl rfl rfl hl.1 rfl (Nat.le_of_ble_eq_true rfl) dL_law_312 ⟨Nat.le_of_ble_eq_true rfl, Nat.le_of_ble_eq_true rfl⟩ (fun H locs hP hS => ?_)
                    have e0 := Option.some.inj hf
                    subst e0
                    exact hj H locs ls hP hD hS (lv_sub hl [1, 2, 3] rfl)
                  · have hf := it_t hf c34
                    refine lv_aload_n hx hb dL_law_303 rfl (lv_at hl 2 rfl) ?_
                    obtain ⟨v36, hv36, hf⟩ := it_b hf
                    refine cBi (As := []) (rest := []) (q0 := 0) (ci := 5) [(true, (cxW ka (q 0) (qo 0) (qs 0) (qt 0) (t 0) (h 0) (u 0) (kx.1 7)), (cxW ka (q 0) (qo 0) (qs 0) (qt 0) (t 0) (h 0) (u 0) (v36.2.1.1 7))), (false, (hiW cI cN h hq v32.2.1), (hiW cI cN h hq v32.2.1)), (false, (txW cI u x), (txW cI u x)), (false, (nwW cI qo v32.2.2.1), (nwW cI qo v32.2.2.1)), (true, (nwW cI qs sn), (nwW cI qs v36.2.2)), (false, (rtW cI t v32.2.2.2.1), (rtW cI t v32.2.2.2.1)), (false, (nwW cI qt tr), (nwW cI qt tr)), (true, (nwW cI q v32.2.2.2.2), (nwW cI q v32.2.2.2.2))] ⟨ad_cex, (fun h => Bool.noConfusion h), rfl, (fun _ => rfl), rfl, (fun _ => rfl), rfl, (fun _ => rfl), ad_net, (fun h => Bool.noConfusion h), rfl, (fun _ => rfl), rfl, (fun _ => rfl), ad_net, (fun h => Bool.noConfusion h), trivial⟩ S (c_X5_keep l D cI cN ka (qo 0) (qt 0) (t 0) (h 0) (u 0) qs q _ kx sn v32.2.2.2.2 v36.1 v36.2.1 v36.2.2 hv36) (cwV 0 hts gL_law_X5_keep rfl rfl rfl (by decide +kernel) ⟨Nat.le_of_ble_eq_true rfl, Nat.le_of_ble_eq_true rfl⟩) hK hP hD hS hA rfl rfl rfl hl.1 rfl (Nat.le_of_ble_eq_true rfl) dL_law_304 ⟨Nat.le_of_ble_eq_true rfl, Nat.le_of_ble_eq_true rfl⟩ (fun H locs hP hD hS => ?_)
                    refine lv_goto (tgt := 315) hx hb dL_law_307 (by decide) ?_
                    have e0 := Option.some.inj hf
                    subst e0
                    exact hj H locs ls hP hD hS (lv_sub hl [1, 2, 3] rfl)
                · have hf := it_t hf c33
                  refine lv_iconst (v := (0 : Int32)) hx hb dL_law_293 kc_iconst_0 ?_
                  have e0 : (0 : Int32) = r0 := congrArg (fun z => z.1) (Option.some.inj hf)
                  have e1 : kx = kx' := congrArg (fun z => z.2.1) (Option.some.inj hf)
                  have e2 : v32.2.1 = hi' := congrArg (fun z => z.2.2.1) (Option.some.inj hf)
                  have e3 : v32.2.2.1 = o' := congrArg (fun z => z.2.2.2.1) (Option.some.inj hf)
                  have e4 : sn = sn' := congrArg (fun z => z.2.2.2.2.1) (Option.some.inj hf)
                  have e5 : v32.2.2.2.1 = r' := congrArg (fun z => z.2.2.2.2.2.1) (Option.some.inj hf)
                  have e6 : v32.2.2.2.2 = n' := congrArg (fun z => z.2.2.2.2.2.2) (Option.some.inj hf)
                  subst e0
                  subst e1
                  subst e2
                  subst e3
                  subst e4
                  subst e5
                  subst e6
                  exact hret H locs ls _ dL_law_294 (by first | rfl | (split <;> rfl) | (split <;> (first | rfl | (split <;> rfl))) | assumption) hP hD hS
              have hf := hg
              refine lv_if_ne (tgt := 236) hx hb dL_law_226 (by decide) (fun c24 => ?_) (fun c24 => ?_)
              · have hf := it_f hf c24
                refine lv_iload_n hx hb dL_law_236 rfl (lv_at hl 3 rfl) ?_
                refine lv_iconst (v := (3 : Int32)) hx hb dL_law_237 kc_iconst_3 ?_
                refine lv_irem hx hb dL_law_238 (by decide) ?_
                refine lv_iconst (v := (1 : Int32)) hx hb dL_law_239 kc_iconst_1 ?_
                refine lv_icmp_ne (tgt := 273) hx hb dL_law_240 (by decide) (fun c25 => ?_) (fun c25 => ?_)
                · have hf := it_f hf c25
                  refine lv_aload_n hx hb dL_law_273 rfl (lv_at hl 2 rfl) ?_
                  refine lv_iload_n hx hb dL_law_274 rfl (lv_at hl 4 rfl) ?_
                  refine lv_bipush (v := (9 : Int32)) hx hb dL_law_275 kc_bipush_9 ?_
                  refine lv_ishr hx hb dL_law_277 ?_
                  refine lv_iload hx hb dL_law_278 (lv_at hl 0 rfl) ?_
                  obtain ⟨v26, hv26, hf⟩ := it_b hf
                  refine cTi (As := [.int (v10 >>> ((9 : Int32) &&& 31)), .int (v22 * v23)]) (rest := [.ref ka]) S (c_L_up l D cI cN _ (v10 >>> ((9 : Int32) &&& 31)) (v22 * v23) v26 hv26) (va_cwS 2 hts gL_law_L_up rfl rfl rfl (by decide +kernel) ⟨Nat.le_of_ble_eq_true rfl, Nat.le_of_ble_eq_true rfl⟩) hK hP hS hA (P_nil hP) rfl hl.1 rfl (Nat.le_of_ble_eq_true rfl) dL_law_280 ⟨Nat.le_of_ble_eq_true rfl, Nat.le_of_ble_eq_true rfl⟩ (fun H locs hP hS => ?_)
                  obtain ⟨v27, hv27, hf⟩ := it_b hf
                  refine cTi (As := [.ref ka, .int v26]) (rest := []) S (c_L_isReached l D cI cN ka (qo 0) (qs 0) (qt 0) (t 0) h hq u q _ kx v14.2.1 x v14.2.2.2.2 v26 v27 hv27) (va_cwS 2 hts gL_law_L_isReached rfl rfl rfl (by decide +kernel) ⟨Nat.le_of_ble_eq_true rfl, Nat.le_of_ble_eq_true rfl⟩) hK hP hS hA (P_sel [(true, (cxW ka (q 0) (qo 0) (qs 0) (qt 0) (t 0) (h 0) (u 0) (kx.1 7)), (cxW ka (q 0) (qo 0) (qs 0) (qt 0) (t 0) (h 0) (u 0) (kx.1 7))), (true, (hiW cI cN h hq v14.2.1), (hiW cI cN h hq v14.2.1)), (true, (txW cI u x), (txW cI u x)), (false, (nwW cI qo v14.2.2.1), (nwW cI qo v14.2.2.1)), (false, (nwW cI qs sn), (nwW cI qs sn)), (false, (rtW cI t v14.2.2.2.1), (rtW cI t v14.2.2.2.1)), (false, (nwW cI qt tr), (nwW cI qt tr)), (true, (nwW cI q v14.2.2.2.2), (nwW cI q v14.2.2.2.2))] hP) rfl hl.1 rfl (Nat.le_of_ble_eq_true rfl) dL_law_283 ⟨Nat.le_of_ble_eq_true rfl, Nat.le_of_ble_eq_true rfl⟩ (fun H locs hP hS => ?_)
                  have e0 := Option.some.inj hf
                  subst e0
                  exact hj H locs ls hP hD hS (lv_sub hl [1, 2, 3] rfl)
                · have hf := it_t hf c25
                  refine lv_aload_n hx hb dL_law_243 rfl (lv_at hl 2 rfl) ?_
                  refine lv_iload_n hx hb dL_law_244 rfl (lv_at hl 4 rfl) ?_
                  refine lv_bipush (v := (9 : Int32)) hx hb dL_law_245 kc_bipush_9 ?_
                  refine lv_ishr hx hb dL_law_247 ?_
                  refine lv_iload hx hb dL_law_248 (lv_at hl 0 rfl) ?_
                  refine lv_iconst (v := (1 : Int32)) hx hb dL_law_250 kc_iconst_1 ?_
                  refine lv_iadd hx hb dL_law_251 ?_
                  obtain ⟨v28, hv28, hf⟩ := it_b hf
                  refine cTi (As := [.int (v10 >>> ((9 : Int32) &&& 31)), .int ((v22 * v23) + (1 : Int32))]) (rest := [.ref ka]) S (c_L_up l D cI cN _ (v10 >>> ((9 : Int32) &&& 31)) ((v22 * v23) + (1 : Int32)) v28 hv28) (va_cwS 2 hts gL_law_L_up rfl rfl rfl (by decide +kernel) ⟨Nat.le_of_ble_eq_true rfl, Nat.le_of_ble_eq_true rfl⟩) hK hP hS hA (P_nil hP) rfl hl.1 rfl (Nat.le_of_ble_eq_true rfl) dL_law_252 ⟨Nat.le_of_ble_eq_true rfl, Nat.le_of_ble_eq_true rfl⟩ (fun H locs hP hS => ?_)
                  refine lv_iload hx hb dL_law_255 (lv_at hl 5 rfl) ?_
                  refine lv_bipush (v := (9 : Int32)) hx hb dL_law_257 kc_bipush_9 ?_
                  refine lv_ishr hx hb dL_law_259 ?_
                  refine lv_iload hx hb dL_law_260 (lv_at hl 0 rfl) ?_
                  refine lv_iconst (v := (1 : Int32)) hx hb dL_law_262 kc_iconst_1 ?_
                  refine lv_iadd hx hb dL_law_263 ?_
                  obtain ⟨v29, hv29, hf⟩ := it_b hf
                  refine cTi (As := [.int (v11 >>> ((9 : Int32) &&& 31)), .int ((v22 * v23) + (1 : Int32))]) (rest := [.int v28, .ref ka]) S (c_L_up l D cI cN _ (v11 >>> ((9 : Int32) &&& 31)) ((v22 * v23) + (1 : Int32)) v29 hv29) (va_cwS 2 hts gL_law_L_up rfl rfl rfl (by decide +kernel) ⟨Nat.le_of_ble_eq_true rfl, Nat.le_of_ble_eq_true rfl⟩) hK hP hS hA (P_nil hP) rfl hl.1 rfl (Nat.le_of_ble_eq_true rfl) dL_law_264 ⟨Nat.le_of_ble_eq_true rfl, Nat.le_of_ble_eq_true rfl⟩ (fun H locs hP hS => ?_)
                  obtain ⟨v30, hv30, hf⟩ := it_b hf
                  refine cTw (As := [.ref ka, .int v28, .int v29]) (rest := []) [(true, (cxW ka (q 0) (qo 0) (qs 0) (qt 0) (t 0) (h 0) (u 0) (kx.1 7)), (cxW ka (q 0) (qo 0) (qs 0) (qt 0) (t 0) (h 0) (u 0) (kx.1 7))), (true, (hiW cI cN h hq v14.2.1), (hiW cI cN h hq v30.2.1)), (true, (txW cI u x), (txW cI u x)), (true, (nwW cI qo v14.2.2.1), (nwW cI qo v30.2.2.1)), (false, (nwW cI qs sn), (nwW cI qs sn)), (true, (rtW cI t v14.2.2.2.1), (rtW cI t v30.2.2.2.1)), (false, (nwW cI qt tr), (nwW cI qt tr)), (true, (nwW cI q v14.2.2.2.2), (nwW cI q v30.2.2.2.2))] ⟨ad_cex, (fun h => Bool.noConfusion h), ad_his, (fun h => Bool.noConfusion h), ad_txt, (fun h => Bool.noConfusion h), ad_net, (fun h => Bool.noConfusion h), rfl, (fun _ => rfl), ad_rtr, (fun h => Bool.noConfusion h), rfl, (fun _ => rfl), ad_net, (fun h => Bool.noConfusion h), trivial⟩ S (c_L_isAhead l D cI cN ka (qs 0) (qt 0) h hq u qo t q _ kx v14.2.1 x v14.2.2.1 v14.2.2.2.1 v14.2.2.2.2 v28 v29 v30.1 v30.2.1 v30.2.2.1 v30.2.2.2.1 v30.2.2.2.2 hv30) (va_cwS 3 hts gL_law_L_isAhead rfl rfl rfl (by decide +kernel) ⟨Nat.le_of_ble_eq_true rfl, Nat.le_of_ble_eq_true rfl⟩) hK hP hD hS hA rfl hl.1 rfl (Nat.le_of_ble_eq_true rfl) dL_law_267 ⟨Nat.le_of_ble_eq_true rfl, Nat.le_of_ble_eq_true rfl⟩ (fun H locs hP hD hS => ?_)
                  refine lv_goto (tgt := 286) hx hb dL_law_270 (by decide) ?_
                  have e0 := Option.some.inj hf
                  subst e0
                  exact hj H locs ls hP hD hS (lv_sub hl [1, 2, 3] rfl)
              · have hf := it_t hf c24
                refine lv_aload_n hx hb dL_law_229 rfl (lv_at hl 2 rfl) ?_
                obtain ⟨v31, hv31, hf⟩ := it_b hf
                refine cTi (As := [.ref ka]) (rest := []) S (c_L_holds l D cI cN ka (qo 0) (qs 0) (qt 0) (t 0) h hq u q _ kx v14.2.1 x v14.2.2.2.2 v31 hv31) (va_cwS 1 hts gL_law_L_holds rfl rfl rfl (by decide +kernel) ⟨Nat.le_of_ble_eq_true rfl, Nat.le_of_ble_eq_true rfl⟩) hK hP hS hA (P_sel [(true, (cxW ka (q 0) (qo 0) (qs 0) (qt 0) (t 0) (h 0) (u 0) (kx.1 7)), (cxW ka (q 0) (qo 0) (qs 0) (qt 0) (t 0) (h 0) (u 0) (kx.1 7))), (true, (hiW cI cN h hq v14.2.1), (hiW cI cN h hq v14.2.1)), (true, (txW cI u x), (txW cI u x)), (false, (nwW cI qo v14.2.2.1), (nwW cI qo v14.2.2.1)), (false, (nwW cI qs sn), (nwW cI qs sn)), (false, (rtW cI t v14.2.2.2.1), (rtW cI t v14.2.2.2.1)), (false, (nwW cI qt tr), (nwW cI qt tr)), (true, (nwW cI q v14.2.2.2.2), (nwW cI q v14.2.2.2.2))] hP) rfl hl.1 rfl (Nat.le_of_ble_eq_true rfl) dL_law_230 ⟨Nat.le_of_ble_eq_true rfl, Nat.le_of_ble_eq_true rfl⟩ (fun H locs hP hS => ?_)
                refine lv_goto (tgt := 286) hx hb dL_law_233 (by decide) ?_
                have e0 := Option.some.inj hf
                subst e0
                exact hj H locs ls hP hD hS (lv_sub hl [1, 2, 3] rfl)
            · have hf := it_f hf c21
              refine lv_iload_n hx hb dL_law_148 rfl (lv_at hl 3 rfl) ?_
              refine lv_bipush (v := (8 : Int32)) hx hb dL_law_149 kc_bipush_8 ?_
              refine lv_ishr hx hb dL_law_151 ?_
              refine lv_iconst (v := (1 : Int32)) hx hb dL_law_152 kc_iconst_1 ?_
              refine lv_iand hx hb dL_law_153 ?_
              refine lv_if_ne (tgt := 210) hx hb dL_law_154 (by decide) (fun c40 => ?_) (fun c40 => ?_)
              · have hf := it_f hf c40
                refine lv_aload_n hx hb dL_law_210 rfl (lv_at hl 1 rfl) ?_
                refine lv_iconst (v := (0 : Int32)) hx hb dL_law_211 kc_iconst_0 ?_
                obtain ⟨v41, hv41, hf⟩ := it_b hf
                refine cQi (As := [.int (0 : Int32)]) (rest := []) (q0 := 0) (ci := 5) S (c_X5_total l D cI cN ka (qo 0) (qs 0) (qt 0) (t 0) h hq u q _ kx v14.2.1 x v14.2.2.2.2 (0 : Int32) v41 hv41) (cwV 1 hts gL_law_X5_total rfl rfl rfl (by decide +kernel) ⟨Nat.le_of_ble_eq_true rfl, Nat.le_of_ble_eq_true rfl⟩) hK hP hS hA (P_sel [(true, (cxW ka (q 0) (qo 0) (qs 0) (qt 0) (t 0) (h 0) (u 0) (kx.1 7)), (cxW ka (q 0) (qo 0) (qs 0) (qt 0) (t 0) (h 0) (u 0) (kx.1 7))), (true, (hiW cI cN h hq v14.2.1), (hiW cI cN h hq v14.2.1)), (true, (txW cI u x), (txW cI u x)), (false, (nwW cI qo v14.2.2.1), (nwW cI qo v14.2.2.1)), (false, (nwW cI qs sn), (nwW cI qs sn)), (false, (rtW cI t v14.2.2.2.1), (rtW cI t v14.2.2.2.1)), (false, (nwW cI qt tr), (nwW cI qt tr)), (true, (nwW cI q v14.2.2.2.2), (nwW cI q v14.2.2.2.2))] hP) rfl rfl rfl hl.1 rfl (Nat.le_of_ble_eq_true rfl) dL_law_212 ⟨Nat.le_of_ble_eq_true rfl, Nat.le_of_ble_eq_true rfl⟩ (fun H locs hP hS => ?_)
                refine lv_aload_n hx hb dL_law_215 rfl (lv_at hl 1 rfl) ?_
                refine lv_iconst (v := (1 : Int32)) hx hb dL_law_216 kc_iconst_1 ?_
                obtain ⟨v42, hv42, hf⟩ := it_b hf
                refine cQi (As := [.int (1 : Int32)]) (rest := [.int v41]) (q0 := 0) (ci := 5) S (c_X5_total l D cI cN ka (qo 0) (qs 0) (qt 0) (t 0) h hq u q _ kx v14.2.1 x v14.2.2.2.2 (1 : Int32) v42 hv42) (cwV 1 hts gL_law_X5_total rfl rfl rfl (by decide +kernel) ⟨Nat.le_of_ble_eq_true rfl, Nat.le_of_ble_eq_true rfl⟩) hK hP hS hA (P_sel [(true, (cxW ka (q 0) (qo 0) (qs 0) (qt 0) (t 0) (h 0) (u 0) (kx.1 7)), (cxW ka (q 0) (qo 0) (qs 0) (qt 0) (t 0) (h 0) (u 0) (kx.1 7))), (true, (hiW cI cN h hq v14.2.1), (hiW cI cN h hq v14.2.1)), (true, (txW cI u x), (txW cI u x)), (false, (nwW cI qo v14.2.2.1), (nwW cI qo v14.2.2.1)), (false, (nwW cI qs sn), (nwW cI qs sn)), (false, (rtW cI t v14.2.2.2.1), (rtW cI t v14.2.2.2.1)), (false, (nwW cI qt tr), (nwW cI qt tr)), (true, (nwW cI q v14.2.2.2.2), (nwW cI q v14.2.2.2.2))] hP) rfl rfl rfl hl.1 rfl (Nat.le_of_ble_eq_true rfl) dL_law_217 ⟨Nat.le_of_ble_eq_true rfl, Nat.le_of_ble_eq_true rfl⟩ (fun H locs hP hS => ?_)
                refine lv_imul hx hb dL_law_220 ?_
                refine lv_istore (lv' := [(11, .int (v41 * v42)), (0, .ref b), (1, .ref ka), (2, .int x2), (3, .int v10), (4, .int v11), (5, .long v12), (8, .int v14.1), (9, .long v15)]) hx hb dL_law_221 hl (by decide) rfl (fun ls hl => ?_)
                refine lv_iload_n hx hb dL_law_223 rfl (lv_at hl 3 rfl) ?_
                refine lv_iconst (v := (3 : Int32)) hx hb dL_law_224 kc_iconst_3 ?_
                refine lv_irem hx hb dL_law_225 (by decide) ?_
                obtain ⟨v51, hg, hf⟩ := it_b hf
                have hj : ∀ (H : Heap) (locs : List Loc) (ls : Array Slot), va_P D vwCl ((cxW ka (q 0) (qo 0) (qs 0) (qt 0) (t 0) (h 0) (u 0) (kx.1 7)) ++ ((hiW cI cN h hq v51.2.1) ++ ((txW cI u x) ++ ((nwW cI qo v51.2.2.1) ++ ((nwW cI qs sn) ++ ((rtW cI t v51.2.2.2.1) ++ ((nwW cI qt tr) ++ (nwW cI q v51.2.2.2.2)))))))) H → va_D A ((cxW ka (q 0) (qo 0) (qs 0) (qt 0) (t 0) (h 0) (u 0) (kx.1 7)) ++ ((hiW cI cN h hq v51.2.1) ++ ((txW cI u x) ++ ((nwW cI qo v51.2.2.1) ++ ((nwW cI qs sn) ++ ((rtW cI t v51.2.2.2.1) ++ ((nwW cI qt tr) ++ (nwW cI q v51.2.2.2.2)))))))) → va_S A s.heap H locs → lv_has ls 14 [(0, .ref b), (1, .ref ka), (2, .int x2)] → W p l e room_1 s m args below meth c H locs 115 2889 Q (F0 m 286 ls [.int v51.1]) := by
                  intro H locs ls hP hD hS hl
                  refine lv_istore (lv' := [(12, .int v51.1), (0, .ref b), (1, .ref ka), (2, .int x2)]) hx hb dL_law_286 hl (by decide) rfl (fun ls hl => ?_)
                  refine lv_iload hx hb dL_law_288 (lv_at hl 0 rfl) ?_
                  refine lv_if_ne (tgt := 295) hx hb dL_law_290 (by decide) (fun c52 => ?_) (fun c52 => ?_)
                  · have hf := it_f hf c52
                    refine lv_iload_n hx hb dL_law_295 rfl (lv_at hl 3 rfl) ?_
                    refine lv_bipush (v := (11 : Int32)) hx hb dL_law_296 kc_bipush_11 ?_
                    refine lv_irem hx hb dL_law_298 (by decide) ?_
                    refine lv_iconst (v := (5 : Int32)) hx hb dL_law_299 kc_iconst_5 ?_
                    obtain ⟨v56, hg, hf⟩ := it_b hf
                    have hj : ∀ (H : Heap) (locs : List Loc) (ls : Array Slot), va_P D vwCl ((cxW ka (q 0) (qo 0) (qs 0) (qt 0) (t 0) (h 0) (u 0) (v56.2.1.1 7)) ++ ((hiW cI cN h hq v51.2.1) ++ ((txW cI u x) ++ ((nwW cI qo v51.2.2.1) ++ ((nwW cI qs v56.2.2) ++ ((rtW cI t v51.2.2.2.1) ++ ((nwW cI qt tr) ++ (nwW cI q v51.2.2.2.2)))))))) H → va_D A ((cxW ka (q 0) (qo 0) (qs 0) (qt 0) (t 0) (h 0) (u 0) (v56.2.1.1 7)) ++ ((hiW cI cN h hq v51.2.1) ++ ((txW cI u x) ++ ((nwW cI qo v51.2.2.1) ++ ((nwW cI qs v56.2.2) ++ ((rtW cI t v51.2.2.2.1) ++ ((nwW cI qt tr) ++ (nwW cI q v51.2.2.2.2)))))))) → va_S A s.heap H locs → lv_has ls 14 [(0, .ref b), (1, .ref ka), (2, .int x2)] → W p l e room_1 s m args below meth c H locs 115 2889 Q (F0 m 315 ls [.int v56.1]) := by
                      intro H locs ls hP hD hS hl
                      refine lv_istore (lv' := [(13, .int v56.1), (0, .ref b), (1, .ref ka), (2, .int x2)]) hx hb dL_law_315 hl (by decide) rfl (fun ls hl => ?_)
                      refine lv_iload hx hb dL_law_317 (lv_at hl 0 rfl) ?_
                      refine lv_aload_n hx hb dL_law_319 rfl (lv_at hl 2 rfl) ?_
                      refine lv_iconst (v := (5 : Int32)) hx hb dL_law_320 kc_iconst_5 ?_
                      obtain ⟨v57, hv57, hf⟩ := it_b hf
                      refine cQi (As := [.int (5 : Int32)]) (rest := [.int v56.1]) (q0 := 0) (ci := 5) S (c_X5_total l D cI cN ka (qo 0) (qs 0) (qt 0) (t 0) h hq u q _ v56.2.1 v51.2.1 x v51.2.2.2.2 (5 : Int32) v57 hv57) (cwV 1 hts gL_law_X5_total rfl rfl rfl (by decide +kernel) ⟨Nat.le_of_ble_eq_true rfl, Nat.le_of_ble_eq_true rfl⟩) hK hP hS hA (P_sel [(true, (cxW ka (q 0) (qo 0) (qs 0) (qt 0) (t 0) (h 0) (u 0) (v56.2.1.1 7)), (cxW ka (q 0) (qo 0) (qs 0) (qt 0) (t 0) (h 0) (u 0) (v56.2.1.1 7))), (true, (hiW cI cN h hq v51.2.1), (hiW cI cN h hq v51.2.1)), (true, (txW cI u x), (txW cI u x)), (false, (nwW cI qo v51.2.2.1), (nwW cI qo v51.2.2.1)), (false, (nwW cI qs v56.2.2), (nwW cI qs v56.2.2)), (false, (rtW cI t v51.2.2.2.1), (rtW cI t v51.2.2.2.1)), (false, (nwW cI qt tr), (nwW cI qt tr)), (true, (nwW cI q v51.2.2.2.2), (nwW cI q v51.2.2.2.2))] hP) rfl rfl rfl hl.1 rfl (Nat.le_of_ble_eq_true rfl) dL_law_321 ⟨Nat.le_of_ble_eq_true rfl, Nat.le_of_ble_eq_true rfl⟩ (fun H locs hP hS => ?_)
                      refine lv_icmp_eq (tgt := 329) hx hb dL_law_324 (by decide) (fun c58 => ?_) (fun c58 => ?_)
                      · have hf := it_t hf c58
                        refine lv_iinc (v := (x2 + (1 : Int32))) (lv' := [(2, .int (x2 + (1 : Int32))), (13, .int v56.1), (0, .ref b), (1, .ref ka)]) hx hb dL_law_329 hl (k := 3) rfl rfl (by decide) rfl (fun ls hl => ?_)
                        refine lv_goto (tgt := 37) hx hb dL_law_332 (by decide) ?_
                        exact ih _ _ _ _ _ _ _ hf H locs ls hP hD hS (lv_sub hl [2, 3, 0] rfl)
                      · have hf := it_f hf c58
                        refine lv_iconst (v := (0 : Int32)) hx hb dL_law_327 kc_iconst_0 ?_
                        have e0 : (0 : Int32) = r0 := congrArg (fun z => z.1) (Option.some.inj hf)
                        have e1 : v56.2.1 = kx' := congrArg (fun z => z.2.1) (Option.some.inj hf)
                        have e2 : v51.2.1 = hi' := congrArg (fun z => z.2.2.1) (Option.some.inj hf)
                        have e3 : v51.2.2.1 = o' := congrArg (fun z => z.2.2.2.1) (Option.some.inj hf)
                        have e4 : v56.2.2 = sn' := congrArg (fun z => z.2.2.2.2.1) (Option.some.inj hf)
                        have e5 : v51.2.2.2.1 = r' := congrArg (fun z => z.2.2.2.2.2.1) (Option.some.inj hf)
                        have e6 : v51.2.2.2.2 = n' := congrArg (fun z => z.2.2.2.2.2.2) (Option.some.inj hf)
                        subst e0
                        subst e1
                        subst e2
                        subst e3
                        subst e4
                        subst e5
                        subst e6
                        exact hret H locs ls _ dL_law_328 (by first | rfl | (split <;> rfl) | (split <;> (first | rfl | (split <;> rfl))) | assumption) hP hD hS
                    have hf := hg
                    refine lv_icmp_ne (tgt := 310) hx hb dL_law_300 (by decide) (fun c53 => ?_) (fun c53 => ?_)
                    · have hf := it_f hf c53
                      refine lv_aload_n hx hb dL_law_310 rfl (lv_at hl 2 rfl) ?_
                      refine lv_iconst (v := (5 : Int32)) hx hb dL_law_311 kc_iconst_5 ?_
                      obtain ⟨v54, hv54, hf⟩ := it_b hf
                      refine cQi (As := [.int (5 : Int32)]) (rest := []) (q0 := 0) (ci := 5) S (c_X5_total l D cI cN ka (qo 0) (qs 0) (qt 0) (t 0) h hq u q _ kx v51.2.1 x v51.2.2.2.2 (5 : Int32) v54 hv54) (cwV 1 hts gL_law_X5_total rfl rfl rfl (by decide +kernel) ⟨Nat.le_of_ble_eq_true rfl, Nat.le_of_ble_eq_true rfl⟩) hK hP hS hA (P_sel [(true, (cxW ka (q 0) (qo 0) (qs 0) (qt 0) (t 0) (h 0) (u 0) (kx.1 7)), (cxW ka (q 0) (qo 0) (qs 0) (qt 0) (t 0) (h 0) (u 0) (kx.1 7))), (true, (hiW cI cN h hq v51.2.1), (hiW cI cN h hq v51.2.1)), (true, (txW cI u x), (txW cI u x)), (false, (nwW cI qo v51.2.2.1), (nwW cI qo v51.2.2.1)), (false, (nwW cI qs sn), (nwW cI qs sn)), (false, (rtW cI t v51.2.2.2.1), (rtW cI t v51.2.2.2.1)), (false, (nwW cI qt tr), (nwW cI qt tr)), (true, (nwW cI q v51.2.2.2.2), (nwW cI q v51.2.2.2.2))] hP) rfl rfl rfl hl.1 rfl (Nat.le_of_ble_eq_true rfl) dL_law_312 ⟨Nat.le_of_ble_eq_true rfl, Nat.le_of_ble_eq_true rfl⟩ (fun H locs hP hS => ?_)
                      have e0 := Option.some.inj hf
                      subst e0
                      exact hj H locs ls hP hD hS (lv_sub hl [1, 2, 3] rfl)
                    · have hf := it_t hf c53
                      refine lv_aload_n hx hb dL_law_303 rfl (lv_at hl 2 rfl) ?_
                      obtain ⟨v55, hv55, hf⟩ := it_b hf
                      refine cBi (As := []) (rest := []) (q0 := 0) (ci := 5) [(true, (cxW ka (q 0) (qo 0) (qs 0) (qt 0) (t 0) (h 0) (u 0) (kx.1 7)), (cxW ka (q 0) (qo 0) (qs 0) (qt 0) (t 0) (h 0) (u 0) (v55.2.1.1 7))), (false, (hiW cI cN h hq v51.2.1), (hiW cI cN h hq v51.2.1)), (false, (txW cI u x), (txW cI u x)), (false, (nwW cI qo v51.2.2.1), (nwW cI qo v51.2.2.1)), (true, (nwW cI qs sn), (nwW cI qs v55.2.2)), (false, (rtW cI t v51.2.2.2.1), (rtW cI t v51.2.2.2.1)), (false, (nwW cI qt tr), (nwW cI qt tr)), (true, (nwW cI q v51.2.2.2.2), (nwW cI q v51.2.2.2.2))] ⟨ad_cex, (fun h => Bool.noConfusion h), rfl, (fun _ => rfl), rfl, (fun _ => rfl), rfl, (fun _ => rfl), ad_net, (fun h => Bool.noConfusion h), rfl, (fun _ => rfl), rfl, (fun _ => rfl), ad_net, (fun h => Bool.noConfusion h), trivial⟩ S (c_X5_keep l D cI cN ka (qo 0) (qt 0) (t 0) (h 0) (u 0) qs q _ kx sn v51.2.2.2.2 v55.1 v55.2.1 v55.2.2 hv55) (cwV 0 hts gL_law_X5_keep rfl rfl rfl (by decide +kernel) ⟨Nat.le_of_ble_eq_true rfl, Nat.le_of_ble_eq_true rfl⟩) hK hP hD hS hA rfl rfl rfl hl.1 rfl (Nat.le_of_ble_eq_true rfl) dL_law_304 ⟨Nat.le_of_ble_eq_true rfl, Nat.le_of_ble_eq_true rfl⟩ (fun H locs hP hD hS => ?_)
                      refine lv_goto (tgt := 315) hx hb dL_law_307 (by decide) ?_
                      have e0 := Option.some.inj hf
                      subst e0
                      exact hj H locs ls hP hD hS (lv_sub hl [1, 2, 3] rfl)
                  · have hf := it_t hf c52
                    refine lv_iconst (v := (0 : Int32)) hx hb dL_law_293 kc_iconst_0 ?_
                    have e0 : (0 : Int32) = r0 := congrArg (fun z => z.1) (Option.some.inj hf)
                    have e1 : kx = kx' := congrArg (fun z => z.2.1) (Option.some.inj hf)
                    have e2 : v51.2.1 = hi' := congrArg (fun z => z.2.2.1) (Option.some.inj hf)
                    have e3 : v51.2.2.1 = o' := congrArg (fun z => z.2.2.2.1) (Option.some.inj hf)
                    have e4 : sn = sn' := congrArg (fun z => z.2.2.2.2.1) (Option.some.inj hf)
                    have e5 : v51.2.2.2.1 = r' := congrArg (fun z => z.2.2.2.2.2.1) (Option.some.inj hf)
                    have e6 : v51.2.2.2.2 = n' := congrArg (fun z => z.2.2.2.2.2.2) (Option.some.inj hf)
                    subst e0
                    subst e1
                    subst e2
                    subst e3
                    subst e4
                    subst e5
                    subst e6
                    exact hret H locs ls _ dL_law_294 (by first | rfl | (split <;> rfl) | (split <;> (first | rfl | (split <;> rfl))) | assumption) hP hD hS
                have hf := hg
                refine lv_if_ne (tgt := 236) hx hb dL_law_226 (by decide) (fun c43 => ?_) (fun c43 => ?_)
                · have hf := it_f hf c43
                  refine lv_iload_n hx hb dL_law_236 rfl (lv_at hl 3 rfl) ?_
                  refine lv_iconst (v := (3 : Int32)) hx hb dL_law_237 kc_iconst_3 ?_
                  refine lv_irem hx hb dL_law_238 (by decide) ?_
                  refine lv_iconst (v := (1 : Int32)) hx hb dL_law_239 kc_iconst_1 ?_
                  refine lv_icmp_ne (tgt := 273) hx hb dL_law_240 (by decide) (fun c44 => ?_) (fun c44 => ?_)
                  · have hf := it_f hf c44
                    refine lv_aload_n hx hb dL_law_273 rfl (lv_at hl 2 rfl) ?_
                    refine lv_iload_n hx hb dL_law_274 rfl (lv_at hl 4 rfl) ?_
                    refine lv_bipush (v := (9 : Int32)) hx hb dL_law_275 kc_bipush_9 ?_
                    refine lv_ishr hx hb dL_law_277 ?_
                    refine lv_iload hx hb dL_law_278 (lv_at hl 0 rfl) ?_
                    obtain ⟨v45, hv45, hf⟩ := it_b hf
                    refine cTi (As := [.int (v10 >>> ((9 : Int32) &&& 31)), .int (v41 * v42)]) (rest := [.ref ka]) S (c_L_up l D cI cN _ (v10 >>> ((9 : Int32) &&& 31)) (v41 * v42) v45 hv45) (va_cwS 2 hts gL_law_L_up rfl rfl rfl (by decide +kernel) ⟨Nat.le_of_ble_eq_true rfl, Nat.le_of_ble_eq_true rfl⟩) hK hP hS hA (P_nil hP) rfl hl.1 rfl (Nat.le_of_ble_eq_true rfl) dL_law_280 ⟨Nat.le_of_ble_eq_true rfl, Nat.le_of_ble_eq_true rfl⟩ (fun H locs hP hS => ?_)
                    obtain ⟨v46, hv46, hf⟩ := it_b hf
                    refine cTi (As := [.ref ka, .int v45]) (rest := []) S (c_L_isReached l D cI cN ka (qo 0) (qs 0) (qt 0) (t 0) h hq u q _ kx v14.2.1 x v14.2.2.2.2 v45 v46 hv46) (va_cwS 2 hts gL_law_L_isReached rfl rfl rfl (by decide +kernel) ⟨Nat.le_of_ble_eq_true rfl, Nat.le_of_ble_eq_true rfl⟩) hK hP hS hA (P_sel [(true, (cxW ka (q 0) (qo 0) (qs 0) (qt 0) (t 0) (h 0) (u 0) (kx.1 7)), (cxW ka (q 0) (qo 0) (qs 0) (qt 0) (t 0) (h 0) (u 0) (kx.1 7))), (true, (hiW cI cN h hq v14.2.1), (hiW cI cN h hq v14.2.1)), (true, (txW cI u x), (txW cI u x)), (false, (nwW cI qo v14.2.2.1), (nwW cI qo v14.2.2.1)), (false, (nwW cI qs sn), (nwW cI qs sn)), (false, (rtW cI t v14.2.2.2.1), (rtW cI t v14.2.2.2.1)), (false, (nwW cI qt tr), (nwW cI qt tr)), (true, (nwW cI q v14.2.2.2.2), (nwW cI q v14.2.2.2.2))] hP) rfl hl.1 rfl (Nat.le_of_ble_eq_true rfl) dL_law_283 ⟨Nat.le_of_ble_eq_true rfl, Nat.le_of_ble_eq_true rfl⟩ (fun H locs hP hS => ?_)
                    have e0 := Option.some.inj hf
                    subst e0
                    exact hj H locs ls hP hD hS (lv_sub hl [1, 2, 3] rfl)
                  · have hf := it_t hf c44
                    refine lv_aload_n hx hb dL_law_243 rfl (lv_at hl 2 rfl) ?_
                    refine lv_iload_n hx hb dL_law_244 rfl (lv_at hl 4 rfl) ?_
                    refine lv_bipush (v := (9 : Int32)) hx hb dL_law_245 kc_bipush_9 ?_
                    refine lv_ishr hx hb dL_law_247 ?_
                    refine lv_iload hx hb dL_law_248 (lv_at hl 0 rfl) ?_
                    refine lv_iconst (v := (1 : Int32)) hx hb dL_law_250 kc_iconst_1 ?_
                    refine lv_iadd hx hb dL_law_251 ?_
                    obtain ⟨v47, hv47, hf⟩ := it_b hf
                    refine cTi (As := [.int (v10 >>> ((9 : Int32) &&& 31)), .int ((v41 * v42) + (1 : Int32))]) (rest := [.ref ka]) S (c_L_up l D cI cN _ (v10 >>> ((9 : Int32) &&& 31)) ((v41 * v42) + (1 : Int32)) v47 hv47) (va_cwS 2 hts gL_law_L_up rfl rfl rfl (by decide +kernel) ⟨Nat.le_of_ble_eq_true rfl, Nat.le_of_ble_eq_true rfl⟩) hK hP hS hA (P_nil hP) rfl hl.1 rfl (Nat.le_of_ble_eq_true rfl) dL_law_252 ⟨Nat.le_of_ble_eq_true rfl, Nat.le_of_ble_eq_true rfl⟩ (fun H locs hP hS => ?_)
                    refine lv_iload hx hb dL_law_255 (lv_at hl 5 rfl) ?_
                    refine lv_bipush (v := (9 : Int32)) hx hb dL_law_257 kc_bipush_9 ?_
                    refine lv_ishr hx hb dL_law_259 ?_
                    refine lv_iload hx hb dL_law_260 (lv_at hl 0 rfl) ?_
                    refine lv_iconst (v := (1 : Int32)) hx hb dL_law_262 kc_iconst_1 ?_
                    refine lv_iadd hx hb dL_law_263 ?_
                    obtain ⟨v48, hv48, hf⟩ := it_b hf
                    refine cTi (As := [.int (v11 >>> ((9 : Int32) &&& 31)), .int ((v41 * v42) + (1 : Int32))]) (rest := [.int v47, .ref ka]) S (c_L_up l D cI cN _ (v11 >>> ((9 : Int32) &&& 31)) ((v41 * v42) + (1 : Int32)) v48 hv48) (va_cwS 2 hts gL_law_L_up rfl rfl rfl (by decide +kernel) ⟨Nat.le_of_ble_eq_true rfl, Nat.le_of_ble_eq_true rfl⟩) hK hP hS hA (P_nil hP) rfl hl.1 rfl (Nat.le_of_ble_eq_true rfl) dL_law_264 ⟨Nat.le_of_ble_eq_true rfl, Nat.le_of_ble_eq_true rfl⟩ (fun H locs hP hS => ?_)
                    obtain ⟨v49, hv49, hf⟩ := it_b hf
                    refine cTw (As := [.ref ka, .int v47, .int v48]) (rest := []) [(true, (cxW ka (q 0) (qo 0) (qs 0) (qt 0) (t 0) (h 0) (u 0) (kx.1 7)), (cxW ka (q 0) (qo 0) (qs 0) (qt 0) (t 0) (h 0) (u 0) (kx.1 7))), (true, (hiW cI cN h hq v14.2.1), (hiW cI cN h hq v49.2.1)), (true, (txW cI u x), (txW cI u x)), (true, (nwW cI qo v14.2.2.1), (nwW cI qo v49.2.2.1)), (false, (nwW cI qs sn), (nwW cI qs sn)), (true, (rtW cI t v14.2.2.2.1), (rtW cI t v49.2.2.2.1)), (false, (nwW cI qt tr), (nwW cI qt tr)), (true, (nwW cI q v14.2.2.2.2), (nwW cI q v49.2.2.2.2))] ⟨ad_cex, (fun h => Bool.noConfusion h), ad_his, (fun h => Bool.noConfusion h), ad_txt, (fun h => Bool.noConfusion h), ad_net, (fun h => Bool.noConfusion h), rfl, (fun _ => rfl), ad_rtr, (fun h => Bool.noConfusion h), rfl, (fun _ => rfl), ad_net, (fun h => Bool.noConfusion h), trivial⟩ S (c_L_isAhead l D cI cN ka (qs 0) (qt 0) h hq u qo t q _ kx v14.2.1 x v14.2.2.1 v14.2.2.2.1 v14.2.2.2.2 v47 v48 v49.1 v49.2.1 v49.2.2.1 v49.2.2.2.1 v49.2.2.2.2 hv49) (va_cwS 3 hts gL_law_L_isAhead rfl rfl rfl (by decide +kernel) ⟨Nat.le_of_ble_eq_true rfl, Nat.le_of_ble_eq_true rfl⟩) hK hP hD hS hA rfl hl.1 rfl (Nat.le_of_ble_eq_true rfl) dL_law_267 ⟨Nat.le_of_ble_eq_true rfl, Nat.le_of_ble_eq_true rfl⟩ (fun H locs hP hD hS => ?_)
                    refine lv_goto (tgt := 286) hx hb dL_law_270 (by decide) ?_
                    have e0 := Option.some.inj hf
                    subst e0
                    exact hj H locs ls hP hD hS (lv_sub hl [1, 2, 3] rfl)
                · have hf := it_t hf c43
                  refine lv_aload_n hx hb dL_law_229 rfl (lv_at hl 2 rfl) ?_
                  obtain ⟨v50, hv50, hf⟩ := it_b hf
                  refine cTi (As := [.ref ka]) (rest := []) S (c_L_holds l D cI cN ka (qo 0) (qs 0) (qt 0) (t 0) h hq u q _ kx v14.2.1 x v14.2.2.2.2 v50 hv50) (va_cwS 1 hts gL_law_L_holds rfl rfl rfl (by decide +kernel) ⟨Nat.le_of_ble_eq_true rfl, Nat.le_of_ble_eq_true rfl⟩) hK hP hS hA (P_sel [(true, (cxW ka (q 0) (qo 0) (qs 0) (qt 0) (t 0) (h 0) (u 0) (kx.1 7)), (cxW ka (q 0) (qo 0) (qs 0) (qt 0) (t 0) (h 0) (u 0) (kx.1 7))), (true, (hiW cI cN h hq v14.2.1), (hiW cI cN h hq v14.2.1)), (true, (txW cI u x), (txW cI u x)), (false, (nwW cI qo v14.2.2.1), (nwW cI qo v14.2.2.1)), (false, (nwW cI qs sn), (nwW cI qs sn)), (false, (rtW cI t v14.2.2.2.1), (rtW cI t v14.2.2.2.1)), (false, (nwW cI qt tr), (nwW cI qt tr)), (true, (nwW cI q v14.2.2.2.2), (nwW cI q v14.2.2.2.2))] hP) rfl hl.1 rfl (Nat.le_of_ble_eq_true rfl) dL_law_230 ⟨Nat.le_of_ble_eq_true rfl, Nat.le_of_ble_eq_true rfl⟩ (fun H locs hP hS => ?_)
                  refine lv_goto (tgt := 286) hx hb dL_law_233 (by decide) ?_
                  have e0 := Option.some.inj hf
                  subst e0
                  exact hj H locs ls hP hD hS (lv_sub hl [1, 2, 3] rfl)
              · have hf := it_t hf c40
                refine lv_aload_n hx hb dL_law_157 rfl (lv_at hl 1 rfl) ?_
                refine lv_bipush (v := (10 : Int32)) hx hb dL_law_158 kc_bipush_10 ?_
                obtain ⟨v59, hv59, hf⟩ := it_b hf
                refine cQi (As := [.int (10 : Int32)]) (rest := []) (q0 := 0) (ci := 5) S (c_X5_total l D cI cN ka (qo 0) (qs 0) (qt 0) (t 0) h hq u q _ kx v14.2.1 x v14.2.2.2.2 (10 : Int32) v59 hv59) (cwV 1 hts gL_law_X5_total rfl rfl rfl (by decide +kernel) ⟨Nat.le_of_ble_eq_true rfl, Nat.le_of_ble_eq_true rfl⟩) hK hP hS hA (P_sel [(true, (cxW ka (q 0) (qo 0) (qs 0) (qt 0) (t 0) (h 0) (u 0) (kx.1 7)), (cxW ka (q 0) (qo 0) (qs 0) (qt 0) (t 0) (h 0) (u 0) (kx.1 7))), (true, (hiW cI cN h hq v14.2.1), (hiW cI cN h hq v14.2.1)), (true, (txW cI u x), (txW cI u x)), (false, (nwW cI qo v14.2.2.1), (nwW cI qo v14.2.2.1)), (false, (nwW cI qs sn), (nwW cI qs sn)), (false, (rtW cI t v14.2.2.2.1), (rtW cI t v14.2.2.2.1)), (false, (nwW cI qt tr), (nwW cI qt tr)), (true, (nwW cI q v14.2.2.2.2), (nwW cI q v14.2.2.2.2))] hP) rfl rfl rfl hl.1 rfl (Nat.le_of_ble_eq_true rfl) dL_law_160 ⟨Nat.le_of_ble_eq_true rfl, Nat.le_of_ble_eq_true rfl⟩ (fun H locs hP hS => ?_)
                refine lv_iconst (v := (1 : Int32)) hx hb dL_law_163 kc_iconst_1 ?_
                refine lv_isub hx hb dL_law_164 ?_
                refine lv_istore (lv' := [(11, .int (v59 - (1 : Int32))), (0, .ref b), (1, .ref ka), (2, .int x2), (3, .int v10), (4, .int v11), (5, .long v12), (8, .int v14.1), (9, .long v15)]) hx hb dL_law_165 hl (by decide) rfl (fun ls hl => ?_)
                refine lv_aload_n hx hb dL_law_167 rfl (lv_at hl 2 rfl) ?_
                obtain ⟨v60, hv60, hf⟩ := it_b hf
                refine cBi (As := []) (rest := []) (q0 := 0) (ci := 5) [(true, (cxW ka (q 0) (qo 0) (qs 0) (qt 0) (t 0) (h 0) (u 0) (kx.1 7)), (cxW ka (q 0) (qo 0) (qs 0) (qt 0) (t 0) (h 0) (u 0) (kx.1 7))), (true, (hiW cI cN h hq v14.2.1), (hiW cI cN h hq v60.2.1)), (false, (txW cI u x), (txW cI u x)), (false, (nwW cI qo v14.2.2.1), (nwW cI qo v14.2.2.1)), (false, (nwW cI qs sn), (nwW cI qs sn)), (false, (rtW cI t v14.2.2.2.1), (rtW cI t v14.2.2.2.1)), (false, (nwW cI qt tr), (nwW cI qt tr)), (true, (nwW cI q v14.2.2.2.2), (nwW cI q v60.2.2))] ⟨ad_cex, (fun h => Bool.noConfusion h), ad_his, (fun h => Bool.noConfusion h), rfl, (fun _ => rfl), rfl, (fun _ => rfl), rfl, (fun _ => rfl), rfl, (fun _ => rfl), rfl, (fun _ => rfl), ad_net, (fun h => Bool.noConfusion h), trivial⟩ S (c_X5_undo l D cI cN ka (qo 0) (qs 0) (qt 0) (t 0) (u 0) h hq q _ kx v14.2.1 v14.2.2.2.2 v60.1 v60.2.1 v60.2.2 hv60) (cwV 0 hts gL_law_X5_undo rfl rfl rfl (by decide +kernel) ⟨Nat.le_of_ble_eq_true rfl, Nat.le_of_ble_eq_true rfl⟩) hK hP hD hS hA rfl rfl rfl hl.1 rfl (Nat.le_of_ble_eq_true rfl) dL_law_168 ⟨Nat.le_of_ble_eq_true rfl, Nat.le_of_ble_eq_true rfl⟩ (fun H locs hP hD hS => ?_)
                refine lv_iload hx hb dL_law_171 (lv_at hl 0 rfl) ?_
                refine lv_icmp_ne (tgt := 208) hx hb dL_law_173 (by decide) (fun c61 => ?_) (fun c61 => ?_)
                · have hf := it_f hf c61
                  refine lv_iconst (v := (0 : Int32)) hx hb dL_law_208 kc_iconst_0 ?_
                  have e0 : (0 : Int32) = r0 := congrArg (fun z => z.1) (Option.some.inj hf)
                  have e1 : kx = kx' := congrArg (fun z => z.2.1) (Option.some.inj hf)
                  have e2 : v60.2.1 = hi' := congrArg (fun z => z.2.2.1) (Option.some.inj hf)
                  have e3 : v14.2.2.1 = o' := congrArg (fun z => z.2.2.2.1) (Option.some.inj hf)
                  have e4 : sn = sn' := congrArg (fun z => z.2.2.2.2.1) (Option.some.inj hf)
                  have e5 : v14.2.2.2.1 = r' := congrArg (fun z => z.2.2.2.2.2.1) (Option.some.inj hf)
                  have e6 : v60.2.2 = n' := congrArg (fun z => z.2.2.2.2.2.2) (Option.some.inj hf)
                  subst e0
                  subst e1
                  subst e2
                  subst e3
                  subst e4
                  subst e5
                  subst e6
                  exact hret H locs ls _ dL_law_209 (by first | rfl | (split <;> rfl) | (split <;> (first | rfl | (split <;> rfl))) | assumption) hP hD hS
                · have hf := it_t hf c61
                  refine lv_aload_n hx hb dL_law_176 rfl (lv_at hl 2 rfl) ?_
                  obtain ⟨v62, hv62, hf⟩ := it_b hf
                  refine cTl (As := [.ref ka]) (rest := []) S (c_L_told l D cI cN ka (qo 0) (qs 0) (qt 0) (t 0) h hq u q _ kx v60.2.1 x v60.2.2 v62 hv62) (va_cwS 1 hts gL_law_L_told rfl rfl rfl (by decide +kernel) ⟨Nat.le_of_ble_eq_true rfl, Nat.le_of_ble_eq_true rfl⟩) hK hP hS hA (P_sel [(true, (cxW ka (q 0) (qo 0) (qs 0) (qt 0) (t 0) (h 0) (u 0) (kx.1 7)), (cxW ka (q 0) (qo 0) (qs 0) (qt 0) (t 0) (h 0) (u 0) (kx.1 7))), (true, (hiW cI cN h hq v60.2.1), (hiW cI cN h hq v60.2.1)), (true, (txW cI u x), (txW cI u x)), (false, (nwW cI qo v14.2.2.1), (nwW cI qo v14.2.2.1)), (false, (nwW cI qs sn), (nwW cI qs sn)), (false, (rtW cI t v14.2.2.2.1), (rtW cI t v14.2.2.2.1)), (false, (nwW cI qt tr), (nwW cI qt tr)), (true, (nwW cI q v60.2.2), (nwW cI q v60.2.2))] hP) rfl hl.1 rfl (Nat.le_of_ble_eq_true rfl) dL_law_177 ⟨Nat.le_of_ble_eq_true rfl, Nat.le_of_ble_eq_true rfl⟩ (fun H locs hP hS => ?_)
                  refine lv_lload hx hb dL_law_180 (lv_at hl 6 rfl) ?_
                  refine W.lcmp hx hb dL_law_182 ?_
                  refine lv_if_ne (tgt := 208) hx hb dL_law_183 (by decide) (fun c63 => ?_) (fun c63 => ?_)
                  · have hf := it_f hf c63
                    refine lv_iconst (v := (0 : Int32)) hx hb dL_law_208 kc_iconst_0 ?_
                    have e0 : (0 : Int32) = r0 := congrArg (fun z => z.1) (Option.some.inj hf)
                    have e1 : kx = kx' := congrArg (fun z => z.2.1) (Option.some.inj hf)
                    have e2 : v60.2.1 = hi' := congrArg (fun z => z.2.2.1) (Option.some.inj hf)
                    have e3 : v14.2.2.1 = o' := congrArg (fun z => z.2.2.2.1) (Option.some.inj hf)
                    have e4 : sn = sn' := congrArg (fun z => z.2.2.2.2.1) (Option.some.inj hf)
                    have e5 : v14.2.2.2.1 = r' := congrArg (fun z => z.2.2.2.2.2.1) (Option.some.inj hf)
                    have e6 : v60.2.2 = n' := congrArg (fun z => z.2.2.2.2.2.2) (Option.some.inj hf)
                    subst e0
                    subst e1
                    subst e2
                    subst e3
                    subst e4
                    subst e5
                    subst e6
                    exact hret H locs ls _ dL_law_209 (by first | rfl | (split <;> rfl) | (split <;> (first | rfl | (split <;> rfl))) | assumption) hP hD hS
                  · have hf := it_t hf c63
                    refine lv_aload_n hx hb dL_law_186 rfl (lv_at hl 2 rfl) ?_
                    refine lv_iload_n hx hb dL_law_187 rfl (lv_at hl 4 rfl) ?_
                    refine lv_iload hx hb dL_law_188 (lv_at hl 5 rfl) ?_
                    obtain ⟨v64, hv64, hf⟩ := it_b hf
                    refine cTw (As := [.ref ka, .int v10, .int v11]) (rest := []) [(true, (cxW ka (q 0) (qo 0) (qs 0) (qt 0) (t 0) (h 0) (u 0) (kx.1 7)), (cxW ka (q 0) (qo 0) (qs 0) (qt 0) (t 0) (h 0) (u 0) (kx.1 7))), (true, (hiW cI cN h hq v60.2.1), (hiW cI cN h hq v64.2.1)), (true, (txW cI u x), (txW cI u x)), (true, (nwW cI qo v14.2.2.1), (nwW cI qo v64.2.2.1)), (true, (nwW cI qs sn), (nwW cI qs sn)), (true, (rtW cI t v14.2.2.2.1), (rtW cI t v64.2.2.2.1)), (false, (nwW cI qt tr), (nwW cI qt tr)), (true, (nwW cI q v60.2.2), (nwW cI q v64.2.2.2.2))] ⟨ad_cex, (fun h => Bool.noConfusion h), ad_his, (fun h => Bool.noConfusion h), ad_txt, (fun h => Bool.noConfusion h), ad_net, (fun h => Bool.noConfusion h), ad_net, (fun h => Bool.noConfusion h), ad_rtr, (fun h => Bool.noConfusion h), rfl, (fun _ => rfl), ad_net, (fun h => Bool.noConfusion h), trivial⟩ S (c_L_act l D cI cN ka (qt 0) h hq u qo qs t q _ kx v60.2.1 x v14.2.2.1 sn v14.2.2.2.1 v60.2.2 v10 v11 v64.1 v64.2.1 v64.2.2.1 v64.2.2.2.1 v64.2.2.2.2 hv64) (va_cwS 3 hts gL_law_L_act rfl rfl rfl (by decide +kernel) ⟨Nat.le_of_ble_eq_true rfl, Nat.le_of_ble_eq_true rfl⟩) hK hP hD hS hA rfl hl.1 rfl (Nat.le_of_ble_eq_true rfl) dL_law_190 ⟨Nat.le_of_ble_eq_true rfl, Nat.le_of_ble_eq_true rfl⟩ (fun H locs hP hD hS => ?_)
                    refine lv_iload hx hb dL_law_193 (lv_at hl 7 rfl) ?_
                    refine lv_icmp_ne (tgt := 208) hx hb dL_law_195 (by decide) (fun c65 => ?_) (fun c65 => ?_)
                    · have hf := it_f hf c65
                      refine lv_iconst (v := (0 : Int32)) hx hb dL_law_208 kc_iconst_0 ?_
                      have e0 : (0 : Int32) = r0 := congrArg (fun z => z.1) (Option.some.inj hf)
                      have e1 : kx = kx' := congrArg (fun z => z.2.1) (Option.some.inj hf)
                      have e2 : v64.2.1 = hi' := congrArg (fun z => z.2.2.1) (Option.some.inj hf)
                      have e3 : v64.2.2.1 = o' := congrArg (fun z => z.2.2.2.1) (Option.some.inj hf)
                      have e4 : sn = sn' := congrArg (fun z => z.2.2.2.2.1) (Option.some.inj hf)
                      have e5 : v64.2.2.2.1 = r' := congrArg (fun z => z.2.2.2.2.2.1) (Option.some.inj hf)
                      have e6 : v64.2.2.2.2 = n' := congrArg (fun z => z.2.2.2.2.2.2) (Option.some.inj hf)
                      subst e0
                      subst e1
                      subst e2
                      subst e3
                      subst e4
                      subst e5
                      subst e6
                      exact hret H locs ls _ dL_law_209 (by first | rfl | (split <;> rfl) | (split <;> (first | rfl | (split <;> rfl))) | assumption) hP hD hS
                    · have hf := it_t hf c65
                      refine lv_aload_n hx hb dL_law_198 rfl (lv_at hl 2 rfl) ?_
                      obtain ⟨v66, hv66, hf⟩ := it_b hf
                      refine cTl (As := [.ref ka]) (rest := []) S (c_L_told l D cI cN ka (qo 0) (qs 0) (qt 0) (t 0) h hq u q _ kx v64.2.1 x v64.2.2.2.2 v66 hv66) (va_cwS 1 hts gL_law_L_told rfl rfl rfl (by decide +kernel) ⟨Nat.le_of_ble_eq_true rfl, Nat.le_of_ble_eq_true rfl⟩) hK hP hS hA (P_sel [(true, (cxW ka (q 0) (qo 0) (qs 0) (qt 0) (t 0) (h 0) (u 0) (kx.1 7)), (cxW ka (q 0) (qo 0) (qs 0) (qt 0) (t 0) (h 0) (u 0) (kx.1 7))), (true, (hiW cI cN h hq v64.2.1), (hiW cI cN h hq v64.2.1)), (true, (txW cI u x), (txW cI u x)), (false, (nwW cI qo v64.2.2.1), (nwW cI qo v64.2.2.1)), (false, (nwW cI qs sn), (nwW cI qs sn)), (false, (rtW cI t v64.2.2.2.1), (rtW cI t v64.2.2.2.1)), (false, (nwW cI qt tr), (nwW cI qt tr)), (true, (nwW cI q v64.2.2.2.2), (nwW cI q v64.2.2.2.2))] hP) rfl hl.1 rfl (Nat.le_of_ble_eq_true rfl) dL_law_199 ⟨Nat.le_of_ble_eq_true rfl, Nat.le_of_ble_eq_true rfl⟩ (fun H locs hP hS => ?_)
                      refine lv_lload hx hb dL_law_202 (lv_at hl 8 rfl) ?_
                      refine W.lcmp hx hb dL_law_204 ?_
                      refine lv_if_eq (tgt := 210) hx hb dL_law_205 (by decide) (fun c67 => ?_) (fun c67 => ?_)
                      · have hf := it_t hf c67
                        refine lv_aload_n hx hb dL_law_210 rfl (lv_at hl 2 rfl) ?_
                        refine lv_iconst (v := (0 : Int32)) hx hb dL_law_211 kc_iconst_0 ?_
                        obtain ⟨v68, hv68, hf⟩ := it_b hf
                        refine cQi (As := [.int (0 : Int32)]) (rest := []) (q0 := 0) (ci := 5) S (c_X5_total l D cI cN ka (qo 0) (qs 0) (qt 0) (t 0) h hq u q _ kx v64.2.1 x v64.2.2.2.2 (0 : Int32) v68 hv68) (cwV 1 hts gL_law_X5_total rfl rfl rfl (by decide +kernel) ⟨Nat.le_of_ble_eq_true rfl, Nat.le_of_ble_eq_true rfl⟩) hK hP hS hA (P_sel [(true, (cxW ka (q 0) (qo 0) (qs 0) (qt 0) (t 0) (h 0) (u 0) (kx.1 7)), (cxW ka (q 0) (qo 0) (qs 0) (qt 0) (t 0) (h 0) (u 0) (kx.1 7))), (true, (hiW cI cN h hq v64.2.1), (hiW cI cN h hq v64.2.1)), (true, (txW cI u x), (txW cI u x)), (false, (nwW cI qo v64.2.2.1), (nwW cI qo v64.2.2.1)), (false, (nwW cI qs sn), (nwW cI qs sn)), (false, (rtW cI t v64.2.2.2.1), (rtW cI t v64.2.2.2.1)), (false, (nwW cI qt tr), (nwW cI qt tr)), (true, (nwW cI q v64.2.2.2.2), (nwW cI q v64.2.2.2.2))] hP) rfl rfl rfl hl.1 rfl (Nat.le_of_ble_eq_true rfl) dL_law_212 ⟨Nat.le_of_ble_eq_true rfl, Nat.le_of_ble_eq_true rfl⟩ (fun H locs hP hS => ?_)
                        refine lv_aload_n hx hb dL_law_215 rfl (lv_at hl 2 rfl) ?_
                        refine lv_iconst (v := (1 : Int32)) hx hb dL_law_216 kc_iconst_1 ?_
                        obtain ⟨v69, hv69, hf⟩ := it_b hf
                        refine cQi (As := [.int (1 : Int32)]) (rest := [.int v68]) (q0 := 0) (ci := 5) S (c_X5_total l D cI cN ka (qo 0) (qs 0) (qt 0) (t 0) h hq u q _ kx v64.2.1 x v64.2.2.2.2 (1 : Int32) v69 hv69) (cwV 1 hts gL_law_X5_total rfl rfl rfl (by decide +kernel) ⟨Nat.le_of_ble_eq_true rfl, Nat.le_of_ble_eq_true rfl⟩) hK hP hS hA (P_sel [(true, (cxW ka (q 0) (qo 0) (qs 0) (qt 0) (t 0) (h 0) (u 0) (kx.1 7)), (cxW ka (q 0) (qo 0) (qs 0) (qt 0) (t 0) (h 0) (u 0) (kx.1 7))), (true, (hiW cI cN h hq v64.2.1), (hiW cI cN h hq v64.2.1)), (true, (txW cI u x), (txW cI u x)), (false, (nwW cI qo v64.2.2.1), (nwW cI qo v64.2.2.1)), (false, (nwW cI qs sn), (nwW cI qs sn)), (false, (rtW cI t v64.2.2.2.1), (rtW cI t v64.2.2.2.1)), (false, (nwW cI qt tr), (nwW cI qt tr)), (true, (nwW cI q v64.2.2.2.2), (nwW cI q v64.2.2.2.2))] hP) rfl rfl rfl hl.1 rfl (Nat.le_of_ble_eq_true rfl) dL_law_217 ⟨Nat.le_of_ble_eq_true rfl, Nat.le_of_ble_eq_true rfl⟩ (fun H locs hP hS => ?_)
                        refine lv_imul hx hb dL_law_220 ?_
                        refine lv_istore (lv' := [(11, .int (v68 * v69)), (0, .ref b), (1, .ref ka), (2, .int x2), (3, .int v10), (4, .int v11), (5, .long v12), (8, .int v14.1), (9, .long v15)]) hx hb dL_law_221 hl (by decide) rfl (fun ls hl => ?_)
                        refine lv_iload_n hx hb dL_law_223 rfl (lv_at hl 3 rfl) ?_
                        refine lv_iconst (v := (3 : Int32)) hx hb dL_law_224 kc_iconst_3 ?_
                        refine lv_irem hx hb dL_law_225 (by decide) ?_
                        obtain ⟨v78, hg, hf⟩ := it_b hf
                        have hj : ∀ (H : Heap) (locs : List Loc) (ls : Array Slot), va_P D vwCl ((cxW ka (q 0) (qo 0) (qs 0) (qt 0) (t 0) (h 0) (u 0) (kx.1 7)) ++ ((hiW cI cN h hq v78.2.1) ++ ((txW cI u x) ++ ((nwW cI qo v78.2.2.1) ++ ((nwW cI qs sn) ++ ((rtW cI t v78.2.2.2.1) ++ ((nwW cI qt tr) ++ (nwW cI q v78.2.2.2.2)))))))) H → va_D A ((cxW ka (q 0) (qo 0) (qs 0) (qt 0) (t 0) (h 0) (u 0) (kx.1 7)) ++ ((hiW cI cN h hq v78.2.1) ++ ((txW cI u x) ++ ((nwW cI qo v78.2.2.1) ++ ((nwW cI qs sn) ++ ((rtW cI t v78.2.2.2.1) ++ ((nwW cI qt tr) ++ (nwW cI q v78.2.2.2.2)))))))) → va_S A s.heap H locs → lv_has ls 14 [(0, .ref b), (1, .ref ka), (2, .int x2)] → W p l e room_1 s m args below meth c H locs 115 2889 Q (F0 m 286 ls [.int v78.1]) := by
                          intro H locs ls hP hD hS hl
                          refine lv_istore (lv' := [(12, .int v78.1), (0, .ref b), (1, .ref ka), (2, .int x2)]) hx hb dL_law_286 hl (by decide) rfl (fun ls hl => ?_)
                          refine lv_iload hx hb dL_law_288 (lv_at hl 0 rfl) ?_
                          refine lv_if_ne (tgt := 295) hx hb dL_law_290 (by decide) (fun c79 => ?_) (fun c79 => ?_)
                          · have hf := it_f hf c79
                            refine lv_iload_n hx hb dL_law_295 rfl (lv_at hl 3 rfl) ?_
                            refine lv_bipush (v := (11 : Int32)) hx hb dL_law_296 kc_bipush_11 ?_
                            refine lv_irem hx hb dL_law_298 (by decide) ?_
                            refine lv_iconst (v := (5 : Int32)) hx hb dL_law_299 kc_iconst_5 ?_
                            obtain ⟨v83, hg, hf⟩ := it_b hf
                            have hj : ∀ (H : Heap) (locs : List Loc) (ls : Array Slot), va_P D vwCl ((cxW ka (q 0) (qo 0) (qs 0) (qt 0) (t 0) (h 0) (u 0) (v83.2.1.1 7)) ++ ((hiW cI cN h hq v78.2.1) ++ ((txW cI u x) ++ ((nwW cI qo v78.2.2.1) ++ ((nwW cI qs v83.2.2) ++ ((rtW cI t v78.2.2.2.1) ++ ((nwW cI qt tr) ++ (nwW cI q v78.2.2.2.2)))))))) H → va_D A ((cxW ka (q 0) (qo 0) (qs 0) (qt 0) (t 0) (h 0) (u 0) (v83.2.1.1 7)) ++ ((hiW cI cN h hq v78.2.1) ++ ((txW cI u x) ++ ((nwW cI qo v78.2.2.1) ++ ((nwW cI qs v83.2.2) ++ ((rtW cI t v78.2.2.2.1) ++ ((nwW cI qt tr) ++ (nwW cI q v78.2.2.2.2)))))))) → va_S A s.heap H locs → lv_has ls 14 [(0, .ref b), (1, .ref ka), (2, .int x2)] → W p l e room_1 s m args below meth c H locs 115 2889 Q (F0 m 315 ls [.int v83.1]) := by
                              intro H locs ls hP hD hS hl
                              refine lv_istore (lv' := [(13, .int v83.1), (0, .ref b), (1, .ref ka), (2, .int x2)]) hx hb dL_law_315 hl (by decide) rfl (fun ls hl => ?_)
                              refine lv_iload hx hb dL_law_317 (lv_at hl 0 rfl) ?_
                              refine lv_aload_n hx hb dL_law_319 rfl (lv_at hl 2 rfl) ?_
                              refine lv_iconst (v := (5 : Int32)) hx hb dL_law_320 kc_iconst_5 ?_
                              obtain ⟨v84, hv84, hf⟩ := it_b hf
                              refine cQi (As := [.int (5 : Int32)]) (rest := [.int v83.1]) (q0 := 0) (ci := 5) S (c_X5_total l D cI cN ka (qo 0) (qs 0) (qt 0) (t 0) h hq u q _ v83.2.1 v78.2.1 x v78.2.2.2.2 (5 : Int32) v84 hv84) (cwV 1 hts gL_law_X5_total rfl rfl rfl (by decide +kernel) ⟨Nat.le_of_ble_eq_true rfl, Nat.le_of_ble_eq_true rfl⟩) hK hP hS hA (P_sel [(true, (cxW ka (q 0) (qo 0) (qs 0) (qt 0) (t 0) (h 0) (u 0) (v83.2.1.1 7)), (cxW ka (q 0) (qo 0) (qs 0) (qt 0) (t 0) (h 0) (u 0) (v83.2.1.1 7))), (true, (hiW cI cN h hq v78.2.1), (hiW cI cN h hq v78.2.1)), (true, (txW cI u x), (txW cI u x)), (false, (nwW cI qo v78.2.2.1), (nwW cI qo v78.2.2.1)), (false, (nwW cI qs v83.2.2), (nwW cI qs v83.2.2)), (false, (rtW cI t v78.2.2.2.1), (rtW cI t v78.2.2.2.1)), (false, (nwW cI qt tr), (nwW cI qt tr)), (true, (nwW cI q v78.2.2.2.2), (nwW cI q v78.2.2.2.2))] hP) rfl rfl rfl hl.1 rfl (Nat.le_of_ble_eq_true rfl) dL_law_321 ⟨Nat.le_of_ble_eq_true rfl, Nat.le_of_ble_eq_true rfl⟩ (fun H locs hP hS => ?_)
                              refine lv_icmp_eq (tgt := 329) hx hb dL_law_324 (by decide) (fun c85 => ?_) (fun c85 => ?_)
                              · have hf := it_t hf c85
                                refine lv_iinc (v := (x2 + (1 : Int32))) (lv' := [(2, .int (x2 + (1 : Int32))), (13, .int v83.1), (0, .ref b), (1, .ref ka)]) hx hb dL_law_329 hl (k := 3) rfl rfl (by decide) rfl (fun ls hl => ?_)
                                refine lv_goto (tgt := 37) hx hb dL_law_332 (by decide) ?_
                                exact ih _ _ _ _ _ _ _ hf H locs ls hP hD hS (lv_sub hl [2, 3, 0] rfl)
                              · have hf := it_f hf c85
                                refine lv_iconst (v := (0 : Int32)) hx hb dL_law_327 kc_iconst_0 ?_
                                have e0 : (0 : Int32) = r0 := congrArg (fun z => z.1) (Option.some.inj hf)
                                have e1 : v83.2.1 = kx' := congrArg (fun z => z.2.1) (Option.some.inj hf)
                                have e2 : v78.2.1 = hi' := congrArg (fun z => z.2.2.1) (Option.some.inj hf)
                                have e3 : v78.2.2.1 = o' := congrArg (fun z => z.2.2.2.1) (Option.some.inj hf)
                                have e4 : v83.2.2 = sn' := congrArg (fun z => z.2.2.2.2.1) (Option.some.inj hf)
                                have e5 : v78.2.2.2.1 = r' := congrArg (fun z => z.2.2.2.2.2.1) (Option.some.inj hf)
                                have e6 : v78.2.2.2.2 = n' := congrArg (fun z => z.2.2.2.2.2.2) (Option.some.inj hf)
                                subst e0
                                subst e1
                                subst e2
                                subst e3
                                subst e4
                                subst e5
                                subst e6
                                exact hret H locs ls _ dL_law_328 (by first | rfl | (split <;> rfl) | (split <;> (first | rfl | (split <;> rfl))) | assumption) hP hD hS
                            have hf := hg
                            refine lv_icmp_ne (tgt := 310) hx hb dL_law_300 (by decide) (fun c80 => ?_) (fun c80 => ?_)
                            · have hf := it_f hf c80
                              refine lv_aload_n hx hb dL_law_310 rfl (lv_at hl 2 rfl) ?_
                              refine lv_iconst (v := (5 : Int32)) hx hb dL_law_311 kc_iconst_5 ?_
                              obtain ⟨v81, hv81, hf⟩ := it_b hf
                              refine cQi (As := [.int (5 : Int32)]) (rest := []) (q0 := 0) (ci := 5) S (c_X5_total l D cI cN ka (qo 0) (qs 0) (qt 0) (t 0) h hq u q _ kx v78.2.1 x v78.2.2.2.2 (5 : Int32) v81 hv81) (cwV 1 hts gL_law_X5_total rfl rfl rfl (by decide +kernel) ⟨Nat.le_of_ble_eq_true rfl, Nat.le_of_ble_eq_true rfl⟩) hK hP hS hA (P_sel [(true, (cxW ka (q 0) (qo 0) (qs 0) (qt 0) (t 0) (h 0) (u 0) (kx.1 7)), (cxW ka (q 0) (qo 0) (qs 0) (qt 0) (t 0) (h 0) (u 0) (kx.1 7))), (true, (hiW cI cN h hq v78.2.1), (hiW cI cN h hq v78.2.1)), (true, (txW cI u x), (txW cI u x)), (false, (nwW cI qo v78.2.2.1), (nwW cI qo v78.2.2.1)), (false, (nwW cI qs sn), (nwW cI qs sn)), (false, (rtW cI t v78.2.2.2.1), (rtW cI t v78.2.2.2.1)), (false, (nwW cI qt tr), (nwW cI qt tr)), (true, (nwW cI q v78.2.2.2.2), (nwW cI q v78.2.2.2.2))] hP) rfl rfl rfl hl.1 rfl (Nat.le_of_ble_eq_true rfl) dL_law_312 ⟨Nat.le_of_ble_eq_true rfl, Nat.le_of_ble_eq_true rfl⟩ (fun H locs hP hS => ?_)
                              have e0 := Option.some.inj hf
                              subst e0
                              exact hj H locs ls hP hD hS (lv_sub hl [1, 2, 3] rfl)
                            · have hf := it_t hf c80
                              refine lv_aload_n hx hb dL_law_303 rfl (lv_at hl 2 rfl) ?_
                              obtain ⟨v82, hv82, hf⟩ := it_b hf
                              refine cBi (As := []) (rest := []) (q0 := 0) (ci := 5) [(true, (cxW ka (q 0) (qo 0) (qs 0) (qt 0) (t 0) (h 0) (u 0) (kx.1 7)), (cxW ka (q 0) (qo 0) (qs 0) (qt 0) (t 0) (h 0) (u 0) (v82.2.1.1 7))), (false, (hiW cI cN h hq v78.2.1), (hiW cI cN h hq v78.2.1)), (false, (txW cI u x), (txW cI u x)), (false, (nwW cI qo v78.2.2.1), (nwW cI qo v78.2.2.1)), (true, (nwW cI qs sn), (nwW cI qs v82.2.2)), (false, (rtW cI t v78.2.2.2.1), (rtW cI t v78.2.2.2.1)), (false, (nwW cI qt tr), (nwW cI qt tr)), (true, (nwW cI q v78.2.2.2.2), (nwW cI q v78.2.2.2.2))] ⟨ad_cex, (fun h => Bool.noConfusion h), rfl, (fun _ => rfl), rfl, (fun _ => rfl), rfl, (fun _ => rfl), ad_net, (fun h => Bool.noConfusion h), rfl, (fun _ => rfl), rfl, (fun _ => rfl), ad_net, (fun h => Bool.noConfusion h), trivial⟩ S (c_X5_keep l D cI cN ka (qo 0) (qt 0) (t 0) (h 0) (u 0) qs q _ kx sn v78.2.2.2.2 v82.1 v82.2.1 v82.2.2 hv82) (cwV 0 hts gL_law_X5_keep rfl rfl rfl (by decide +kernel) ⟨Nat.le_of_ble_eq_true rfl, Nat.le_of_ble_eq_true rfl⟩) hK hP hD hS hA rfl rfl rfl hl.1 rfl (Nat.le_of_ble_eq_true rfl) dL_law_304 ⟨Nat.le_of_ble_eq_true rfl, Nat.le_of_ble_eq_true rfl⟩ (fun H locs hP hD hS => ?_)
                              refine lv_goto (tgt := 315) hx hb dL_law_307 (by decide) ?_
                              have e0 := Option.some.inj hf
                              subst e0
                              exact hj H locs ls hP hD hS (lv_sub hl [1, 2, 3] rfl)
                          · have hf := it_t hf c79
                            refine lv_iconst (v := (0 : Int32)) hx hb dL_law_293 kc_iconst_0 ?_
                            have e0 : (0 : Int32) = r0 := congrArg (fun z => z.1) (Option.some.inj hf)
                            have e1 : kx = kx' := congrArg (fun z => z.2.1) (Option.some.inj hf)
                            have e2 : v78.2.1 = hi' := congrArg (fun z => z.2.2.1) (Option.some.inj hf)
                            have e3 : v78.2.2.1 = o' := congrArg (fun z => z.2.2.2.1) (Option.some.inj hf)
                            have e4 : sn = sn' := congrArg (fun z => z.2.2.2.2.1) (Option.some.inj hf)
                            have e5 : v78.2.2.2.1 = r' := congrArg (fun z => z.2.2.2.2.2.1) (Option.some.inj hf)
                            have e6 : v78.2.2.2.2 = n' := congrArg (fun z => z.2.2.2.2.2.2) (Option.some.inj hf)
                            subst e0
                            subst e1
                            subst e2
                            subst e3
                            subst e4
                            subst e5
                            subst e6
                            exact hret H locs ls _ dL_law_294 (by first | rfl | (split <;> rfl) | (split <;> (first | rfl | (split <;> rfl))) | assumption) hP hD hS
                        have hf := hg
                        refine lv_if_ne (tgt := 236) hx hb dL_law_226 (by decide) (fun c70 => ?_) (fun c70 => ?_)
                        · have hf := it_f hf c70
                          refine lv_iload_n hx hb dL_law_236 rfl (lv_at hl 3 rfl) ?_
                          refine lv_iconst (v := (3 : Int32)) hx hb dL_law_237 kc_iconst_3 ?_
                          refine lv_irem hx hb dL_law_238 (by decide) ?_
                          refine lv_iconst (v := (1 : Int32)) hx hb dL_law_239 kc_iconst_1 ?_
                          refine lv_icmp_ne (tgt := 273) hx hb dL_law_240 (by decide) (fun c71 => ?_) (fun c71 => ?_)
                          · have hf := it_f hf c71
                            refine lv_aload_n hx hb dL_law_273 rfl (lv_at hl 2 rfl) ?_
                            refine lv_iload_n hx hb dL_law_274 rfl (lv_at hl 4 rfl) ?_
                            refine lv_bipush (v := (9 : Int32)) hx hb dL_law_275 kc_bipush_9 ?_
                            refine lv_ishr hx hb dL_law_277 ?_
                            refine lv_iload hx hb dL_law_278 (lv_at hl 0 rfl) ?_
                            obtain ⟨v72, hv72, hf⟩ := it_b hf
                            refine cTi (As := [.int (v10 >>> ((9 : Int32) &&& 31)), .int (v68 * v69)]) (rest := [.ref ka]) S (c_L_up l D cI cN _ (v10 >>> ((9 : Int32) &&& 31)) (v68 * v69) v72 hv72) (va_cwS 2 hts gL_law_L_up rfl rfl rfl (by decide +kernel) ⟨Nat.le_of_ble_eq_true rfl, Nat.le_of_ble_eq_true rfl⟩) hK hP hS hA (P_nil hP) rfl hl.1 rfl (Nat.le_of_ble_eq_true rfl) dL_law_280 ⟨Nat.le_of_ble_eq_true rfl, Nat.le_of_ble_eq_true rfl⟩ (fun H locs hP hS => ?_)
                            obtain ⟨v73, hv73, hf⟩ := it_b hf
                            refine cTi (As := [.ref ka, .int v72]) (rest := []) S (c_L_isReached l D cI cN ka (qo 0) (qs 0) (qt 0) (t 0) h hq u q _ kx v64.2.1 x v64.2.2.2.2 v72 v73 hv73) (va_cwS 2 hts gL_law_L_isReached rfl rfl rfl (by decide +kernel) ⟨Nat.le_of_ble_eq_true rfl, Nat.le_of_ble_eq_true rfl⟩) hK hP hS hA (P_sel [(true, (cxW ka (q 0) (qo 0) (qs 0) (qt 0) (t 0) (h 0) (u 0) (kx.1 7)), (cxW ka (q 0) (qo 0) (qs 0) (qt 0) (t 0) (h 0) (u 0) (kx.1 7))), (true, (hiW cI cN h hq v64.2.1), (hiW cI cN h hq v64.2.1)), (true, (txW cI u x), (txW cI u x)), (false, (nwW cI qo v64.2.2.1), (nwW cI qo v64.2.2.1)), (false, (nwW cI qs sn), (nwW cI qs sn)), (false, (rtW cI t v64.2.2.2.1), (rtW cI t v64.2.2.2.1)), (false, (nwW cI qt tr), (nwW cI qt tr)), (true, (nwW cI q v64.2.2.2.2), (nwW cI q v64.2.2.2.2))] hP) rfl hl.1 rfl (Nat.le_of_ble_eq_true rfl) dL_law_283 ⟨Nat.le_of_ble_eq_true rfl, Nat.le_of_ble_eq_true rfl⟩ (fun H locs hP hS => ?_)
                            have e0 := Option.some.inj hf
                            subst e0
                            exact hj H locs ls hP hD hS (lv_sub hl [1, 2, 3] rfl)
                          · have hf := it_t hf c71
                            refine lv_aload_n hx hb dL_law_243 rfl (lv_at hl 2 rfl) ?_
                            refine lv_iload_n hx hb dL_law_244 rfl (lv_at hl 4 rfl) ?_
                            refine lv_bipush (v := (9 : Int32)) hx hb dL_law_245 kc_bipush_9 ?_
                            refine lv_ishr hx hb dL_law_247 ?_
                            refine lv_iload hx hb dL_law_248 (lv_at hl 0 rfl) ?_
                            refine lv_iconst (v := (1 : Int32)) hx hb dL_law_250 kc_iconst_1 ?_
                            refine lv_iadd hx hb dL_law_251 ?_
                            obtain ⟨v74, hv74, hf⟩ := it_b hf
                            refine cTi (As := [.int (v10 >>> ((9 : Int32) &&& 31)), .int ((v68 * v69) + (1 : Int32))]) (rest := [.ref ka]) S (c_L_up l D cI cN _ (v10 >>> ((9 : Int32) &&& 31)) ((v68 * v69) + (1 : Int32)) v74 hv74) (va_cwS 2 hts gL_law_L_up rfl rfl rfl (by decide +kernel) ⟨Nat.le_of_ble_eq_true rfl, Nat.le_of_ble_eq_true rfl⟩) hK hP hS hA (P_nil hP) rfl hl.1 rfl (Nat.le_of_ble_eq_true rfl) dL_law_252 ⟨Nat.le_of_ble_eq_true rfl, Nat.le_of_ble_eq_true rfl⟩ (fun H locs hP hS => ?_)
                            refine lv_iload hx hb dL_law_255 (lv_at hl 5 rfl) ?_
                            refine lv_bipush (v := (9 : Int32)) hx hb dL_law_257 kc_bipush_9 ?_
                            refine lv_ishr hx hb dL_law_259 ?_
                            refine lv_iload hx hb dL_law_260 (lv_at hl 0 rfl) ?_
                            refine lv_iconst (v := (1 : Int32)) hx hb dL_law_262 kc_iconst_1 ?_
                            refine lv_iadd hx hb dL_law_263 ?_
                            obtain ⟨v75, hv75, hf⟩ := it_b hf
                            refine cTi (As := [.int (v11 >>> ((9 : Int32) &&& 31)), .int ((v68 * v69) + (1 : Int32))]) (rest := [.int v74, .ref ka]) S (c_L_up l D cI cN _ (v11 >>> ((9 : Int32) &&& 31)) ((v68 * v69) + (1 : Int32)) v75 hv75) (va_cwS 2 hts gL_law_L_up rfl rfl rfl (by decide +kernel) ⟨Nat.le_of_ble_eq_true rfl, Nat.le_of_ble_eq_true rfl⟩) hK hP hS hA (P_nil hP) rfl hl.1 rfl (Nat.le_of_ble_eq_true rfl) dL_law_264 ⟨Nat.le_of_ble_eq_true rfl, Nat.le_of_ble_eq_true rfl⟩ (fun H locs hP hS => ?_)
                            obtain ⟨v76, hv76, hf⟩ := it_b hf
                            refine cTw (As := [.ref ka, .int v74, .int v75]) (rest := []) [(true, (cxW ka (q 0) (qo 0) (qs 0) (qt 0) (t 0) (h 0) (u 0) (kx.1 7)), (cxW ka (q 0) (qo 0) (qs 0) (qt 0) (t 0) (h 0) (u 0) (kx.1 7))), (true, (hiW cI cN h hq v64.2.1), (hiW cI cN h hq v76.2.1)), (true, (txW cI u x), (txW cI u x)), (true, (nwW cI qo v64.2.2.1), (nwW cI qo v76.2.2.1)), (false, (nwW cI qs sn), (nwW cI qs sn)), (true, (rtW cI t v64.2.2.2.1), (rtW cI t v76.2.2.2.1)), (false, (nwW cI qt tr), (nwW cI qt tr)), (true, (nwW cI q v64.2.2.2.2), (nwW cI q v76.2.2.2.2))] ⟨ad_cex, (fun h => Bool.noConfusion h), ad_his, (fun h => Bool.noConfusion h), ad_txt, (fun h => Bool.noConfusion h), ad_net, (fun h => Bool.noConfusion h), rfl, (fun _ => rfl), ad_rtr, (fun h => Bool.noConfusion h), rfl, (fun _ => rfl), ad_net, (fun h => Bool.noConfusion h), trivial⟩ S (c_L_isAhead l D cI cN ka (qs 0) (qt 0) h hq u qo t q _ kx v64.2.1 x v64.2.2.1 v64.2.2.2.1 v64.2.2.2.2 v74 v75 v76.1 v76.2.1 v76.2.2.1 v76.2.2.2.1 v76.2.2.2.2 hv76) (va_cwS 3 hts gL_law_L_isAhead rfl rfl rfl (by decide +kernel) ⟨Nat.le_of_ble_eq_true rfl, Nat.le_of_ble_eq_true rfl⟩) hK hP hD hS hA rfl hl.1 rfl (Nat.le_of_ble_eq_true rfl) dL_law_267 ⟨Nat.le_of_ble_eq_true rfl, Nat.le_of_ble_eq_true rfl⟩ (fun H locs hP hD hS => ?_)
                            refine lv_goto (tgt := 286) hx hb dL_law_270 (by decide) ?_
                            have e0 := Option.some.inj hf
                            subst e0
                            exact hj H locs ls hP hD hS (lv_sub hl [1, 2, 3] rfl)
                        · have hf := it_t hf c70
                          refine lv_aload_n hx hb dL_law_229 rfl (lv_at hl 2 rfl) ?_
                          obtain ⟨v77, hv77, hf⟩ := it_b hf
                          refine cTi (As := [.ref ka]) (rest := []) S (c_L_holds l D cI cN ka (qo 0) (qs 0) (qt 0) (t 0) h hq u q _ kx v64.2.1 x v64.2.2.2.2 v77 hv77) (va_cwS 1 hts gL_law_L_holds rfl rfl rfl (by decide +kernel) ⟨Nat.le_of_ble_eq_true rfl, Nat.le_of_ble_eq_true rfl⟩) hK hP hS hA (P_sel [(true, (cxW ka (q 0) (qo 0) (qs 0) (qt 0) (t 0) (h 0) (u 0) (kx.1 7)), (cxW ka (q 0) (qo 0) (qs 0) (qt 0) (t 0) (h 0) (u 0) (kx.1 7))), (true, (hiW cI cN h hq v64.2.1), (hiW cI cN h hq v64.2.1)), (true, (txW cI u x), (txW cI u x)), (false, (nwW cI qo v64.2.2.1), (nwW cI qo v64.2.2.1)), (false, (nwW cI qs sn), (nwW cI qs sn)), (false, (rtW cI t v64.2.2.2.1), (rtW cI t v64.2.2.2.1)), (false, (nwW cI qt tr), (nwW cI qt tr)), (true, (nwW cI q v64.2.2.2.2), (nwW cI q v64.2.2.2.2))] hP) rfl hl.1 rfl (Nat.le_of_ble_eq_true rfl) dL_law_230 ⟨Nat.le_of_ble_eq_true rfl, Nat.le_of_ble_eq_true rfl⟩ (fun H locs hP hS => ?_)
                          refine lv_goto (tgt := 286) hx hb dL_law_233 (by decide) ?_
                          have e0 := Option.some.inj hf
                          subst e0
                          exact hj H locs ls hP hD hS (lv_sub hl [1, 2, 3] rfl)
                      · have hf := it_f hf c67
                        refine lv_iconst (v := (0 : Int32)) hx hb dL_law_208 kc_iconst_0 ?_
                        have e0 : (0 : Int32) = r0 := congrArg (fun z => z.1) (Option.some.inj hf)
                        have e1 : kx = kx' := congrArg (fun z => z.2.1) (Option.some.inj hf)
                        have e2 : v64.2.1 = hi' := congrArg (fun z => z.2.2.1) (Option.some.inj hf)
                        have e3 : v64.2.2.1 = o' := congrArg (fun z => z.2.2.2.1) (Option.some.inj hf)
                        have e4 : sn = sn' := congrArg (fun z => z.2.2.2.2.1) (Option.some.inj hf)
                        have e5 : v64.2.2.2.1 = r' := congrArg (fun z => z.2.2.2.2.2.1) (Option.some.inj hf)
                        have e6 : v64.2.2.2.2 = n' := congrArg (fun z => z.2.2.2.2.2.2) (Option.some.inj hf)
                        subst e0
                        subst e1
                        subst e2
                        subst e3
                        subst e4
                        subst e5
                        subst e6
                        exact hret H locs ls _ dL_law_209 (by first | rfl | (split <;> rfl) | (split <;> (first | rfl | (split <;> rfl))) | assumption) hP hD hS
          · have hf := it_f hf c20
            refine lv_iconst (v := (0 : Int32)) hx hb dL_law_141 kc_iconst_0 ?_
            have e0 : (0 : Int32) = r0 := congrArg (fun z => z.1) (Option.some.inj hf)
            have e1 : kx = kx' := congrArg (fun z => z.2.1) (Option.some.inj hf)
            have e2 : v14.2.1 = hi' := congrArg (fun z => z.2.2.1) (Option.some.inj hf)
            have e3 : v14.2.2.1 = o' := congrArg (fun z => z.2.2.2.1) (Option.some.inj hf)
            have e4 : sn = sn' := congrArg (fun z => z.2.2.2.2.1) (Option.some.inj hf)
            have e5 : v14.2.2.2.1 = r' := congrArg (fun z => z.2.2.2.2.2.1) (Option.some.inj hf)
            have e6 : v14.2.2.2.2 = n' := congrArg (fun z => z.2.2.2.2.2.2) (Option.some.inj hf)
            subst e0
            subst e1
            subst e2
            subst e3
            subst e4
            subst e5
            subst e6
            exact hret H locs ls _ dL_law_142 (by first | rfl | (split <;> rfl) | (split <;> (first | rfl | (split <;> rfl))) | assumption) hP hD hS
        have hf := hg
        refine lv_icmp_ge (tgt := 137) hx hb dL_law_127 (by decide) (fun c18 => ?_) (fun c18 => ?_)
        · have hf := it_t hf c18
          refine lv_iconst (v := (4 : Int32)) hx hb dL_law_137 kc_iconst_4 ?_
          have e0 := hf
          subst e0
          exact hj H locs ls hP hD hS (lv_sub hl [6, 7, 8, 5, 4, 3, 1, 0] rfl)
        · have hf := it_f hf c18
          refine lv_iload hx hb dL_law_130 (lv_at hl 2 rfl) ?_
          refine lv_iconst (v := (1 : Int32)) hx hb dL_law_132 kc_iconst_1 ?_
          refine lv_iadd hx hb dL_law_133 ?_
          refine lv_goto (tgt := 138) hx hb dL_law_134 (by decide) ?_
          have e0 := hf
          subst e0
          exact hj H locs ls hP hD hS (lv_sub hl [6, 7, 8, 5, 4, 3, 1, 0] rfl)
      · have hf := it_f hf c16
        refine lv_lload hx hb dL_law_96 (lv_at hl 0 rfl) ?_
        refine lv_lload hx hb dL_law_98 (lv_at hl 3 rfl) ?_
        refine W.lcmp hx hb dL_law_100 ?_
        refine lv_if_ne (tgt := 141) hx hb dL_law_101 (by decide) (fun c86 => ?_) (fun c86 => ?_)
        · have hf := it_f hf c86
          refine lv_iconst (v := (0 : Int32)) hx hb dL_law_141 kc_iconst_0 ?_
          have e0 : (0 : Int32) = r0 := congrArg (fun z => z.1) (Option.some.inj hf)
          have e1 : kx = kx' := congrArg (fun z => z.2.1) (Option.some.inj hf)
          have e2 : v14.2.1 = hi' := congrArg (fun z => z.2.2.1) (Option.some.inj hf)
          have e3 : v14.2.2.1 = o' := congrArg (fun z => z.2.2.2.1) (Option.some.inj hf)
          have e4 : sn = sn' := congrArg (fun z => z.2.2.2.2.1) (Option.some.inj hf)
          have e5 : v14.2.2.2.1 = r' := congrArg (fun z => z.2.2.2.2.2.1) (Option.some.inj hf)
          have e6 : v14.2.2.2.2 = n' := congrArg (fun z => z.2.2.2.2.2.2) (Option.some.inj hf)
          subst e0
          subst e1
          subst e2
          subst e3
          subst e4
          subst e5
          subst e6
          exact hret H locs ls _ dL_law_142 (by first | rfl | (split <;> rfl) | (split <;> (first | rfl | (split <;> rfl))) | assumption) hP hD hS
        · have hf := it_t hf c86
          refine lv_aload_n hx hb dL_law_104 rfl (lv_at hl 7 rfl) ?_
          refine lv_bipush (v := (10 : Int32)) hx hb dL_law_105 kc_bipush_10 ?_
          obtain ⟨v87, hv87, hf⟩ := it_b hf
          refine cQi (As := [.int (10 : Int32)]) (rest := []) (q0 := 0) (ci := 5) S (c_X5_total l D cI cN ka (qo 0) (qs 0) (qt 0) (t 0) h hq u q _ kx v14.2.1 x v14.2.2.2.2 (10 : Int32) v87 hv87) (cwV 1 hts gL_law_X5_total rfl rfl rfl (by decide +kernel) ⟨Nat.le_of_ble_eq_true rfl, Nat.le_of_ble_eq_true rfl⟩) hK hP hS hA (P_sel [(true, (cxW ka (q 0) (qo 0) (qs 0) (qt 0) (t 0) (h 0) (u 0) (kx.1 7)), (cxW ka (q 0) (qo 0) (qs 0) (qt 0) (t 0) (h 0) (u 0) (kx.1 7))), (true, (hiW cI cN h hq v14.2.1), (hiW cI cN h hq v14.2.1)), (true, (txW cI u x), (txW cI u x)), (false, (nwW cI qo v14.2.2.1), (nwW cI qo v14.2.2.1)), (false, (nwW cI qs sn), (nwW cI qs sn)), (false, (rtW cI t v14.2.2.2.1), (rtW cI t v14.2.2.2.1)), (false, (nwW cI qt tr), (nwW cI qt tr)), (true, (nwW cI q v14.2.2.2.2), (nwW cI q v14.2.2.2.2))] hP) rfl rfl rfl hl.1 rfl (Nat.le_of_ble_eq_true rfl) dL_law_107 ⟨Nat.le_of_ble_eq_true rfl, Nat.le_of_ble_eq_true rfl⟩ (fun H locs hP hS => ?_)
          refine lv_iload hx hb dL_law_110 (lv_at hl 2 rfl) ?_
          refine lv_icmp_eq (tgt := 143) hx hb dL_law_112 (by decide) (fun c88 => ?_) (fun c88 => ?_)
          · have hf := it_t hf c88
            refine lv_iload hx hb dL_law_143 (lv_at hl 1 rfl) ?_
            refine lv_if_lt (tgt := 210) hx hb dL_law_145 (by decide) (fun c89 => ?_) (fun c89 => ?_)
            · have hf := it_t hf c89
              refine lv_aload_n hx hb dL_law_210 rfl (lv_at hl 7 rfl) ?_
              refine lv_iconst (v := (0 : Int32)) hx hb dL_law_211 kc_iconst_0 ?_
              obtain ⟨v90, hv90, hf⟩ := it_b hf
              refine cQi (As := [.int (0 : Int32)]) (rest := []) (q0 := 0) (ci := 5) S (c_X5_total l D cI cN ka (qo 0) (qs 0) (qt 0) (t 0) h hq u q _ kx v14.2.1 x v14.2.2.2.2 (0 : Int32) v90 hv90) (cwV 1 hts gL_law_X5_total rfl rfl rfl (by decide +kernel) ⟨Nat.le_of_ble_eq_true rfl, Nat.le_of_ble_eq_true rfl⟩) hK hP hS hA (P_sel [(true, (cxW ka (q 0) (qo 0) (qs 0) (qt 0) (t 0) (h 0) (u 0) (kx.1 7)), (cxW ka (q 0) (qo 0) (qs 0) (qt 0) (t 0) (h 0) (u 0) (kx.1 7))), (true, (hiW cI cN h hq v14.2.1), (hiW cI cN h hq v14.2.1)), (true, (txW cI u x), (txW cI u x)), (false, (nwW cI qo v14.2.2.1), (nwW cI qo v14.2.2.1)), (false, (nwW cI qs sn), (nwW cI qs sn)), (false, (rtW cI t v14.2.2.2.1), (rtW cI t v14.2.2.2.1)), (false, (nwW cI qt tr), (nwW cI qt tr)), (true, (nwW cI q v14.2.2.2.2), (nwW cI q v14.2.2.2.2))] hP) rfl rfl rfl hl.1 rfl (Nat.le_of_ble_eq_true rfl) dL_law_212 ⟨Nat.le_of_ble_eq_true rfl, Nat.le_of_ble_eq_true rfl⟩ (fun H locs hP hS => ?_)
              refine lv_aload_n hx hb dL_law_215 rfl (lv_at hl 7 rfl) ?_
              refine lv_iconst (v := (1 : Int32)) hx hb dL_law_216 kc_iconst_1 ?_
              obtain ⟨v91, hv91, hf⟩ := it_b hf
              refine cQi (As := [.int (1 : Int32)]) (rest := [.int v90]) (q0 := 0) (ci := 5) S (c_X5_total l D cI cN ka (qo 0) (qs 0) (qt 0) (t 0) h hq u q _ kx v14.2.1 x v14.2.2.2.2 (1 : Int32) v91 hv91) (cwV 1 hts gL_law_X5_total rfl rfl rfl (by decide +kernel) ⟨Nat.le_of_ble_eq_true rfl, Nat.le_of_ble_eq_true rfl⟩) hK hP hS hA (P_sel [(true, (cxW ka (q 0) (qo 0) (qs 0) (qt 0) (t 0) (h 0) (u 0) (kx.1 7)), (cxW ka (q 0) (qo 0) (qs 0) (qt 0) (t 0) (h 0) (u 0) (kx.1 7))), (true, (hiW cI cN h hq v14.2.1), (hiW cI cN h hq v14.2.1)), (true, (txW cI u x), (txW cI u x)), (false, (nwW cI qo v14.2.2.1), (nwW cI qo v14.2.2.1)), (false, (nwW cI qs sn), (nwW cI qs sn)), (false, (rtW cI t v14.2.2.2.1), (rtW cI t v14.2.2.2.1)), (false, (nwW cI qt tr), (nwW cI qt tr)), (true, (nwW cI q v14.2.2.2.2), (nwW cI q v14.2.2.2.2))] hP) rfl rfl rfl hl.1 rfl (Nat.le_of_ble_eq_true rfl) dL_law_217 ⟨Nat.le_of_ble_eq_true rfl, Nat.le_of_ble_eq_true rfl⟩ (fun H locs hP hS => ?_)
              refine lv_imul hx hb dL_law_220 ?_
              refine lv_istore (lv' := [(11, .int (v90 * v91)), (9, .long v15), (8, .int v14.1), (7, .int v13), (5, .long v12), (4, .int v11), (3, .int v10), (0, .ref b), (1, .ref ka), (2, .int x2)]) hx hb dL_law_221 hl (by decide) rfl (fun ls hl => ?_)
              refine lv_iload_n hx hb dL_law_223 rfl (lv_at hl 9 rfl) ?_
              refine lv_iconst (v := (3 : Int32)) hx hb dL_law_224 kc_iconst_3 ?_
              refine lv_irem hx hb dL_law_225 (by decide) ?_
              obtain ⟨v100, hg, hf⟩ := it_b hf
              have hj : ∀ (H : Heap) (locs : List Loc) (ls : Array Slot), va_P D vwCl ((cxW ka (q 0) (qo 0) (qs 0) (qt 0) (t 0) (h 0) (u 0) (kx.1 7)) ++ ((hiW cI cN h hq v100.2.1) ++ ((txW cI u x) ++ ((nwW cI qo v100.2.2.1) ++ ((nwW cI qs sn) ++ ((rtW cI t v100.2.2.2.1) ++ ((nwW cI qt tr) ++ (nwW cI q v100.2.2.2.2)))))))) H → va_D A ((cxW ka (q 0) (qo 0) (qs 0) (qt 0) (t 0) (h 0) (u 0) (kx.1 7)) ++ ((hiW cI cN h hq v100.2.1) ++ ((txW cI u x) ++ ((nwW cI qo v100.2.2.1) ++ ((nwW cI qs sn) ++ ((rtW cI t v100.2.2.2.1) ++ ((nwW cI qt tr) ++ (nwW cI q v100.2.2.2.2)))))))) → va_S A s.heap H locs → lv_has ls 14 [(0, .ref b), (1, .ref ka), (2, .int x2)] → W p l e room_1 s m args below meth c H locs 115 2889 Q (F0 m 286 ls [.int v100.1]) := by
                intro H locs ls hP hD hS hl
                refine lv_istore (lv' := [(12, .int v100.1), (0, .ref b), (1, .ref ka), (2, .int x2)]) hx hb dL_law_286 hl (by decide) rfl (fun ls hl => ?_)
                refine lv_iload hx hb dL_law_288 (lv_at hl 0 rfl) ?_
                refine lv_if_ne (tgt := 295) hx hb dL_law_290 (by decide) (fun c101 => ?_) (fun c101 => ?_)
                · have hf := it_f hf c101
                  refine lv_iload_n hx hb dL_law_295 rfl (lv_at hl 3 rfl) ?_
                  refine lv_bipush (v := (11 : Int32)) hx hb dL_law_296 kc_bipush_11 ?_
                  refine lv_irem hx hb dL_law_298 (by decide) ?_
                  refine lv_iconst (v := (5 : Int32)) hx hb dL_law_299 kc_iconst_5 ?_
                  obtain ⟨v105, hg, hf⟩ := it_b hf
                  have hj : ∀ (H : Heap) (locs : List Loc) (ls : Array Slot), va_P D vwCl ((cxW ka (q 0) (qo 0) (qs 0) (qt 0) (t 0) (h 0) (u 0) (v105.2.1.1 7)) ++ ((hiW cI cN h hq v100.2.1) ++ ((txW cI u x) ++ ((nwW cI qo v100.2.2.1) ++ ((nwW cI qs v105.2.2) ++ ((rtW cI t v100.2.2.2.1) ++ ((nwW cI qt tr) ++ (nwW cI q v100.2.2.2.2)))))))) H → va_D A ((cxW ka (q 0) (qo 0) (qs 0) (qt 0) (t 0) (h 0) (u 0) (v105.2.1.1 7)) ++ ((hiW cI cN h hq v100.2.1) ++ ((txW cI u x) ++ ((nwW cI qo v100.2.2.1) ++ ((nwW cI qs v105.2.2) ++ ((rtW cI t v100.2.2.2.1) ++ ((nwW cI qt tr) ++ (nwW cI q v100.2.2.2.2)))))))) → va_S A s.heap H locs → lv_has ls 14 [(0, .ref b), (1, .ref ka), (2, .int x2)] → W p l e room_1 s m args below meth c H locs 115 2889 Q (F0 m 315 ls [.int v105.1]) := by
                    intro H locs ls hP hD hS hl
                    refine lv_istore (lv' := [(13, .int v105.1), (0, .ref b), (1, .ref ka), (2, .int x2)]) hx hb dL_law_315 hl (by decide) rfl (fun ls hl => ?_)
                    refine lv_iload hx hb dL_law_317 (lv_at hl 0 rfl) ?_
                    refine lv_aload_n hx hb dL_law_319 rfl (lv_at hl 2 rfl) ?_
                    refine lv_iconst (v := (5 : Int32)) hx hb dL_law_320 kc_iconst_5 ?_
                    obtain ⟨v106, hv106, hf⟩ := it_b hf
                    refine cQi (As := [.int (5 : Int32)]) (rest := [.int v105.1]) (q0 := 0) (ci := 5) S (c_X5_total l D cI cN ka (qo 0) (qs 0) (qt 0) (t 0) h hq u q _ v105.2.1 v100.2.1 x v100.2.2.2.2 (5 : Int32) v106 hv106) (cwV 1 hts gL_law_X5_total rfl rfl rfl (by decide +kernel) ⟨Nat.le_of_ble_eq_true rfl, Nat.le_of_ble_eq_true rfl⟩) hK hP hS hA (P_sel [(true, (cxW ka (q 0) (qo 0) (qs 0) (qt 0) (t 0) (h 0) (u 0) (v105.2.1.1 7)), (cxW ka (q 0) (qo 0) (qs 0) (qt 0) (t 0) (h 0) (u 0) (v105.2.1.1 7))), (true, (hiW cI cN h hq v100.2.1), (hiW cI cN h hq v100.2.1)), (true, (txW cI u x), (txW cI u x)), (false, (nwW cI qo v100.2.2.1), (nwW cI qo v100.2.2.1)), (false, (nwW cI qs v105.2.2), (nwW cI qs v105.2.2)), (false, (rtW cI t v100.2.2.2.1), (rtW cI t v100.2.2.2.1)), (false, (nwW cI qt tr), (nwW cI qt tr)), (true, (nwW cI q v100.2.2.2.2), (nwW cI q v100.2.2.2.2))] hP) rfl rfl rfl hl.1 rfl (Nat.le_of_ble_eq_true rfl) dL_law_321 ⟨Nat.le_of_ble_eq_true rfl, Nat.le_of_ble_eq_true rfl⟩ (fun H locs hP hS => ?_)
                    refine lv_icmp_eq (tgt := 329) hx hb dL_law_324 (by decide) (fun c107 => ?_) (fun c107 => ?_)
                    · have hf := it_t hf c107
                      refine lv_iinc (v := (x2 + (1 : Int32))) (lv' := [(2, .int (x2 + (1 : Int32))), (13, .int v105.1), (0, .ref b), (1, .ref ka)]) hx hb dL_law_329 hl (k := 3) rfl rfl (by decide) rfl (fun ls hl => ?_)
                      refine lv_goto (tgt := 37) hx hb dL_law_332 (by decide) ?_
                      exact ih _ _ _ _ _ _ _ hf H locs ls hP hD hS (lv_sub hl [2, 3, 0] rfl)
                    · have hf := it_f hf c107
                      refine lv_iconst (v := (0 : Int32)) hx hb dL_law_327 kc_iconst_0 ?_
                      have e0 : (0 : Int32) = r0 := congrArg (fun z => z.1) (Option.some.inj hf)
                      have e1 : v105.2.1 = kx' := congrArg (fun z => z.2.1) (Option.some.inj hf)
                      have e2 : v100.2.1 = hi' := congrArg (fun z => z.2.2.1) (Option.some.inj hf)
                      have e3 : v100.2.2.1 = o' := congrArg (fun z => z.2.2.2.1) (Option.some.inj hf)
                      have e4 : v105.2.2 = sn' := congrArg (fun z => z.2.2.2.2.1) (Option.some.inj hf)
                      have e5 : v100.2.2.2.1 = r' := congrArg (fun z => z.2.2.2.2.2.1) (Option.some.inj hf)
                      have e6 : v100.2.2.2.2 = n' := congrArg (fun z => z.2.2.2.2.2.2) (Option.some.inj hf)
                      subst e0
                      subst e1
                      subst e2
                      subst e3
                      subst e4
                      subst e5
                      subst e6
                      exact hret H locs ls _ dL_law_328 (by first | rfl | (split <;> rfl) | (split <;> (first | rfl | (split <;> rfl))) | assumption) hP hD hS
                  have hf := hg
                  refine lv_icmp_ne (tgt := 310) hx hb dL_law_300 (by decide) (fun c102 => ?_) (fun c102 => ?_)
                  · have hf := it_f hf c102
                    refine lv_aload_n hx hb dL_law_310 rfl (lv_at hl 2 rfl) ?_
                    refine lv_iconst (v := (5 : Int32)) hx hb dL_law_311 kc_iconst_5 ?_
                    obtain ⟨v103, hv103, hf⟩ := it_b hf
                    refine cQi (As := [.int (5 : Int32)]) (rest := []) (q0 := 0) (ci := 5) S (c_X5_total l D cI cN ka (qo 0) (qs 0) (qt 0) (t 0) h hq u q _ kx v100.2.1 x v100.2.2.2.2 (5 : Int32) v103 hv103) (cwV 1 hts gL_law_X5_total rfl rfl rfl (by decide +kernel) ⟨Nat.le_of_ble_eq_true rfl, Nat.le_of_ble_eq_true rfl⟩) hK hP hS hA (P_sel [(true, (cxW ka (q 0) (qo 0) (qs 0) (qt 0) (t 0) (h 0) (u 0) (kx.1 7)), (cxW ka (q 0) (qo 0) (qs 0) (qt 0) (t 0) (h 0) (u 0) (kx.1 7))), (true, (hiW cI cN h hq v100.2.1), (hiW cI cN h hq v100.2.1)), (true, (txW cI u x), (txW cI u x)), (false, (nwW cI qo v100.2.2.1), (nwW cI qo v100.2.2.1)), (false, (nwW cI qs sn), (nwW cI qs sn)), (false, (rtW cI t v100.2.2.2.1), (rtW cI t v100.2.2.2.1)), (false, (nwW cI qt tr), (nwW cI qt tr)), (true, (nwW cI q v100.2.2.2.2), (nwW cI q v100.2.2.2.2))] hP) rfl rfl rfl hl.1 rfl (Nat.le_of_ble_eq_true rfl) dL_law_312 ⟨Nat.le_of_ble_eq_true rfl, Nat.le_of_ble_eq_true rfl⟩ (fun H locs hP hS => ?_)
                    have e0 := Option.some.inj hf
                    subst e0
                    exact hj H locs ls hP hD hS (lv_sub hl [1, 2, 3] rfl)
                  · have hf := it_t hf c102
                    refine lv_aload_n hx hb dL_law_303 rfl (lv_at hl 2 rfl) ?_
                    obtain ⟨v104, hv104, hf⟩ := it_b hf
                    refine cBi (As := []) (rest := []) (q0 := 0) (ci := 5) [(true, (cxW ka (q 0) (qo 0) (qs 0) (qt 0) (t 0) (h 0) (u 0) (kx.1 7)), (cxW ka (q 0) (qo 0) (qs 0) (qt 0) (t 0) (h 0) (u 0) (v104.2.1.1 7))), (false, (hiW cI cN h hq v100.2.1), (hiW cI cN h hq v100.2.1)), (false, (txW cI u x), (txW cI u x)), (false, (nwW cI qo v100.2.2.1), (nwW cI qo v100.2.2.1)), (true, (nwW cI qs sn), (nwW cI qs v104.2.2)), (false, (rtW cI t v100.2.2.2.1), (rtW cI t v100.2.2.2.1)), (false, (nwW cI qt tr), (nwW cI qt tr)), (true, (nwW cI q v100.2.2.2.2), (nwW cI q v100.2.2.2.2))] ⟨ad_cex, (fun h => Bool.noConfusion h), rfl, (fun _ => rfl), rfl, (fun _ => rfl), rfl, (fun _ => rfl), ad_net, (fun h => Bool.noConfusion h), rfl, (fun _ => rfl), rfl, (fun _ => rfl), ad_net, (fun h => Bool.noConfusion h), trivial⟩ S (c_X5_keep l D cI cN ka (qo 0) (qt 0) (t 0) (h 0) (u 0) qs q _ kx sn v100.2.2.2.2 v104.1 v104.2.1 v104.2.2 hv104) (cwV 0 hts gL_law_X5_keep rfl rfl rfl (by decide +kernel) ⟨Nat.le_of_ble_eq_true rfl, Nat.le_of_ble_eq_true rfl⟩) hK hP hD hS hA rfl rfl rfl hl.1 rfl (Nat.le_of_ble_eq_true rfl) dL_law_304 ⟨Nat.le_of_ble_eq_true rfl, Nat.le_of_ble_eq_true rfl⟩ (fun H locs hP hD hS => ?_)
                    refine lv_goto (tgt := 315) hx hb dL_law_307 (by decide) ?_
                    have e0 := Option.some.inj hf
                    subst e0
                    exact hj H locs ls hP hD hS (lv_sub hl [1, 2, 3] rfl)
                · have hf := it_t hf c101
                  refine lv_iconst (v := (0 : Int32)) hx hb dL_law_293 kc_iconst_0 ?_
                  have e0 : (0 : Int32) = r0 := congrArg (fun z => z.1) (Option.some.inj hf)
                  have e1 : kx = kx' := congrArg (fun z => z.2.1) (Option.some.inj hf)
                  have e2 : v100.2.1 = hi' := congrArg (fun z => z.2.2.1) (Option.some.inj hf)
                  have e3 : v100.2.2.1 = o' := congrArg (fun z => z.2.2.2.1) (Option.some.inj hf)
                  have e4 : sn = sn' := congrArg (fun z => z.2.2.2.2.1) (Option.some.inj hf)
                  have e5 : v100.2.2.2.1 = r' := congrArg (fun z => z.2.2.2.2.2.1) (Option.some.inj hf)
                  have e6 : v100.2.2.2.2 = n' := congrArg (fun z => z.2.2.2.2.2.2) (Option.some.inj hf)
                  subst e0
                  subst e1
                  subst e2
                  subst e3
                  subst e4
                  subst e5
                  subst e6
                  exact hret H locs ls _ dL_law_294 (by first | rfl | (split <;> rfl) | (split <;> (first | rfl | (split <;> rfl))) | assumption) hP hD hS
              have hf := hg
              refine lv_if_ne (tgt := 236) hx hb dL_law_226 (by decide) (fun c92 => ?_) (fun c92 => ?_)
              · have hf := it_f hf c92
                refine lv_iload_n hx hb dL_law_236 rfl (lv_at hl 9 rfl) ?_
                refine lv_iconst (v := (3 : Int32)) hx hb dL_law_237 kc_iconst_3 ?_
                refine lv_irem hx hb dL_law_238 (by decide) ?_
                refine lv_iconst (v := (1 : Int32)) hx hb dL_law_239 kc_iconst_1 ?_
                refine lv_icmp_ne (tgt := 273) hx hb dL_law_240 (by decide) (fun c93 => ?_) (fun c93 => ?_)
                · have hf := it_f hf c93
                  refine lv_aload_n hx hb dL_law_273 rfl (lv_at hl 8 rfl) ?_
                  refine lv_iload_n hx hb dL_law_274 rfl (lv_at hl 6 rfl) ?_
                  refine lv_bipush (v := (9 : Int32)) hx hb dL_law_275 kc_bipush_9 ?_
                  refine lv_ishr hx hb dL_law_277 ?_
                  refine lv_iload hx hb dL_law_278 (lv_at hl 0 rfl) ?_
                  obtain ⟨v94, hv94, hf⟩ := it_b hf
                  refine cTi (As := [.int (v10 >>> ((9 : Int32) &&& 31)), .int (v90 * v91)]) (rest := [.ref ka]) S (c_L_up l D cI cN _ (v10 >>> ((9 : Int32) &&& 31)) (v90 * v91) v94 hv94) (va_cwS 2 hts gL_law_L_up rfl rfl rfl (by decide +kernel) ⟨Nat.le_of_ble_eq_true rfl, Nat.le_of_ble_eq_true rfl⟩) hK hP hS hA (P_nil hP) rfl hl.1 rfl (Nat.le_of_ble_eq_true rfl) dL_law_280 ⟨Nat.le_of_ble_eq_true rfl, Nat.le_of_ble_eq_true rfl⟩ (fun H locs hP hS => ?_)
                  obtain ⟨v95, hv95, hf⟩ := it_b hf
                  refine cTi (As := [.ref ka, .int v94]) (rest := []) S (c_L_isReached l D cI cN ka (qo 0) (qs 0) (qt 0) (t 0) h hq u q _ kx v14.2.1 x v14.2.2.2.2 v94 v95 hv95) (va_cwS 2 hts gL_law_L_isReached rfl rfl rfl (by decide +kernel) ⟨Nat.le_of_ble_eq_true rfl, Nat.le_of_ble_eq_true rfl⟩) hK hP hS hA (P_sel [(true, (cxW ka (q 0) (qo 0) (qs 0) (qt 0) (t 0) (h 0) (u 0) (kx.1 7)), (cxW ka (q 0) (qo 0) (qs 0) (qt 0) (t 0) (h 0) (u 0) (kx.1 7))), (true, (hiW cI cN h hq v14.2.1), (hiW cI cN h hq v14.2.1)), (true, (txW cI u x), (txW cI u x)), (false, (nwW cI qo v14.2.2.1), (nwW cI qo v14.2.2.1)), (false, (nwW cI qs sn), (nwW cI qs sn)), (false, (rtW cI t v14.2.2.2.1), (rtW cI t v14.2.2.2.1)), (false, (nwW cI qt tr), (nwW cI qt tr)), (true, (nwW cI q v14.2.2.2.2), (nwW cI q v14.2.2.2.2))] hP) rfl hl.1 rfl (Nat.le_of_ble_eq_true rfl) dL_law_283 ⟨Nat.le_of_ble_eq_true rfl, Nat.le_of_ble_eq_true rfl⟩ (fun H locs hP hS => ?_)
                  have e0 := Option.some.inj hf
                  subst e0
                  exact hj H locs ls hP hD hS (lv_sub hl [7, 8, 9] rfl)
                · have hf := it_t hf c93
                  refine lv_aload_n hx hb dL_law_243 rfl (lv_at hl 8 rfl) ?_
                  refine lv_iload_n hx hb dL_law_244 rfl (lv_at hl 6 rfl) ?_
                  refine lv_bipush (v := (9 : Int32)) hx hb dL_law_245 kc_bipush_9 ?_
                  refine lv_ishr hx hb dL_law_247 ?_
                  refine lv_iload hx hb dL_law_248 (lv_at hl 0 rfl) ?_
                  refine lv_iconst (v := (1 : Int32)) hx hb dL_law_250 kc_iconst_1 ?_
                  refine lv_iadd hx hb dL_law_251 ?_
                  obtain ⟨v96, hv96, hf⟩ := it_b hf
                  refine cTi (As := [.int (v10 >>> ((9 : Int32) &&& 31)), .int ((v90 * v91) + (1 : Int32))]) (rest := [.ref ka]) S (c_L_up l D cI cN _ (v10 >>> ((9 : Int32) &&& 31)) ((v90 * v91) + (1 : Int32)) v96 hv96) (va_cwS 2 hts gL_law_L_up rfl rfl rfl (by decide +kernel) ⟨Nat.le_of_ble_eq_true rfl, Nat.le_of_ble_eq_true rfl⟩) hK hP hS hA (P_nil hP) rfl hl.1 rfl (Nat.le_of_ble_eq_true rfl) dL_law_252 ⟨Nat.le_of_ble_eq_true rfl, Nat.le_of_ble_eq_true rfl⟩ (fun H locs hP hS => ?_)
                  refine lv_iload hx hb dL_law_255 (lv_at hl 5 rfl) ?_
                  refine lv_bipush (v := (9 : Int32)) hx hb dL_law_257 kc_bipush_9 ?_
                  refine lv_ishr hx hb dL_law_259 ?_
                  refine lv_iload hx hb dL_law_260 (lv_at hl 0 rfl) ?_
                  refine lv_iconst (v := (1 : Int32)) hx hb dL_law_262 kc_iconst_1 ?_
                  refine lv_iadd hx hb dL_law_263 ?_
                  obtain ⟨v97, hv97, hf⟩ := it_b hf
                  refine cTi (As := [.int (v11 >>> ((9 : Int32) &&& 31)), .int ((v90 * v91) + (1 : Int32))]) (rest := [.int v96, .ref ka]) S (c_L_up l D cI cN _ (v11 >>> ((9 : Int32) &&& 31)) ((v90 * v91) + (1 : Int32)) v97 hv97) (va_cwS 2 hts gL_law_L_up rfl rfl rfl (by decide +kernel) ⟨Nat.le_of_ble_eq_true rfl, Nat.le_of_ble_eq_true rfl⟩) hK hP hS hA (P_nil hP) rfl hl.1 rfl (Nat.le_of_ble_eq_true rfl) dL_law_264 ⟨Nat.le_of_ble_eq_true rfl, Nat.le_of_ble_eq_true rfl⟩ (fun H locs hP hS => ?_)
                  obtain ⟨v98, hv98, hf⟩ := it_b hf
                  refine cTw (As := [.ref ka, .int v96, .int v97]) (rest := []) [(true, (cxW ka (q 0) (qo 0) (qs 0) (qt 0) (t 0) (h 0) (u 0) (kx.1 7)), (cxW ka (q 0) (qo 0) (qs 0) (qt 0) (t 0) (h 0) (u 0) (kx.1 7))), (true, (hiW cI cN h hq v14.2.1), (hiW cI cN h hq v98.2.1)), (true, (txW cI u x), (txW cI u x)), (true, (nwW cI qo v14.2.2.1), (nwW cI qo v98.2.2.1)), (false, (nwW cI qs sn), (nwW cI qs sn)), (true, (rtW cI t v14.2.2.2.1), (rtW cI t v98.2.2.2.1)), (false, (nwW cI qt tr), (nwW cI qt tr)), (true, (nwW cI q v14.2.2.2.2), (nwW cI q v98.2.2.2.2))] ⟨ad_cex, (fun h => Bool.noConfusion h), ad_his, (fun h => Bool.noConfusion h), ad_txt, (fun h => Bool.noConfusion h), ad_net, (fun h => Bool.noConfusion h), rfl, (fun _ => rfl), ad_rtr, (fun h => Bool.noConfusion h), rfl, (fun _ => rfl), ad_net, (fun h => Bool.noConfusion h), trivial⟩ S (c_L_isAhead l D cI cN ka (qs 0) (qt 0) h hq u qo t q _ kx v14.2.1 x v14.2.2.1 v14.2.2.2.1 v14.2.2.2.2 v96 v97 v98.1 v98.2.1 v98.2.2.1 v98.2.2.2.1 v98.2.2.2.2 hv98) (va_cwS 3 hts gL_law_L_isAhead rfl rfl rfl (by decide +kernel) ⟨Nat.le_of_ble_eq_true rfl, Nat.le_of_ble_eq_true rfl⟩) hK hP hD hS hA rfl hl.1 rfl (Nat.le_of_ble_eq_true rfl) dL_law_267 ⟨Nat.le_of_ble_eq_true rfl, Nat.le_of_ble_eq_true rfl⟩ (fun H locs hP hD hS => ?_)
                  refine lv_goto (tgt := 286) hx hb dL_law_270 (by decide) ?_
                  have e0 := Option.some.inj hf
                  subst e0
                  exact hj H locs ls hP hD hS (lv_sub hl [7, 8, 9] rfl)
              · have hf := it_t hf c92
                refine lv_aload_n hx hb dL_law_229 rfl (lv_at hl 8 rfl) ?_
                obtain ⟨v99, hv99, hf⟩ := it_b hf
                refine cTi (As := [.ref ka]) (rest := []) S (c_L_holds l D cI cN ka (qo 0) (qs 0) (qt 0) (t 0) h hq u q _ kx v14.2.1 x v14.2.2.2.2 v99 hv99) (va_cwS 1 hts gL_law_L_holds rfl rfl rfl (by decide +kernel) ⟨Nat.le_of_ble_eq_true rfl, Nat.le_of_ble_eq_true rfl⟩) hK hP hS hA (P_sel [(true, (cxW ka (q 0) (qo 0) (qs 0) (qt 0) (t 0) (h 0) (u 0) (kx.1 7)), (cxW ka (q 0) (qo 0) (qs 0) (qt 0) (t 0) (h 0) (u 0) (kx.1 7))), (true, (hiW cI cN h hq v14.2.1), (hiW cI cN h hq v14.2.1)), (true, (txW cI u x), (txW cI u x)), (false, (nwW cI qo v14.2.2.1), (nwW cI qo v14.2.2.1)), (false, (nwW cI qs sn), (nwW cI qs sn)), (false, (rtW cI t v14.2.2.2.1), (rtW cI t v14.2.2.2.1)), (false, (nwW cI qt tr), (nwW cI qt tr)), (true, (nwW cI q v14.2.2.2.2), (nwW cI q v14.2.2.2.2))] hP) rfl hl.1 rfl (Nat.le_of_ble_eq_true rfl) dL_law_230 ⟨Nat.le_of_ble_eq_true rfl, Nat.le_of_ble_eq_true rfl⟩ (fun H locs hP hS => ?_)
                refine lv_goto (tgt := 286) hx hb dL_law_233 (by decide) ?_
                have e0 := Option.some.inj hf
                subst e0
                exact hj H locs ls hP hD hS (lv_sub hl [7, 8, 9] rfl)
            · have hf := it_f hf c89
              refine lv_iload_n hx hb dL_law_148 rfl (lv_at hl 5 rfl) ?_
              refine lv_bipush (v := (8 : Int32)) hx hb dL_law_149 kc_bipush_8 ?_
              refine lv_ishr hx hb dL_law_151 ?_
              refine lv_iconst (v := (1 : Int32)) hx hb dL_law_152 kc_iconst_1 ?_
              refine lv_iand hx hb dL_law_153 ?_
              refine lv_if_ne (tgt := 210) hx hb dL_law_154 (by decide) (fun c108 => ?_) (fun c108 => ?_)
              · have hf := it_f hf c108
                refine lv_aload_n hx hb dL_law_210 rfl (lv_at hl 7 rfl) ?_
                refine lv_iconst (v := (0 : Int32)) hx hb dL_law_211 kc_iconst_0 ?_
                obtain ⟨v109, hv109, hf⟩ := it_b hf
                refine cQi (As := [.int (0 : Int32)]) (rest := []) (q0 := 0) (ci := 5) S (c_X5_total l D cI cN ka (qo 0) (qs 0) (qt 0) (t 0) h hq u q _ kx v14.2.1 x v14.2.2.2.2 (0 : Int32) v109 hv109) (cwV 1 hts gL_law_X5_total rfl rfl rfl (by decide +kernel) ⟨Nat.le_of_ble_eq_true rfl, Nat.le_of_ble_eq_true rfl⟩) hK hP hS hA (P_sel [(true, (cxW ka (q 0) (qo 0) (qs 0) (qt 0) (t 0) (h 0) (u 0) (kx.1 7)), (cxW ka (q 0) (qo 0) (qs 0) (qt 0) (t 0) (h 0) (u 0) (kx.1 7))), (true, (hiW cI cN h hq v14.2.1), (hiW cI cN h hq v14.2.1)), (true, (txW cI u x), (txW cI u x)), (false, (nwW cI qo v14.2.2.1), (nwW cI qo v14.2.2.1)), (false, (nwW cI qs sn), (nwW cI qs sn)), (false, (rtW cI t v14.2.2.2.1), (rtW cI t v14.2.2.2.1)), (false, (nwW cI qt tr), (nwW cI qt tr)), (true, (nwW cI q v14.2.2.2.2), (nwW cI q v14.2.2.2.2))] hP) rfl rfl rfl hl.1 rfl (Nat.le_of_ble_eq_true rfl) dL_law_212 ⟨Nat.le_of_ble_eq_true rfl, Nat.le_of_ble_eq_true rfl⟩ (fun H locs hP hS => ?_)
                refine lv_aload_n hx hb dL_law_215 rfl (lv_at hl 7 rfl) ?_
                refine lv_iconst (v := (1 : Int32)) hx hb dL_law_216 kc_iconst_1 ?_
                obtain ⟨v110, hv110, hf⟩ := it_b hf
                refine cQi (As := [.int (1 : Int32)]) (rest := [.int v109]) (q0 := 0) (ci := 5) S (c_X5_total l D cI cN ka (qo 0) (qs 0) (qt 0) (t 0) h hq u q _ kx v14.2.1 x v14.2.2.2.2 (1 : Int32) v110 hv110) (cwV 1 hts gL_law_X5_total rfl rfl rfl (by decide +kernel) ⟨Nat.le_of_ble_eq_true rfl, Nat.le_of_ble_eq_true rfl⟩) hK hP hS hA (P_sel [(true, (cxW ka (q 0) (qo 0) (qs 0) (qt 0) (t 0) (h 0) (u 0) (kx.1 7)), (cxW ka (q 0) (qo 0) (qs 0) (qt 0) (t 0) (h 0) (u 0) (kx.1 7))), (true, (hiW cI cN h hq v14.2.1), (hiW cI cN h hq v14.2.1)), (true, (txW cI u x), (txW cI u x)), (false, (nwW cI qo v14.2.2.1), (nwW cI qo v14.2.2.1)), (false, (nwW cI qs sn), (nwW cI qs sn)), (false, (rtW cI t v14.2.2.2.1), (rtW cI t v14.2.2.2.1)), (false, (nwW cI qt tr), (nwW cI qt tr)), (true, (nwW cI q v14.2.2.2.2), (nwW cI q v14.2.2.2.2))] hP) rfl rfl rfl hl.1 rfl (Nat.le_of_ble_eq_true rfl) dL_law_217 ⟨Nat.le_of_ble_eq_true rfl, Nat.le_of_ble_eq_true rfl⟩ (fun H locs hP hS => ?_)
                refine lv_imul hx hb dL_law_220 ?_
                refine lv_istore (lv' := [(11, .int (v109 * v110)), (9, .long v15), (8, .int v14.1), (7, .int v13), (5, .long v12), (4, .int v11), (3, .int v10), (0, .ref b), (1, .ref ka), (2, .int x2)]) hx hb dL_law_221 hl (by decide) rfl (fun ls hl => ?_)
                refine lv_iload_n hx hb dL_law_223 rfl (lv_at hl 9 rfl) ?_
                refine lv_iconst (v := (3 : Int32)) hx hb dL_law_224 kc_iconst_3 ?_
                refine lv_irem hx hb dL_law_225 (by decide) ?_
                obtain ⟨v119, hg, hf⟩ := it_b hf
                have hj : ∀ (H : Heap) (locs : List Loc) (ls : Array Slot), va_P D vwCl ((cxW ka (q 0) (qo 0) (qs 0) (qt 0) (t 0) (h 0) (u 0) (kx.1 7)) ++ ((hiW cI cN h hq v119.2.1) ++ ((txW cI u x) ++ ((nwW cI qo v119.2.2.1) ++ ((nwW cI qs sn) ++ ((rtW cI t v119.2.2.2.1) ++ ((nwW cI qt tr) ++ (nwW cI q v119.2.2.2.2)))))))) H → va_D A ((cxW ka (q 0) (qo 0) (qs 0) (qt 0) (t 0) (h 0) (u 0) (kx.1 7)) ++ ((hiW cI cN h hq v119.2.1) ++ ((txW cI u x) ++ ((nwW cI qo v119.2.2.1) ++ ((nwW cI qs sn) ++ ((rtW cI t v119.2.2.2.1) ++ ((nwW cI qt tr) ++ (nwW cI q v119.2.2.2.2)))))))) → va_S A s.heap H locs → lv_has ls 14 [(0, .ref b), (1, .ref ka), (2, .int x2)] → W p l e room_1 s m args below meth c H locs 115 2889 Q (F0 m 286 ls [.int v119.1]) := by
                  intro H locs ls hP hD hS hl
                  refine lv_istore (lv' := [(12, .int v119.1), (0, .ref b), (1, .ref ka), (2, .int x2)]) hx hb dL_law_286 hl (by decide) rfl (fun ls hl => ?_)
                  refine lv_iload hx hb dL_law_288 (lv_at hl 0 rfl) ?_
                  refine lv_if_ne (tgt := 295) hx hb dL_law_290 (by decide) (fun c120 => ?_) (fun c120 => ?_)
                  · have hf := it_f hf c120
                    refine lv_iload_n hx hb dL_law_295 rfl (lv_at hl 3 rfl) ?_
                    refine lv_bipush (v := (11 : Int32)) hx hb dL_law_296 kc_bipush_11 ?_
                    refine lv_irem hx hb dL_law_298 (by decide) ?_
                    refine lv_iconst (v := (5 : Int32)) hx hb dL_law_299 kc_iconst_5 ?_
                    obtain ⟨v124, hg, hf⟩ := it_b hf
                    have hj : ∀ (H : Heap) (locs : List Loc) (ls : Array Slot), va_P D vwCl ((cxW ka (q 0) (qo 0) (qs 0) (qt 0) (t 0) (h 0) (u 0) (v124.2.1.1 7)) ++ ((hiW cI cN h hq v119.2.1) ++ ((txW cI u x) ++ ((nwW cI qo v119.2.2.1) ++ ((nwW cI qs v124.2.2) ++ ((rtW cI t v119.2.2.2.1) ++ ((nwW cI qt tr) ++ (nwW cI q v119.2.2.2.2)))))))) H → va_D A ((cxW ka (q 0) (qo 0) (qs 0) (qt 0) (t 0) (h 0) (u 0) (v124.2.1.1 7)) ++ ((hiW cI cN h hq v119.2.1) ++ ((txW cI u x) ++ ((nwW cI qo v119.2.2.1) ++ ((nwW cI qs v124.2.2) ++ ((rtW cI t v119.2.2.2.1) ++ ((nwW cI qt tr) ++ (nwW cI q v119.2.2.2.2)))))))) → va_S A s.heap H locs → lv_has ls 14 [(0, .ref b), (1, .ref ka), (2, .int x2)] → W p l e room_1 s m args below meth c H locs 115 2889 Q (F0 m 315 ls [.int v124.1]) := by
                      intro H locs ls hP hD hS hl
                      refine lv_istore (lv' := [(13, .int v124.1), (0, .ref b), (1, .ref ka), (2, .int x2)]) hx hb dL_law_315 hl (by decide) rfl (fun ls hl => ?_)
                      refine lv_iload hx hb dL_law_317 (lv_at hl 0 rfl) ?_
                      refine lv_aload_n hx hb dL_law_319 rfl (lv_at hl 2 rfl) ?_
                      refine lv_iconst (v := (5 : Int32)) hx hb dL_law_320 kc_iconst_5 ?_
                      obtain ⟨v125, hv125, hf⟩ := it_b hf
                      refine cQi (As := [.int (5 : Int32)]) (rest := [.int v124.1]) (q0 := 0) (ci := 5) S (c_X5_total l D cI cN ka (qo 0) (qs 0) (qt 0) (t 0) h hq u q _ v124.2.1 v119.2.1 x v119.2.2.2.2 (5 : Int32) v125 hv125) (cwV 1 hts gL_law_X5_total rfl rfl rfl (by decide +kernel) ⟨Nat.le_of_ble_eq_true rfl, Nat.le_of_ble_eq_true rfl⟩) hK hP hS hA (P_sel [(true, (cxW ka (q 0) (qo 0) (qs 0) (qt 0) (t 0) (h 0) (u 0) (v124.2.1.1 7)), (cxW ka (q 0) (qo 0) (qs 0) (qt 0) (t 0) (h 0) (u 0) (v124.2.1.1 7))), (true, (hiW cI cN h hq v119.2.1), (hiW cI cN h hq v119.2.1)), (true, (txW cI u x), (txW cI u x)), (false, (nwW cI qo v119.2.2.1), (nwW cI qo v119.2.2.1)), (false, (nwW cI qs v124.2.2), (nwW cI qs v124.2.2)), (false, (rtW cI t v119.2.2.2.1), (rtW cI t v119.2.2.2.1)), (false, (nwW cI qt tr), (nwW cI qt tr)), (true, (nwW cI q v119.2.2.2.2), (nwW cI q v119.2.2.2.2))] hP) rfl rfl rfl hl.1 rfl (Nat.le_of_ble_eq_true rfl) dL_law_321 ⟨Nat.le_of_ble_eq_true rfl, Nat.le_of_ble_eq_true rfl⟩ (fun H locs hP hS => ?_)
                      refine lv_icmp_eq (tgt := 329) hx hb dL_law_324 (by decide) (fun c126 => ?_) (fun c126 => ?_)
                      · have hf := it_t hf c126
                        refine lv_iinc (v := (x2 + (1 : Int32))) (lv' := [(2, .int (x2 + (1 : Int32))), (13, .int v124.1), (0, .ref b), (1, .ref ka)]) hx hb dL_law_329 hl (k := 3) rfl rfl (by decide) rfl (fun ls hl => ?_)
                        refine lv_goto (tgt := 37) hx hb dL_law_332 (by decide) ?_
                        exact ih _ _ _ _ _ _ _ hf H locs ls hP hD hS (lv_sub hl [2, 3, 0] rfl)
                      · have hf := it_f hf c126
                        refine lv_iconst (v := (0 : Int32)) hx hb dL_law_327 kc_iconst_0 ?_
                        have e0 : (0 : Int32) = r0 := congrArg (fun z => z.1) (Option.some.inj hf)
                        have e1 : v124.2.1 = kx' := congrArg (fun z => z.2.1) (Option.some.inj hf)
                        have e2 : v119.2.1 = hi' := congrArg (fun z => z.2.2.1) (Option.some.inj hf)
                        have e3 : v119.2.2.1 = o' := congrArg (fun z => z.2.2.2.1) (Option.some.inj hf)
                        have e4 : v124.2.2 = sn' := congrArg (fun z => z.2.2.2.2.1) (Option.some.inj hf)
                        have e5 : v119.2.2.2.1 = r' := congrArg (fun z => z.2.2.2.2.2.1) (Option.some.inj hf)
                        have e6 : v119.2.2.2.2 = n' := congrArg (fun z => z.2.2.2.2.2.2) (Option.some.inj hf)
                        subst e0
                        subst e1
                        subst e2
                        subst e3
                        subst e4
                        subst e5
                        subst e6
                        exact hret H locs ls _ dL_law_328 (by first | rfl | (split <;> rfl) | (split <;> (first | rfl | (split <;> rfl))) | assumption) hP hD hS
                    have hf := hg
                    refine lv_icmp_ne (tgt := 310) hx hb dL_law_300 (by decide) (fun c121 => ?_) (fun c121 => ?_)
                    · have hf := it_f hf c121
                      refine lv_aload_n hx hb dL_law_310 rfl (lv_at hl 2 rfl) ?_
                      refine lv_iconst (v := (5 : Int32)) hx hb dL_law_311 kc_iconst_5 ?_
                      obtain ⟨v122, hv122, hf⟩ := it_b hf
                      refine cQi (As := [.int (5 : Int32)]) (rest := []) (q0 := 0) (ci := 5) S (c_X5_total l D cI cN ka (qo 0) (qs 0) (qt 0) (t 0) h hq u q _ kx v119.2.1 x v119.2.2.2.2 (5 : Int32) v122 hv122) (cwV 1 hts gL_law_X5_total rfl rfl rfl (by decide +kernel) ⟨Nat.le_of_ble_eq_true rfl, Nat.le_of_ble_eq_true rfl⟩) hK hP hS hA (P_sel [(true, (cxW ka (q 0) (qo 0) (qs 0) (qt 0) (t 0) (h 0) (u 0) (kx.1 7)), (cxW ka (q 0) (qo 0) (qs 0) (qt 0) (t 0) (h 0) (u 0) (kx.1 7))), (true, (hiW cI cN h hq v119.2.1), (hiW cI cN h hq v119.2.1)), (true, (txW cI u x), (txW cI u x)), (false, (nwW cI qo v119.2.2.1), (nwW cI qo v119.2.2.1)), (false, (nwW cI qs sn), (nwW cI qs sn)), (false, (rtW cI t v119.2.2.2.1), (rtW cI t v119.2.2.2.1)), (false, (nwW cI qt tr), (nwW cI qt tr)), (true, (nwW cI q v119.2.2.2.2), (nwW cI q v119.2.2.2.2))] hP) rfl rfl rfl hl.1 rfl (Nat.le_of_ble_eq_true rfl) dL_law_312 ⟨Nat.le_of_ble_eq_true rfl, Nat.le_of_ble_eq_true rfl⟩ (fun H locs hP hS => ?_)
                      have e0 := Option.some.inj hf
                      subst e0
                      exact hj H locs ls hP hD hS (lv_sub hl [1, 2, 3] rfl)
                    · have hf := it_t hf c121
                      refine lv_aload_n hx hb dL_law_303 rfl (lv_at hl 2 rfl) ?_
                      obtain ⟨v123, hv123, hf⟩ := it_b hf
                      refine cBi (As := []) (rest := []) (q0 := 0) (ci := 5) [(true, (cxW ka (q 0) (qo 0) (qs 0) (qt 0) (t 0) (h 0) (u 0) (kx.1 7)), (cxW ka (q 0) (qo 0) (qs 0) (qt 0) (t 0) (h 0) (u 0) (v123.2.1.1 7))), (false, (hiW cI cN h hq v119.2.1), (hiW cI cN h hq v119.2.1)), (false, (txW cI u x), (txW cI u x)), (false, (nwW cI qo v119.2.2.1), (nwW cI qo v119.2.2.1)), (true, (nwW cI qs sn), (nwW cI qs v123.2.2)), (false, (rtW cI t v119.2.2.2.1), (rtW cI t v119.2.2.2.1)), (false, (nwW cI qt tr), (nwW cI qt tr)), (true, (nwW cI q v119.2.2.2.2), (nwW cI q v119.2.2.2.2))] ⟨ad_cex, (fun h => Bool.noConfusion h), rfl, (fun _ => rfl), rfl, (fun _ => rfl), rfl, (fun _ => rfl), ad_net, (fun h => Bool.noConfusion h), rfl, (fun _ => rfl), rfl, (fun _ => rfl), ad_net, (fun h => Bool.noConfusion h), trivial⟩ S (c_X5_keep l D cI cN ka (qo 0) (qt 0) (t 0) (h 0) (u 0) qs q _ kx sn v119.2.2.2.2 v123.1 v123.2.1 v123.2.2 hv123) (cwV 0 hts gL_law_X5_keep rfl rfl rfl (by decide +kernel) ⟨Nat.le_of_ble_eq_true rfl, Nat.le_of_ble_eq_true rfl⟩) hK hP hD hS hA rfl rfl rfl hl.1 rfl (Nat.le_of_ble_eq_true rfl) dL_law_304 ⟨Nat.le_of_ble_eq_true rfl, Nat.le_of_ble_eq_true rfl⟩ (fun H locs hP hD hS => ?_)
                      refine lv_goto (tgt := 315) hx hb dL_law_307 (by decide) ?_
                      have e0 := Option.some.inj hf
                      subst e0
                      exact hj H locs ls hP hD hS (lv_sub hl [1, 2, 3] rfl)
                  · have hf := it_t hf c120
                    refine lv_iconst (v := (0 : Int32)) hx hb dL_law_293 kc_iconst_0 ?_
                    have e0 : (0 : Int32) = r0 := congrArg (fun z => z.1) (Option.some.inj hf)
                    have e1 : kx = kx' := congrArg (fun z => z.2.1) (Option.some.inj hf)
                    have e2 : v119.2.1 = hi' := congrArg (fun z => z.2.2.1) (Option.some.inj hf)
                    have e3 : v119.2.2.1 = o' := congrArg (fun z => z.2.2.2.1) (Option.some.inj hf)
                    have e4 : sn = sn' := congrArg (fun z => z.2.2.2.2.1) (Option.some.inj hf)
                    have e5 : v119.2.2.2.1 = r' := congrArg (fun z => z.2.2.2.2.2.1) (Option.some.inj hf)
                    have e6 : v119.2.2.2.2 = n' := congrArg (fun z => z.2.2.2.2.2.2) (Option.some.inj hf)
                    subst e0
                    subst e1
                    subst e2
                    subst e3
                    subst e4
                    subst e5
                    subst e6
                    exact hret H locs ls _ dL_law_294 (by first | rfl | (split <;> rfl) | (split <;> (first | rfl | (split <;> rfl))) | assumption) hP hD hS
                have hf := hg
                refine lv_if_ne (tgt := 236) hx hb dL_law_226 (by decide) (fun c111 => ?_) (fun c111 => ?_)
                · have hf := it_f hf c111
                  refine lv_iload_n hx hb dL_law_236 rfl (lv_at hl 9 rfl) ?_
                  refine lv_iconst (v := (3 : Int32)) hx hb dL_law_237 kc_iconst_3 ?_
                  refine lv_irem hx hb dL_law_238 (by decide) ?_
                  refine lv_iconst (v := (1 : Int32)) hx hb dL_law_239 kc_iconst_1 ?_
                  refine lv_icmp_ne (tgt := 273) hx hb dL_law_240 (by decide) (fun c112 => ?_) (fun c112 => ?_)
                  · have hf := it_f hf c112
                    refine lv_aload_n hx hb dL_law_273 rfl (lv_at hl 8 rfl) ?_
                    refine lv_iload_n hx hb dL_law_274 rfl (lv_at hl 6 rfl) ?_
                    refine lv_bipush (v := (9 : Int32)) hx hb dL_law_275 kc_bipush_9 ?_
                    refine lv_ishr hx hb dL_law_277 ?_
                    refine lv_iload hx hb dL_law_278 (lv_at hl 0 rfl) ?_
                    obtain ⟨v113, hv113, hf⟩ := it_b hf
                    refine cTi (As := [.int (v10 >>> ((9 : Int32) &&& 31)), .int (v109 * v110)]) (rest := [.ref ka]) S (c_L_up l D cI cN _ (v10 >>> ((9 : Int32) &&& 31)) (v109 * v110) v113 hv113) (va_cwS 2 hts gL_law_L_up rfl rfl rfl (by decide +kernel) ⟨Nat.le_of_ble_eq_true rfl, Nat.le_of_ble_eq_true rfl⟩) hK hP hS hA (P_nil hP) rfl hl.1 rfl (Nat.le_of_ble_eq_true rfl) dL_law_280 ⟨Nat.le_of_ble_eq_true rfl, Nat.le_of_ble_eq_true rfl⟩ (fun H locs hP hS => ?_)
                    obtain ⟨v114, hv114, hf⟩ := it_b hf
                    refine cTi (As := [.ref ka, .int v113]) (rest := []) S (c_L_isReached l D cI cN ka (qo 0) (qs 0) (qt 0) (t 0) h hq u q _ kx v14.2.1 x v14.2.2.2.2 v113 v114 hv114) (va_cwS 2 hts gL_law_L_isReached rfl rfl rfl (by decide +kernel) ⟨Nat.le_of_ble_eq_true rfl, Nat.le_of_ble_eq_true rfl⟩) hK hP hS hA (P_sel [(true, (cxW ka (q 0) (qo 0) (qs 0) (qt 0) (t 0) (h 0) (u 0) (kx.1 7)), (cxW ka (q 0) (qo 0) (qs 0) (qt 0) (t 0) (h 0) (u 0) (kx.1 7))), (true, (hiW cI cN h hq v14.2.1), (hiW cI cN h hq v14.2.1)), (true, (txW cI u x), (txW cI u x)), (false, (nwW cI qo v14.2.2.1), (nwW cI qo v14.2.2.1)), (false, (nwW cI qs sn), (nwW cI qs sn)), (false, (rtW cI t v14.2.2.2.1), (rtW cI t v14.2.2.2.1)), (false, (nwW cI qt tr), (nwW cI qt tr)), (true, (nwW cI q v14.2.2.2.2), (nwW cI q v14.2.2.2.2))] hP) rfl hl.1 rfl (Nat.le_of_ble_eq_true rfl) dL_law_283 ⟨Nat.le_of_ble_eq_true rfl, Nat.le_of_ble_eq_true rfl⟩ (fun H locs hP hS => ?_)
                    have e0 := Option.some.inj hf
                    subst e0
                    exact hj H locs ls hP hD hS (lv_sub hl [7, 8, 9] rfl)
                  · have hf := it_t hf c112
                    refine lv_aload_n hx hb dL_law_243 rfl (lv_at hl 8 rfl) ?_
                    refine lv_iload_n hx hb dL_law_244 rfl (lv_at hl 6 rfl) ?_
                    refine lv_bipush (v := (9 : Int32)) hx hb dL_law_245 kc_bipush_9 ?_
                    refine lv_ishr hx hb dL_law_247 ?_
                    refine lv_iload hx hb dL_law_248 (lv_at hl 0 rfl) ?_
                    refine lv_iconst (v := (1 : Int32)) hx hb dL_law_250 kc_iconst_1 ?_
                    refine lv_iadd hx hb dL_law_251 ?_
                    obtain ⟨v115, hv115, hf⟩ := it_b hf
                    refine cTi (As := [.int (v10 >>> ((9 : Int32) &&& 31)), .int ((v109 * v110) + (1 : Int32))]) (rest := [.ref ka]) S (c_L_up l D cI cN _ (v10 >>> ((9 : Int32) &&& 31)) ((v109 * v110) + (1 : Int32)) v115 hv115) (va_cwS 2 hts gL_law_L_up rfl rfl rfl (by decide +kernel) ⟨Nat.le_of_ble_eq_true rfl, Nat.le_of_ble_eq_true rfl⟩) hK hP hS hA (P_nil hP) rfl hl.1 rfl (Nat.le_of_ble_eq_true rfl) dL_law_252 ⟨Nat.le_of_ble_eq_true rfl, Nat.le_of_ble_eq_true rfl⟩ (fun H locs hP hS => ?_)
                    refine lv_iload hx hb dL_law_255 (lv_at hl 5 rfl) ?_
                    refine lv_bipush (v := (9 : Int32)) hx hb dL_law_257 kc_bipush_9 ?_
                    refine lv_ishr hx hb dL_law_259 ?_
                    refine lv_iload hx hb dL_law_260 (lv_at hl 0 rfl) ?_
                    refine lv_iconst (v := (1 : Int32)) hx hb dL_law_262 kc_iconst_1 ?_
                    refine lv_iadd hx hb dL_law_263 ?_
                    obtain ⟨v116, hv116, hf⟩ := it_b hf
                    refine cTi (As := [.int (v11 >>> ((9 : Int32) &&& 31)), .int ((v109 * v110) + (1 : Int32))]) (rest := [.int v115, .ref ka]) S (c_L_up l D cI cN _ (v11 >>> ((9 : Int32) &&& 31)) ((v109 * v110) + (1 : Int32)) v116 hv116) (va_cwS 2 hts gL_law_L_up rfl rfl rfl (by decide +kernel) ⟨Nat.le_of_ble_eq_true rfl, Nat.le_of_ble_eq_true rfl⟩) hK hP hS hA (P_nil hP) rfl hl.1 rfl (Nat.le_of_ble_eq_true rfl) dL_law_264 ⟨Nat.le_of_ble_eq_true rfl, Nat.le_of_ble_eq_true rfl⟩ (fun H locs hP hS => ?_)
                    obtain ⟨v117, hv117, hf⟩ := it_b hf
                    refine cTw (As := [.ref ka, .int v115, .int v116]) (rest := []) [(true, (cxW ka (q 0) (qo 0) (qs 0) (qt 0) (t 0) (h 0) (u 0) (kx.1 7)), (cxW ka (q 0) (qo 0) (qs 0) (qt 0) (t 0) (h 0) (u 0) (kx.1 7))), (true, (hiW cI cN h hq v14.2.1), (hiW cI cN h hq v117.2.1)), (true, (txW cI u x), (txW cI u x)), (true, (nwW cI qo v14.2.2.1), (nwW cI qo v117.2.2.1)), (false, (nwW cI qs sn), (nwW cI qs sn)), (true, (rtW cI t v14.2.2.2.1), (rtW cI t v117.2.2.2.1)), (false, (nwW cI qt tr), (nwW cI qt tr)), (true, (nwW cI q v14.2.2.2.2), (nwW cI q v117.2.2.2.2))] ⟨ad_cex, (fun h => Bool.noConfusion h), ad_his, (fun h => Bool.noConfusion h), ad_txt, (fun h => Bool.noConfusion h), ad_net, (fun h => Bool.noConfusion h), rfl, (fun _ => rfl), ad_rtr, (fun h => Bool.noConfusion h), rfl, (fun _ => rfl), ad_net, (fun h => Bool.noConfusion h), trivial⟩ S (c_L_isAhead l D cI cN ka (qs 0) (qt 0) h hq u qo t q _ kx v14.2.1 x v14.2.2.1 v14.2.2.2.1 v14.2.2.2.2 v115 v116 v117.1 v117.2.1 v117.2.2.1 v117.2.2.2.1 v117.2.2.2.2 hv117) (va_cwS 3 hts gL_law_L_isAhead rfl rfl rfl (by decide +kernel) ⟨Nat.le_of_ble_eq_true rfl, Nat.le_of_ble_eq_true rfl⟩) hK hP hD hS hA rfl hl.1 rfl (Nat.le_of_ble_eq_true rfl) dL_law_267 ⟨Nat.le_of_ble_eq_true rfl, Nat.le_of_ble_eq_true rfl⟩ (fun H locs hP hD hS => ?_)
                    refine lv_goto (tgt := 286) hx hb dL_law_270 (by decide) ?_
                    have e0 := Option.some.inj hf
                    subst e0
                    exact hj H locs ls hP hD hS (lv_sub hl [7, 8, 9] rfl)
                · have hf := it_t hf c111
                  refine lv_aload_n hx hb dL_law_229 rfl (lv_at hl 8 rfl) ?_
                  obtain ⟨v118, hv118, hf⟩ := it_b hf
                  refine cTi (As := [.ref ka]) (rest := []) S (c_L_holds l D cI cN ka (qo 0) (qs 0) (qt 0) (t 0) h hq u q _ kx v14.2.1 x v14.2.2.2.2 v118 hv118) (va_cwS 1 hts gL_law_L_holds rfl rfl rfl (by decide +kernel) ⟨Nat.le_of_ble_eq_true rfl, Nat.le_of_ble_eq_true rfl⟩) hK hP hS hA (P_sel [(true, (cxW ka (q 0) (qo 0) (qs 0) (qt 0) (t 0) (h 0) (u 0) (kx.1 7)), (cxW ka (q 0) (qo 0) (qs 0) (qt 0) (t 0) (h 0) (u 0) (kx.1 7))), (true, (hiW cI cN h hq v14.2.1), (hiW cI cN h hq v14.2.1)), (true, (txW cI u x), (txW cI u x)), (false, (nwW cI qo v14.2.2.1), (nwW cI qo v14.2.2.1)), (false, (nwW cI qs sn), (nwW cI qs sn)), (false, (rtW cI t v14.2.2.2.1), (rtW cI t v14.2.2.2.1)), (false, (nwW cI qt tr), (nwW cI qt tr)), (true, (nwW cI q v14.2.2.2.2), (nwW cI q v14.2.2.2.2))] hP) rfl hl.1 rfl (Nat.le_of_ble_eq_true rfl) dL_law_230 ⟨Nat.le_of_ble_eq_true rfl, Nat.le_of_ble_eq_true rfl⟩ (fun H locs hP hS => ?_)
                  refine lv_goto (tgt := 286) hx hb dL_law_233 (by decide) ?_
                  have e0 := Option.some.inj hf
                  subst e0
                  exact hj H locs ls hP hD hS (lv_sub hl [7, 8, 9] rfl)
              · have hf := it_t hf c108
                refine lv_aload_n hx hb dL_law_157 rfl (lv_at hl 7 rfl) ?_
                refine lv_bipush (v := (10 : Int32)) hx hb dL_law_158 kc_bipush_10 ?_
                obtain ⟨v127, hv127, hf⟩ := it_b hf
                refine cQi (As := [.int (10 : Int32)]) (rest := []) (q0 := 0) (ci := 5) S (c_X5_total l D cI cN ka (qo 0) (qs 0) (qt 0) (t 0) h hq u q _ kx v14.2.1 x v14.2.2.2.2 (10 : Int32) v127 hv127) (cwV 1 hts gL_law_X5_total rfl rfl rfl (by decide +kernel) ⟨Nat.le_of_ble_eq_true rfl, Nat.le_of_ble_eq_true rfl⟩) hK hP hS hA (P_sel [(true, (cxW ka (q 0) (qo 0) (qs 0) (qt 0) (t 0) (h 0) (u 0) (kx.1 7)), (cxW ka (q 0) (qo 0) (qs 0) (qt 0) (t 0) (h 0) (u 0) (kx.1 7))), (true, (hiW cI cN h hq v14.2.1), (hiW cI cN h hq v14.2.1)), (true, (txW cI u x), (txW cI u x)), (false, (nwW cI qo v14.2.2.1), (nwW cI qo v14.2.2.1)), (false, (nwW cI qs sn), (nwW cI qs sn)), (false, (rtW cI t v14.2.2.2.1), (rtW cI t v14.2.2.2.1)), (false, (nwW cI qt tr), (nwW cI qt tr)), (true, (nwW cI q v14.2.2.2.2), (nwW cI q v14.2.2.2.2))] hP) rfl rfl rfl hl.1 rfl (Nat.le_of_ble_eq_true rfl) dL_law_160 ⟨Nat.le_of_ble_eq_true rfl, Nat.le_of_ble_eq_true rfl⟩ (fun H locs hP hS => ?_)
                refine lv_iconst (v := (1 : Int32)) hx hb dL_law_163 kc_iconst_1 ?_
                refine lv_isub hx hb dL_law_164 ?_
                refine lv_istore (lv' := [(11, .int (v127 - (1 : Int32))), (9, .long v15), (8, .int v14.1), (7, .int v13), (5, .long v12), (4, .int v11), (3, .int v10), (0, .ref b), (1, .ref ka), (2, .int x2)]) hx hb dL_law_165 hl (by decide) rfl (fun ls hl => ?_)
                refine lv_aload_n hx hb dL_law_167 rfl (lv_at hl 8 rfl) ?_
                obtain ⟨v128, hv128, hf⟩ := it_b hf
                refine cBi (As := []) (rest := []) (q0 := 0) (ci := 5) [(true, (cxW ka (q 0) (qo 0) (qs 0) (qt 0) (t 0) (h 0) (u 0) (kx.1 7)), (cxW ka (q 0) (qo 0) (qs 0) (qt 0) (t 0) (h 0) (u 0) (kx.1 7))), (true, (hiW cI cN h hq v14.2.1), (hiW cI cN h hq v128.2.1)), (false, (txW cI u x), (txW cI u x)), (false, (nwW cI qo v14.2.2.1), (nwW cI qo v14.2.2.1)), (false, (nwW cI qs sn), (nwW cI qs sn)), (false, (rtW cI t v14.2.2.2.1), (rtW cI t v14.2.2.2.1)), (false, (nwW cI qt tr), (nwW cI qt tr)), (true, (nwW cI q v14.2.2.2.2), (nwW cI q v128.2.2))] ⟨ad_cex, (fun h => Bool.noConfusion h), ad_his, (fun h => Bool.noConfusion h), rfl, (fun _ => rfl), rfl, (fun _ => rfl), rfl, (fun _ => rfl), rfl, (fun _ => rfl), rfl, (fun _ => rfl), ad_net, (fun h => Bool.noConfusion h), trivial⟩ S (c_X5_undo l D cI cN ka (qo 0) (qs 0) (qt 0) (t 0) (u 0) h hq q _ kx v14.2.1 v14.2.2.2.2 v128.1 v128.2.1 v128.2.2 hv128) (cwV 0 hts gL_law_X5_undo rfl rfl rfl (by decide +kernel) ⟨Nat.le_of_ble_eq_true rfl, Nat.le_of_ble_eq_true rfl⟩) hK hP hD hS hA rfl rfl rfl hl.1 rfl (Nat.le_of_ble_eq_true rfl) dL_law_168 ⟨Nat.le_of_ble_eq_true rfl, Nat.le_of_ble_eq_true rfl⟩ (fun H locs hP hD hS => ?_)
                refine lv_iload hx hb dL_law_171 (lv_at hl 0 rfl) ?_
                refine lv_icmp_ne (tgt := 208) hx hb dL_law_173 (by decide) (fun c129 => ?_) (fun c129 => ?_)
                · have hf := it_f hf c129
                  refine lv_iconst (v := (0 : Int32)) hx hb dL_law_208 kc_iconst_0 ?_
                  have e0 : (0 : Int32) = r0 := congrArg (fun z => z.1) (Option.some.inj hf)
                  have e1 : kx = kx' := congrArg (fun z => z.2.1) (Option.some.inj hf)
                  have e2 : v128.2.1 = hi' := congrArg (fun z => z.2.2.1) (Option.some.inj hf)
                  have e3 : v14.2.2.1 = o' := congrArg (fun z => z.2.2.2.1) (Option.some.inj hf)
                  have e4 : sn = sn' := congrArg (fun z => z.2.2.2.2.1) (Option.some.inj hf)
                  have e5 : v14.2.2.2.1 = r' := congrArg (fun z => z.2.2.2.2.2.1) (Option.some.inj hf)
                  have e6 : v128.2.2 = n' := congrArg (fun z => z.2.2.2.2.2.2) (Option.some.inj hf)
                  subst e0
                  subst e1
                  subst e2
                  subst e3
                  subst e4
                  subst e5
                  subst e6
                  exact hret H locs ls _ dL_law_209 (by first | rfl | (split <;> rfl) | (split <;> (first | rfl | (split <;> rfl))) | assumption) hP hD hS
                · have hf := it_t hf c129
                  refine lv_aload_n hx hb dL_law_176 rfl (lv_at hl 8 rfl) ?_
                  obtain ⟨v130, hv130, hf⟩ := it_b hf
                  refine cTl (As := [.ref ka]) (rest := []) S (c_L_told l D cI cN ka (qo 0) (qs 0) (qt 0) (t 0) h hq u q _ kx v128.2.1 x v128.2.2 v130 hv130) (va_cwS 1 hts gL_law_L_told rfl rfl rfl (by decide +kernel) ⟨Nat.le_of_ble_eq_true rfl, Nat.le_of_ble_eq_true rfl⟩) hK hP hS hA (P_sel [(true, (cxW ka (q 0) (qo 0) (qs 0) (qt 0) (t 0) (h 0) (u 0) (kx.1 7)), (cxW ka (q 0) (qo 0) (qs 0) (qt 0) (t 0) (h 0) (u 0) (kx.1 7))), (true, (hiW cI cN h hq v128.2.1), (hiW cI cN h hq v128.2.1)), (true, (txW cI u x), (txW cI u x)), (false, (nwW cI qo v14.2.2.1), (nwW cI qo v14.2.2.1)), (false, (nwW cI qs sn), (nwW cI qs sn)), (false, (rtW cI t v14.2.2.2.1), (rtW cI t v14.2.2.2.1)), (false, (nwW cI qt tr), (nwW cI qt tr)), (true, (nwW cI q v128.2.2), (nwW cI q v128.2.2))] hP) rfl hl.1 rfl (Nat.le_of_ble_eq_true rfl) dL_law_177 ⟨Nat.le_of_ble_eq_true rfl, Nat.le_of_ble_eq_true rfl⟩ (fun H locs hP hS => ?_)
                  refine lv_lload hx hb dL_law_180 (lv_at hl 4 rfl) ?_
                  refine W.lcmp hx hb dL_law_182 ?_
                  refine lv_if_ne (tgt := 208) hx hb dL_law_183 (by decide) (fun c131 => ?_) (fun c131 => ?_)
                  · have hf := it_f hf c131
                    refine lv_iconst (v := (0 : Int32)) hx hb dL_law_208 kc_iconst_0 ?_
                    have e0 : (0 : Int32) = r0 := congrArg (fun z => z.1) (Option.some.inj hf)
                    have e1 : kx = kx' := congrArg (fun z => z.2.1) (Option.some.inj hf)
                    have e2 : v128.2.1 = hi' := congrArg (fun z => z.2.2.1) (Option.some.inj hf)
                    have e3 : v14.2.2.1 = o' := congrArg (fun z => z.2.2.2.1) (Option.some.inj hf)
                    have e4 : sn = sn' := congrArg (fun z => z.2.2.2.2.1) (Option.some.inj hf)
                    have e5 : v14.2.2.2.1 = r' := congrArg (fun z => z.2.2.2.2.2.1) (Option.some.inj hf)
                    have e6 : v128.2.2 = n' := congrArg (fun z => z.2.2.2.2.2.2) (Option.some.inj hf)
                    subst e0
                    subst e1
                    subst e2
                    subst e3
                    subst e4
                    subst e5
                    subst e6
                    exact hret H locs ls _ dL_law_209 (by first | rfl | (split <;> rfl) | (split <;> (first | rfl | (split <;> rfl))) | assumption) hP hD hS
                  · have hf := it_t hf c131
                    refine lv_aload_n hx hb dL_law_186 rfl (lv_at hl 8 rfl) ?_
                    refine lv_iload_n hx hb dL_law_187 rfl (lv_at hl 6 rfl) ?_
                    refine lv_iload hx hb dL_law_188 (lv_at hl 5 rfl) ?_
                    obtain ⟨v132, hv132, hf⟩ := it_b hf
                    refine cTw (As := [.ref ka, .int v10, .int v11]) (rest := []) [(true, (cxW ka (q 0) (qo 0) (qs 0) (qt 0) (t 0) (h 0) (u 0) (kx.1 7)), (cxW ka (q 0) (qo 0) (qs 0) (qt 0) (t 0) (h 0) (u 0) (kx.1 7))), (true, (hiW cI cN h hq v128.2.1), (hiW cI cN h hq v132.2.1)), (true, (txW cI u x), (txW cI u x)), (true, (nwW cI qo v14.2.2.1), (nwW cI qo v132.2.2.1)), (true, (nwW cI qs sn), (nwW cI qs sn)), (true, (rtW cI t v14.2.2.2.1), (rtW cI t v132.2.2.2.1)), (false, (nwW cI qt tr), (nwW cI qt tr)), (true, (nwW cI q v128.2.2), (nwW cI q v132.2.2.2.2))] ⟨ad_cex, (fun h => Bool.noConfusion h), ad_his, (fun h => Bool.noConfusion h), ad_txt, (fun h => Bool.noConfusion h), ad_net, (fun h => Bool.noConfusion h), ad_net, (fun h => Bool.noConfusion h), ad_rtr, (fun h => Bool.noConfusion h), rfl, (fun _ => rfl), ad_net, (fun h => Bool.noConfusion h), trivial⟩ S (c_L_act l D cI cN ka (qt 0) h hq u qo qs t q _ kx v128.2.1 x v14.2.2.1 sn v14.2.2.2.1 v128.2.2 v10 v11 v132.1 v132.2.1 v132.2.2.1 v132.2.2.2.1 v132.2.2.2.2 hv132) (va_cwS 3 hts gL_law_L_act rfl rfl rfl (by decide +kernel) ⟨Nat.le_of_ble_eq_true rfl, Nat.le_of_ble_eq_true rfl⟩) hK hP hD hS hA rfl hl.1 rfl (Nat.le_of_ble_eq_true rfl) dL_law_190 ⟨Nat.le_of_ble_eq_true rfl, Nat.le_of_ble_eq_true rfl⟩ (fun H locs hP hD hS => ?_)
                    refine lv_iload hx hb dL_law_193 (lv_at hl 2 rfl) ?_
                    refine lv_icmp_ne (tgt := 208) hx hb dL_law_195 (by decide) (fun c133 => ?_) (fun c133 => ?_)
                    · have hf := it_f hf c133
                      refine lv_iconst (v := (0 : Int32)) hx hb dL_law_208 kc_iconst_0 ?_
                      have e0 : (0 : Int32) = r0 := congrArg (fun z => z.1) (Option.some.inj hf)
                      have e1 : kx = kx' := congrArg (fun z => z.2.1) (Option.some.inj hf)
                      have e2 : v132.2.1 = hi' := congrArg (fun z => z.2.2.1) (Option.some.inj hf)
                      have e3 : v132.2.2.1 = o' := congrArg (fun z => z.2.2.2.1) (Option.some.inj hf)
                      have e4 : sn = sn' := congrArg (fun z => z.2.2.2.2.1) (Option.some.inj hf)
                      have e5 : v132.2.2.2.1 = r' := congrArg (fun z => z.2.2.2.2.2.1) (Option.some.inj hf)
                      have e6 : v132.2.2.2.2 = n' := congrArg (fun z => z.2.2.2.2.2.2) (Option.some.inj hf)
                      subst e0
                      subst e1
                      subst e2
                      subst e3
                      subst e4
                      subst e5
                      subst e6
                      exact hret H locs ls _ dL_law_209 (by first | rfl | (split <;> rfl) | (split <;> (first | rfl | (split <;> rfl))) | assumption) hP hD hS
                    · have hf := it_t hf c133
                      refine lv_aload_n hx hb dL_law_198 rfl (lv_at hl 8 rfl) ?_
                      obtain ⟨v134, hv134, hf⟩ := it_b hf
                      refine cTl (As := [.ref ka]) (rest := []) S (c_L_told l D cI cN ka (qo 0) (qs 0) (qt 0) (t 0) h hq u q _ kx v132.2.1 x v132.2.2.2.2 v134 hv134) (va_cwS 1 hts gL_law_L_told rfl rfl rfl (by decide +kernel) ⟨Nat.le_of_ble_eq_true rfl, Nat.le_of_ble_eq_true rfl⟩) hK hP hS hA (P_sel [(true, (cxW ka (q 0) (qo 0) (qs 0) (qt 0) (t 0) (h 0) (u 0) (kx.1 7)), (cxW ka (q 0) (qo 0) (qs 0) (qt 0) (t 0) (h 0) (u 0) (kx.1 7))), (true, (hiW cI cN h hq v132.2.1), (hiW cI cN h hq v132.2.1)), (true, (txW cI u x), (txW cI u x)), (false, (nwW cI qo v132.2.2.1), (nwW cI qo v132.2.2.1)), (false, (nwW cI qs sn), (nwW cI qs sn)), (false, (rtW cI t v132.2.2.2.1), (rtW cI t v132.2.2.2.1)), (false, (nwW cI qt tr), (nwW cI qt tr)), (true, (nwW cI q v132.2.2.2.2), (nwW cI q v132.2.2.2.2))] hP) rfl hl.1 rfl (Nat.le_of_ble_eq_true rfl) dL_law_199 ⟨Nat.le_of_ble_eq_true rfl, Nat.le_of_ble_eq_true rfl⟩ (fun H locs hP hS => ?_)
                      refine lv_lload hx hb dL_law_202 (lv_at hl 1 rfl) ?_
                      refine W.lcmp hx hb dL_law_204 ?_
                      refine lv_if_eq (tgt := 210) hx hb dL_law_205 (by decide) (fun c135 => ?_) (fun c135 => ?_)
                      · have hf := it_t hf c135
                        refine lv_aload_n hx hb dL_law_210 rfl (lv_at hl 8 rfl) ?_
                        refine lv_iconst (v := (0 : Int32)) hx hb dL_law_211 kc_iconst_0 ?_
                        obtain ⟨v136, hv136, hf⟩ := it_b hf
                        refine cQi (As := [.int (0 : Int32)]) (rest := []) (q0 := 0) (ci := 5) S (c_X5_total l D cI cN ka (qo 0) (qs 0) (qt 0) (t 0) h hq u q _ kx v132.2.1 x v132.2.2.2.2 (0 : Int32) v136 hv136) (cwV 1 hts gL_law_X5_total rfl rfl rfl (by decide +kernel) ⟨Nat.le_of_ble_eq_true rfl, Nat.le_of_ble_eq_true rfl⟩) hK hP hS hA (P_sel [(true, (cxW ka (q 0) (qo 0) (qs 0) (qt 0) (t 0) (h 0) (u 0) (kx.1 7)), (cxW ka (q 0) (qo 0) (qs 0) (qt 0) (t 0) (h 0) (u 0) (kx.1 7))), (true, (hiW cI cN h hq v132.2.1), (hiW cI cN h hq v132.2.1)), (true, (txW cI u x), (txW cI u x)), (false, (nwW cI qo v132.2.2.1), (nwW cI qo v132.2.2.1)), (false, (nwW cI qs sn), (nwW cI qs sn)), (false, (rtW cI t v132.2.2.2.1), (rtW cI t v132.2.2.2.1)), (false, (nwW cI qt tr), (nwW cI qt tr)), (true, (nwW cI q v132.2.2.2.2), (nwW cI q v132.2.2.2.2))] hP) rfl rfl rfl hl.1 rfl (Nat.le_of_ble_eq_true rfl) dL_law_212 ⟨Nat.le_of_ble_eq_true rfl, Nat.le_of_ble_eq_true rfl⟩ (fun H locs hP hS => ?_)
                        refine lv_aload_n hx hb dL_law_215 rfl (lv_at hl 8 rfl) ?_
                        refine lv_iconst (v := (1 : Int32)) hx hb dL_law_216 kc_iconst_1 ?_
                        obtain ⟨v137, hv137, hf⟩ := it_b hf
                        refine cQi (As := [.int (1 : Int32)]) (rest := [.int v136]) (q0 := 0) (ci := 5) S (c_X5_total l D cI cN ka (qo 0) (qs 0) (qt 0) (t 0) h hq u q _ kx v132.2.1 x v132.2.2.2.2 (1 : Int32) v137 hv137) (cwV 1 hts gL_law_X5_total rfl rfl rfl (by decide +kernel) ⟨Nat.le_of_ble_eq_true rfl, Nat.le_of_ble_eq_true rfl⟩) hK hP hS hA (P_sel [(true, (cxW ka (q 0) (qo 0) (qs 0) (qt 0) (t 0) (h 0) (u 0) (kx.1 7)), (cxW ka (q 0) (qo 0) (qs 0) (qt 0) (t 0) (h 0) (u 0) (kx.1 7))), (true, (hiW cI cN h hq v132.2.1), (hiW cI cN h hq v132.2.1)), (true, (txW cI u x), (txW cI u x)), (false, (nwW cI qo v132.2.2.1), (nwW cI qo v132.2.2.1)), (false, (nwW cI qs sn), (nwW cI qs sn)), (false, (rtW cI t v132.2.2.2.1), (rtW cI t v132.2.2.2.1)), (false, (nwW cI qt tr), (nwW cI qt tr)), (true, (nwW cI q v132.2.2.2.2), (nwW cI q v132.2.2.2.2))] hP) rfl rfl rfl hl.1 rfl (Nat.le_of_ble_eq_true rfl) dL_law_217 ⟨Nat.le_of_ble_eq_true rfl, Nat.le_of_ble_eq_true rfl⟩ (fun H locs hP hS => ?_)
                        refine lv_imul hx hb dL_law_220 ?_
                        refine lv_istore (lv' := [(11, .int (v136 * v137)), (9, .long v15), (8, .int v14.1), (7, .int v13), (5, .long v12), (4, .int v11), (3, .int v10), (0, .ref b), (1, .ref ka), (2, .int x2)]) hx hb dL_law_221 hl (by decide) rfl (fun ls hl => ?_)
                        refine lv_iload_n hx hb dL_law_223 rfl (lv_at hl 9 rfl) ?_
                        refine lv_iconst (v := (3 : Int32)) hx hb dL_law_224 kc_iconst_3 ?_
                        refine lv_irem hx hb dL_law_225 (by decide) ?_
                        obtain ⟨v146, hg, hf⟩ := it_b hf
                        have hj : ∀ (H : Heap) (locs : List Loc) (ls : Array Slot), va_P D vwCl ((cxW ka (q 0) (qo 0) (qs 0) (qt 0) (t 0) (h 0) (u 0) (kx.1 7)) ++ ((hiW cI cN h hq v146.2.1) ++ ((txW cI u x) ++ ((nwW cI qo v146.2.2.1) ++ ((nwW cI qs sn) ++ ((rtW cI t v146.2.2.2.1) ++ ((nwW cI qt tr) ++ (nwW cI q v146.2.2.2.2)))))))) H → va_D A ((cxW ka (q 0) (qo 0) (qs 0) (qt 0) (t 0) (h 0) (u 0) (kx.1 7)) ++ ((hiW cI cN h hq v146.2.1) ++ ((txW cI u x) ++ ((nwW cI qo v146.2.2.1) ++ ((nwW cI qs sn) ++ ((rtW cI t v146.2.2.2.1) ++ ((nwW cI qt tr) ++ (nwW cI q v146.2.2.2.2)))))))) → va_S A s.heap H locs → lv_has ls 14 [(0, .ref b), (1, .ref ka), (2, .int x2)] → W p l e room_1 s m args below meth c H locs 115 2889 Q (F0 m 286 ls [.int v146.1]) := by
                          intro H locs ls hP hD hS hl
                          refine lv_istore (lv' := [(12, .int v146.1), (0, .ref b), (1, .ref ka), (2, .int x2)]) hx hb dL_law_286 hl (by decide) rfl (fun ls hl => ?_)
                          refine lv_iload hx hb dL_law_288 (lv_at hl 0 rfl) ?_
                          refine lv_if_ne (tgt := 295) hx hb dL_law_290 (by decide) (fun c147 => ?_) (fun c147 => ?_)
                          · have hf := it_f hf c147
                            refine lv_iload_n hx hb dL_law_295 rfl (lv_at hl 3 rfl) ?_
                            refine lv_bipush (v := (11 : Int32)) hx hb dL_law_296 kc_bipush_11 ?_
                            refine lv_irem hx hb dL_law_298 (by decide) ?_
                            refine lv_iconst (v := (5 : Int32)) hx hb dL_law_299 kc_iconst_5 ?_
                            obtain ⟨v151, hg, hf⟩ := it_b hf
                            have hj : ∀ (H : Heap) (locs : List Loc) (ls : Array Slot), va_P D vwCl ((cxW ka (q 0) (qo 0) (qs 0) (qt 0) (t 0) (h 0) (u 0) (v151.2.1.1 7)) ++ ((hiW cI cN h hq v146.2.1) ++ ((txW cI u x) ++ ((nwW cI qo v146.2.2.1) ++ ((nwW cI qs v151.2.2) ++ ((rtW cI t v146.2.2.2.1) ++ ((nwW cI qt tr) ++ (nwW cI q v146.2.2.2.2)))))))) H → va_D A ((cxW ka (q 0) (qo 0) (qs 0) (qt 0) (t 0) (h 0) (u 0) (v151.2.1.1 7)) ++ ((hiW cI cN h hq v146.2.1) ++ ((txW cI u x) ++ ((nwW cI qo v146.2.2.1) ++ ((nwW cI qs v151.2.2) ++ ((rtW cI t v146.2.2.2.1) ++ ((nwW cI qt tr) ++ (nwW cI q v146.2.2.2.2)))))))) → va_S A s.heap H locs → lv_has ls 14 [(0, .ref b), (1, .ref ka), (2, .int x2)] → W p l e room_1 s m args below meth c H locs 115 2889 Q (F0 m 315 ls [.int v151.1]) := by
                              intro H locs ls hP hD hS hl
                              refine lv_istore (lv' := [(13, .int v151.1), (0, .ref b), (1, .ref ka), (2, .int x2)]) hx hb dL_law_315 hl (by decide) rfl (fun ls hl => ?_)
                              refine lv_iload hx hb dL_law_317 (lv_at hl 0 rfl) ?_
                              refine lv_aload_n hx hb dL_law_319 rfl (lv_at hl 2 rfl) ?_
                              refine lv_iconst (v := (5 : Int32)) hx hb dL_law_320 kc_iconst_5 ?_
                              obtain ⟨v152, hv152, hf⟩ := it_b hf
                              refine cQi (As := [.int (5 : Int32)]) (rest := [.int v151.1]) (q0 := 0) (ci := 5) S (c_X5_total l D cI cN ka (qo 0) (qs 0) (qt 0) (t 0) h hq u q _ v151.2.1 v146.2.1 x v146.2.2.2.2 (5 : Int32) v152 hv152) (cwV 1 hts gL_law_X5_total rfl rfl rfl (by decide +kernel) ⟨Nat.le_of_ble_eq_true rfl, Nat.le_of_ble_eq_true rfl⟩) hK hP hS hA (P_sel [(true, (cxW ka (q 0) (qo 0) (qs 0) (qt 0) (t 0) (h 0) (u 0) (v151.2.1.1 7)), (cxW ka (q 0) (qo 0) (qs 0) (qt 0) (t 0) (h 0) (u 0) (v151.2.1.1 7))), (true, (hiW cI cN h hq v146.2.1), (hiW cI cN h hq v146.2.1)), (true, (txW cI u x), (txW cI u x)), (false, (nwW cI qo v146.2.2.1), (nwW cI qo v146.2.2.1)), (false, (nwW cI qs v151.2.2), (nwW cI qs v151.2.2)), (false, (rtW cI t v146.2.2.2.1), (rtW cI t v146.2.2.2.1)), (false, (nwW cI qt tr), (nwW cI qt tr)), (true, (nwW cI q v146.2.2.2.2), (nwW cI q v146.2.2.2.2))] hP) rfl rfl rfl hl.1 rfl (Nat.le_of_ble_eq_true rfl) dL_law_321 ⟨Nat.le_of_ble_eq_true rfl, Nat.le_of_ble_eq_true rfl⟩ (fun H locs hP hS => ?_)
                              refine lv_icmp_eq (tgt := 329) hx hb dL_law_324 (by decide) (fun c153 => ?_) (fun c153 => ?_)
                              · have hf := it_t hf c153
                                refine lv_iinc (v := (x2 + (1 : Int32))) (lv' := [(2, .int (x2 + (1 : Int32))), (13, .int v151.1), (0, .ref b), (1, .ref ka)]) hx hb dL_law_329 hl (k := 3) rfl rfl (by decide) rfl (fun ls hl => ?_)
                                refine lv_goto (tgt := 37) hx hb dL_law_332 (by decide) ?_
                                exact ih _ _ _ _ _ _ _ hf H locs ls hP hD hS (lv_sub hl [2, 3, 0] rfl)
                              · have hf := it_f hf c153
                                refine lv_iconst (v := (0 : Int32)) hx hb dL_law_327 kc_iconst_0 ?_
                                have e0 : (0 : Int32) = r0 := congrArg (fun z => z.1) (Option.some.inj hf)
                                have e1 : v151.2.1 = kx' := congrArg (fun z => z.2.1) (Option.some.inj hf)
                                have e2 : v146.2.1 = hi' := congrArg (fun z => z.2.2.1) (Option.some.inj hf)
                                have e3 : v146.2.2.1 = o' := congrArg (fun z => z.2.2.2.1) (Option.some.inj hf)
                                have e4 : v151.2.2 = sn' := congrArg (fun z => z.2.2.2.2.1) (Option.some.inj hf)
                                have e5 : v146.2.2.2.1 = r' := congrArg (fun z => z.2.2.2.2.2.1) (Option.some.inj hf)
                                have e6 : v146.2.2.2.2 = n' := congrArg (fun z => z.2.2.2.2.2.2) (Option.some.inj hf)
                                subst e0
                                subst e1
                                subst e2
                                subst e3
                                subst e4
                                subst e5
                                subst e6
                                exact hret H locs ls _ dL_law_328 (by first | rfl | (split <;> rfl) | (split <;> (first | rfl | (split <;> rfl))) | assumption) hP hD hS
                            have hf := hg
                            refine lv_icmp_ne (tgt := 310) hx hb dL_law_300 (by decide) (fun c148 => ?_) (fun c148 => ?_)
                            · have hf := it_f hf c148
                              refine lv_aload_n hx hb dL_law_310 rfl (lv_at hl 2 rfl) ?_
                              refine lv_iconst (v := (5 : Int32)) hx hb dL_law_311 kc_iconst_5 ?_
                              obtain ⟨v149, hv149, hf⟩ := it_b hf
                              refine cQi (As := [.int (5 : Int32)]) (rest := []) (q0 := 0) (ci := 5) S (c_X5_total l D cI cN ka (qo 0) (qs 0) (qt 0) (t 0) h hq u q _ kx v146.2.1 x v146.2.2.2.2 (5 : Int32) v149 hv149) (cwV 1 hts gL_law_X5_total rfl rfl rfl (by decide +kernel) ⟨Nat.le_of_ble_eq_true rfl, Nat.le_of_ble_eq_true rfl⟩) hK hP hS hA (P_sel [(true, (cxW ka (q 0) (qo 0) (qs 0) (qt 0) (t 0) (h 0) (u 0) (kx.1 7)), (cxW ka (q 0) (qo 0) (qs 0) (qt 0) (t 0) (h 0) (u 0) (kx.1 7))), (true, (hiW cI cN h hq v146.2.1), (hiW cI cN h hq v146.2.1)), (true, (txW cI u x), (txW cI u x)), (false, (nwW cI qo v146.2.2.1), (nwW cI qo v146.2.2.1)), (false, (nwW cI qs sn), (nwW cI qs sn)), (false, (rtW cI t v146.2.2.2.1), (rtW cI t v146.2.2.2.1)), (false, (nwW cI qt tr), (nwW cI qt tr)), (true, (nwW cI q v146.2.2.2.2), (nwW cI q v146.2.2.2.2))] hP) rfl rfl rfl hl.1 rfl (Nat.le_of_ble_eq_true rfl) dL_law_312 ⟨Nat.le_of_ble_eq_true rfl, Nat.le_of_ble_eq_true rfl⟩ (fun H locs hP hS => ?_)
                              have e0 := Option.some.inj hf
                              subst e0
                              exact hj H locs ls hP hD hS (lv_sub hl [1, 2, 3] rfl)
                            · have hf := it_t hf c148
                              refine lv_aload_n hx hb dL_law_303 rfl (lv_at hl 2 rfl) ?_
                              obtain ⟨v150, hv150, hf⟩ := it_b hf
                              refine cBi (As := []) (rest := []) (q0 := 0) (ci := 5) [(true, (cxW ka (q 0) (qo 0) (qs 0) (qt 0) (t 0) (h 0) (u 0) (kx.1 7)), (cxW ka (q 0) (qo 0) (qs 0) (qt 0) (t 0) (h 0) (u 0) (v150.2.1.1 7))), (false, (hiW cI cN h hq v146.2.1), (hiW cI cN h hq v146.2.1)), (false, (txW cI u x), (txW cI u x)), (false, (nwW cI qo v146.2.2.1), (nwW cI qo v146.2.2.1)), (true, (nwW cI qs sn), (nwW cI qs v150.2.2)), (false, (rtW cI t v146.2.2.2.1), (rtW cI t v146.2.2.2.1)), (false, (nwW cI qt tr), (nwW cI qt tr)), (true, (nwW cI q v146.2.2.2.2), (nwW cI q v146.2.2.2.2))] ⟨ad_cex, (fun h => Bool.noConfusion h), rfl, (fun _ => rfl), rfl, (fun _ => rfl), rfl, (fun _ => rfl), ad_net, (fun h => Bool.noConfusion h), rfl, (fun _ => rfl), rfl, (fun _ => rfl), ad_net, (fun h => Bool.noConfusion h), trivial⟩ S (c_X5_keep l D cI cN ka (qo 0) (qt 0) (t 0) (h 0) (u 0) qs q _ kx sn v146.2.2.2.2 v150.1 v150.2.1 v150.2.2 hv150) (cwV 0 hts gL_law_X5_keep rfl rfl rfl (by decide +kernel) ⟨Nat.le_of_ble_eq_true rfl, Nat.le_of_ble_eq_true rfl⟩) hK hP hD hS hA rfl rfl rfl hl.1 rfl (Nat.le_of_ble_eq_true rfl) dL_law_304 ⟨Nat.le_of_ble_eq_true rfl, Nat.le_of_ble_eq_true rfl⟩ (fun H locs hP hD hS => ?_)
                              refine lv_goto (tgt := 315) hx hb dL_law_307 (by decide) ?_
                              have e0 := Option.some.inj hf
                              subst e0
                              exact hj H locs ls hP hD hS (lv_sub hl [1, 2, 3] rfl)
                          · have hf := it_t hf c147
                            refine lv_iconst (v := (0 : Int32)) hx hb dL_law_293 kc_iconst_0 ?_
                            have e0 : (0 : Int32) = r0 := congrArg (fun z => z.1) (Option.some.inj hf)
                            have e1 : kx = kx' := congrArg (fun z => z.2.1) (Option.some.inj hf)
                            have e2 : v146.2.1 = hi' := congrArg (fun z => z.2.2.1) (Option.some.inj hf)
                            have e3 : v146.2.2.1 = o' := congrArg (fun z => z.2.2.2.1) (Option.some.inj hf)
                            have e4 : sn = sn' := congrArg (fun z => z.2.2.2.2.1) (Option.some.inj hf)
                            have e5 : v146.2.2.2.1 = r' := congrArg (fun z => z.2.2.2.2.2.1) (Option.some.inj hf)
                            have e6 : v146.2.2.2.2 = n' := congrArg (fun z => z.2.2.2.2.2.2) (Option.some.inj hf)
                            subst e0
                            subst e1
                            subst e2
                            subst e3
                            subst e4
                            subst e5
                            subst e6
                            exact hret H locs ls _ dL_law_294 (by first | rfl | (split <;> rfl) | (split <;> (first | rfl | (split <;> rfl))) | assumption) hP hD hS
                        have hf := hg
                        refine lv_if_ne (tgt := 236) hx hb dL_law_226 (by decide) (fun c138 => ?_) (fun c138 => ?_)
                        · have hf := it_f hf c138
                          refine lv_iload_n hx hb dL_law_236 rfl (lv_at hl 9 rfl) ?_
                          refine lv_iconst (v := (3 : Int32)) hx hb dL_law_237 kc_iconst_3 ?_
                          refine lv_irem hx hb dL_law_238 (by decide) ?_
                          refine lv_iconst (v := (1 : Int32)) hx hb dL_law_239 kc_iconst_1 ?_
                          refine lv_icmp_ne (tgt := 273) hx hb dL_law_240 (by decide) (fun c139 => ?_) (fun c139 => ?_)
                          · have hf := it_f hf c139
                            refine lv_aload_n hx hb dL_law_273 rfl (lv_at hl 8 rfl) ?_
                            refine lv_iload_n hx hb dL_law_274 rfl (lv_at hl 6 rfl) ?_
                            refine lv_bipush (v := (9 : Int32)) hx hb dL_law_275 kc_bipush_9 ?_
                            refine lv_ishr hx hb dL_law_277 ?_
                            refine lv_iload hx hb dL_law_278 (lv_at hl 0 rfl) ?_
                            obtain ⟨v140, hv140, hf⟩ := it_b hf
                            refine cTi (As := [.int (v10 >>> ((9 : Int32) &&& 31)), .int (v136 * v137)]) (rest := [.ref ka]) S (c_L_up l D cI cN _ (v10 >>> ((9 : Int32) &&& 31)) (v136 * v137) v140 hv140) (va_cwS 2 hts gL_law_L_up rfl rfl rfl (by decide +kernel) ⟨Nat.le_of_ble_eq_true rfl, Nat.le_of_ble_eq_true rfl⟩) hK hP hS hA (P_nil hP) rfl hl.1 rfl (Nat.le_of_ble_eq_true rfl) dL_law_280 ⟨Nat.le_of_ble_eq_true rfl, Nat.le_of_ble_eq_true rfl⟩ (fun H locs hP hS => ?_)
                            obtain ⟨v141, hv141, hf⟩ := it_b hf
                            refine cTi (As := [.ref ka, .int v140]) (rest := []) S (c_L_isReached l D cI cN ka (qo 0) (qs 0) (qt 0) (t 0) h hq u q _ kx v132.2.1 x v132.2.2.2.2 v140 v141 hv141) (va_cwS 2 hts gL_law_L_isReached rfl rfl rfl (by decide +kernel) ⟨Nat.le_of_ble_eq_true rfl, Nat.le_of_ble_eq_true rfl⟩) hK hP hS hA (P_sel [(true, (cxW ka (q 0) (qo 0) (qs 0) (qt 0) (t 0) (h 0) (u 0) (kx.1 7)), (cxW ka (q 0) (qo 0) (qs 0) (qt 0) (t 0) (h 0) (u 0) (kx.1 7))), (true, (hiW cI cN h hq v132.2.1), (hiW cI cN h hq v132.2.1)), (true, (txW cI u x), (txW cI u x)), (false, (nwW cI qo v132.2.2.1), (nwW cI qo v132.2.2.1)), (false, (nwW cI qs sn), (nwW cI qs sn)), (false, (rtW cI t v132.2.2.2.1), (rtW cI t v132.2.2.2.1)), (false, (nwW cI qt tr), (nwW cI qt tr)), (true, (nwW cI q v132.2.2.2.2), (nwW cI q v132.2.2.2.2))] hP) rfl hl.1 rfl (Nat.le_of_ble_eq_true rfl) dL_law_283 ⟨Nat.le_of_ble_eq_true rfl, Nat.le_of_ble_eq_true rfl⟩ (fun H locs hP hS => ?_)
                            have e0 := Option.some.inj hf
                            subst e0
                            exact hj H locs ls hP hD hS (lv_sub hl [7, 8, 9] rfl)
                          · have hf := it_t hf c139
                            refine lv_aload_n hx hb dL_law_243 rfl (lv_at hl 8 rfl) ?_
                            refine lv_iload_n hx hb dL_law_244 rfl (lv_at hl 6 rfl) ?_
                            refine lv_bipush (v := (9 : Int32)) hx hb dL_law_245 kc_bipush_9 ?_
                            refine lv_ishr hx hb dL_law_247 ?_
                            refine lv_iload hx hb dL_law_248 (lv_at hl 0 rfl) ?_
                            refine lv_iconst (v := (1 : Int32)) hx hb dL_law_250 kc_iconst_1 ?_
                            refine lv_iadd hx hb dL_law_251 ?_
                            obtain ⟨v142, hv142, hf⟩ := it_b hf
                            refine cTi (As := [.int (v10 >>> ((9 : Int32) &&& 31)), .int ((v136 * v137) + (1 : Int32))]) (rest := [.ref ka]) S (c_L_up l D cI cN _ (v10 >>> ((9 : Int32) &&& 31)) ((v136 * v137) + (1 : Int32)) v142 hv142) (va_cwS 2 hts gL_law_L_up rfl rfl rfl (by decide +kernel) ⟨Nat.le_of_ble_eq_true rfl, Nat.le_of_ble_eq_true rfl⟩) hK hP hS hA (P_nil hP) rfl hl.1 rfl (Nat.le_of_ble_eq_true rfl) dL_law_252 ⟨Nat.le_of_ble_eq_true rfl, Nat.le_of_ble_eq_true rfl⟩ (fun H locs hP hS => ?_)
                            refine lv_iload hx hb dL_law_255 (lv_at hl 5 rfl) ?_
                            refine lv_bipush (v := (9 : Int32)) hx hb dL_law_257 kc_bipush_9 ?_
                            refine lv_ishr hx hb dL_law_259 ?_
                            refine lv_iload hx hb dL_law_260 (lv_at hl 0 rfl) ?_
                            refine lv_iconst (v := (1 : Int32)) hx hb dL_law_262 kc_iconst_1 ?_
                            refine lv_iadd hx hb dL_law_263 ?_
                            obtain ⟨v143, hv143, hf⟩ := it_b hf
                            refine cTi (As := [.int (v11 >>> ((9 : Int32) &&& 31)), .int ((v136 * v137) + (1 : Int32))]) (rest := [.int v142, .ref ka]) S (c_L_up l D cI cN _ (v11 >>> ((9 : Int32) &&& 31)) ((v136 * v137) + (1 : Int32)) v143 hv143) (va_cwS 2 hts gL_law_L_up rfl rfl rfl (by decide +kernel) ⟨Nat.le_of_ble_eq_true rfl, Nat.le_of_ble_eq_true rfl⟩) hK hP hS hA (P_nil hP) rfl hl.1 rfl (Nat.le_of_ble_eq_true rfl) dL_law_264 ⟨Nat.le_of_ble_eq_true rfl, Nat.le_of_ble_eq_true rfl⟩ (fun H locs hP hS => ?_)
                            obtain ⟨v144, hv144, hf⟩ := it_b hf
                            refine cTw (As := [.ref ka, .int v142, .int v143]) (rest := []) [(true, (cxW ka (q 0) (qo 0) (qs 0) (qt 0) (t 0) (h 0) (u 0) (kx.1 7)), (cxW ka (q 0) (qo 0) (qs 0) (qt 0) (t 0) (h 0) (u 0) (kx.1 7))), (true, (hiW cI cN h hq v132.2.1), (hiW cI cN h hq v144.2.1)), (true, (txW cI u x), (txW cI u x)), (true, (nwW cI qo v132.2.2.1), (nwW cI qo v144.2.2.1)), (false, (nwW cI qs sn), (nwW cI qs sn)), (true, (rtW cI t v132.2.2.2.1), (rtW cI t v144.2.2.2.1)), (false, (nwW cI qt tr), (nwW cI qt tr)), (true, (nwW cI q v132.2.2.2.2), (nwW cI q v144.2.2.2.2))] ⟨ad_cex, (fun h => Bool.noConfusion h), ad_his, (fun h => Bool.noConfusion h), ad_txt, (fun h => Bool.noConfusion h), ad_net, (fun h => Bool.noConfusion h), rfl, (fun _ => rfl), ad_rtr, (fun h => Bool.noConfusion h), rfl, (fun _ => rfl), ad_net, (fun h => Bool.noConfusion h), trivial⟩ S (c_L_isAhead l D cI cN ka (qs 0) (qt 0) h hq u qo t q _ kx v132.2.1 x v132.2.2.1 v132.2.2.2.1 v132.2.2.2.2 v142 v143 v144.1 v144.2.1 v144.2.2.1 v144.2.2.2.1 v144.2.2.2.2 hv144) (va_cwS 3 hts gL_law_L_isAhead rfl rfl rfl (by decide +kernel) ⟨Nat.le_of_ble_eq_true rfl, Nat.le_of_ble_eq_true rfl⟩) hK hP hD hS hA rfl hl.1 rfl (Nat.le_of_ble_eq_true rfl) dL_law_267 ⟨Nat.le_of_ble_eq_true rfl, Nat.le_of_ble_eq_true rfl⟩ (fun H locs hP hD hS => ?_)
                            refine lv_goto (tgt := 286) hx hb dL_law_270 (by decide) ?_
                            have e0 := Option.some.inj hf
                            subst e0
                            exact hj H locs ls hP hD hS (lv_sub hl [7, 8, 9] rfl)
                        · have hf := it_t hf c138
                          refine lv_aload_n hx hb dL_law_229 rfl (lv_at hl 8 rfl) ?_
                          obtain ⟨v145, hv145, hf⟩ := it_b hf
                          refine cTi (As := [.ref ka]) (rest := []) S (c_L_holds l D cI cN ka (qo 0) (qs 0) (qt 0) (t 0) h hq u q _ kx v132.2.1 x v132.2.2.2.2 v145 hv145) (va_cwS 1 hts gL_law_L_holds rfl rfl rfl (by decide +kernel) ⟨Nat.le_of_ble_eq_true rfl, Nat.le_of_ble_eq_true rfl⟩) hK hP hS hA (P_sel [(true, (cxW ka (q 0) (qo 0) (qs 0) (qt 0) (t 0) (h 0) (u 0) (kx.1 7)), (cxW ka (q 0) (qo 0) (qs 0) (qt 0) (t 0) (h 0) (u 0) (kx.1 7))), (true, (hiW cI cN h hq v132.2.1), (hiW cI cN h hq v132.2.1)), (true, (txW cI u x), (txW cI u x)), (false, (nwW cI qo v132.2.2.1), (nwW cI qo v132.2.2.1)), (false, (nwW cI qs sn), (nwW cI qs sn)), (false, (rtW cI t v132.2.2.2.1), (rtW cI t v132.2.2.2.1)), (false, (nwW cI qt tr), (nwW cI qt tr)), (true, (nwW cI q v132.2.2.2.2), (nwW cI q v132.2.2.2.2))] hP) rfl hl.1 rfl (Nat.le_of_ble_eq_true rfl) dL_law_230 ⟨Nat.le_of_ble_eq_true rfl, Nat.le_of_ble_eq_true rfl⟩ (fun H locs hP hS => ?_)
                          refine lv_goto (tgt := 286) hx hb dL_law_233 (by decide) ?_
                          have e0 := Option.some.inj hf
                          subst e0
                          exact hj H locs ls hP hD hS (lv_sub hl [7, 8, 9] rfl)
                      · have hf := it_f hf c135
                        refine lv_iconst (v := (0 : Int32)) hx hb dL_law_208 kc_iconst_0 ?_
                        have e0 : (0 : Int32) = r0 := congrArg (fun z => z.1) (Option.some.inj hf)
                        have e1 : kx = kx' := congrArg (fun z => z.2.1) (Option.some.inj hf)
                        have e2 : v132.2.1 = hi' := congrArg (fun z => z.2.2.1) (Option.some.inj hf)
                        have e3 : v132.2.2.1 = o' := congrArg (fun z => z.2.2.2.1) (Option.some.inj hf)
                        have e4 : sn = sn' := congrArg (fun z => z.2.2.2.2.1) (Option.some.inj hf)
                        have e5 : v132.2.2.2.1 = r' := congrArg (fun z => z.2.2.2.2.2.1) (Option.some.inj hf)
                        have e6 : v132.2.2.2.2 = n' := congrArg (fun z => z.2.2.2.2.2.2) (Option.some.inj hf)
                        subst e0
                        subst e1
                        subst e2
                        subst e3
                        subst e4
                        subst e5
                        subst e6
                        exact hret H locs ls _ dL_law_209 (by first | rfl | (split <;> rfl) | (split <;> (first | rfl | (split <;> rfl))) | assumption) hP hD hS
          · have hf := it_f hf c88
            refine lv_goto (tgt := 141) hx hb dL_law_115 (by decide) ?_
            refine lv_iconst (v := (0 : Int32)) hx hb dL_law_141 kc_iconst_0 ?_
            have e0 : (0 : Int32) = r0 := congrArg (fun z => z.1) (Option.some.inj hf)
            have e1 : kx = kx' := congrArg (fun z => z.2.1) (Option.some.inj hf)
            have e2 : v14.2.1 = hi' := congrArg (fun z => z.2.2.1) (Option.some.inj hf)
            have e3 : v14.2.2.1 = o' := congrArg (fun z => z.2.2.2.1) (Option.some.inj hf)
            have e4 : sn = sn' := congrArg (fun z => z.2.2.2.2.1) (Option.some.inj hf)
            have e5 : v14.2.2.2.1 = r' := congrArg (fun z => z.2.2.2.2.2.1) (Option.some.inj hf)
            have e6 : v14.2.2.2.2 = n' := congrArg (fun z => z.2.2.2.2.2.2) (Option.some.inj hf)
            subst e0
            subst e1
            subst e2
            subst e3
            subst e4
            subst e5
            subst e6
            exact hret H locs ls _ dL_law_142 (by first | rfl | (split <;> rfl) | (split <;> (first | rfl | (split <;> rfl))) | assumption) hP hD hS
set_option maxRecDepth 100000 in
set_option maxHeartbeats 4000000 in
theorem w_L_law_8 {p : Program} {l : Launch} {e : Env} {s : State} {m : MethodId} {args : Array Value} {below : List Frame} {meth : Method} {c : Code} {Q : State → Prop} {D : va_G} {cI cN : ClassId} {A : Nat → Prop} {ka : Nat} {h : Nat → Nat} {hq : Nat → Nat → Nat} {u : Nat → Nat} {qo : Nat → Nat} {qs : Nat → Nat} {t : Nat → Nat} {qt : Nat → Nat} {q : Nat → Nat} (S : CallFix p m c cL_law 14 s args wsL_law RL) (hK : KN D cI cN s) (hA : ∀ q : Nat, s.heap.size ≤ q → A q) {b : Nat} {L : Nat} {xs : Nat → Int32} (hX : va_X b L xs s s.heap) (hbl : b < s.heap.size) (hbA : ¬ A b) {kx : OS} {hi : HS} {x : OS} {o : OS} {sn : OS} {r : OS} {tr : OS} {n : OS} {r0 : Int32} {kx' : OS} {hi' : HS} {o' : OS} {sn' : OS} {r' : OS} {n' : OS} (hret : ∀ (H : Heap) (locs : List Loc) (ls : Array Slot) (pc : Nat), decode cL_law pc = .ok (.ireturn, 1) → narrow .boolean (.int r0) = .int r0 → va_P D vwCl ((cxW ka (q 0) (qo 0) (qs 0) (qt 0) (t 0) (h 0) (u 0) (kx'.1 7)) ++ ((hiW cI cN h hq hi') ++ ((txW cI u x) ++ ((nwW cI qo o') ++ ((nwW cI qs sn') ++ ((rtW cI t r') ++ ((nwW cI qt tr) ++ (nwW cI q n')))))))) H → va_D A ((cxW ka (q 0) (qo 0) (qs 0) (qt 0) (t 0) (h 0) (u 0) (kx'.1 7)) ++ ((hiW cI cN h hq hi') ++ ((txW cI u x) ++ ((nwW cI qo o') ++ ((nwW cI qs sn') ++ ((rtW cI t r') ++ ((nwW cI qt tr) ++ (nwW cI q n')))))))) → va_S A s.heap H locs → W p l e room_1 s m args below meth c H locs 115 2889 Q (F0 m pc ls [.int r0])) (hf : fL_law_8 xs L kx hi x o sn r tr n = some (r0, kx', hi', o', sn', r', n')) (H : Heap) (locs : List Loc) (ls : Array Slot) (hP : va_P D vwCl ((cxW ka (q 0) (qo 0) (qs 0) (qt 0) (t 0) (h 0) (u 0) (kx.1 7)) ++ ((hiW cI cN h hq hi) ++ ((txW cI u x) ++ ((nwW cI qo o) ++ ((nwW cI qs sn) ++ ((rtW cI t r) ++ ((nwW cI qt tr) ++ (nwW cI q n)))))))) H) (hD : va_D A ((cxW ka (q 0) (qo 0) (qs 0) (qt 0) (t 0) (h 0) (u 0) (kx.1 7)) ++ ((hiW cI cN h hq hi) ++ ((txW cI u x) ++ ((nwW cI qo o) ++ ((nwW cI qs sn) ++ ((rtW cI t r) ++ ((nwW cI qt tr) ++ (nwW cI q n))))))))) (hS : va_S A s.heap H locs) (hl : lv_has ls 14 [(0, .ref b), (1, .ref ka)]) : W p l e room_1 s m args below meth c H locs 115 2889 Q (F0 m 8 ls []) := by
  obtain ⟨hx, hb, hml, hown, hts⟩ := id S
  unfold fL_law_8 at hf
  refine lv_aload_n hx hb dL_law_8 rfl (lv_at hl 1 rfl) ?_
  obtain ⟨v1, hv1, hf⟩ := it_b hf
  refine cBi (As := []) (rest := []) (q0 := 0) (ci := 5) [(true, (cxW ka (q 0) (qo 0) (qs 0) (qt 0) (t 0) (h 0) (u 0) (kx.1 7)), (cxW ka (q 0) (qo 0) (qs 0) (qt 0) (t 0) (h 0) (u 0) (kx.1 7))), (true, (hiW cI cN h hq hi), (hiW cI cN h hq v1.2.1)), (false, (txW cI u x), (txW cI u x)), (false, (nwW cI qo o), (nwW cI qo o)), (false, (nwW cI qs sn), (nwW cI qs sn)), (false, (rtW cI t r), (rtW cI t r)), (false, (nwW cI qt tr), (nwW cI qt tr)), (true, (nwW cI q n), (nwW cI q v1.2.2))] ⟨ad_cex, (fun h => Bool.noConfusion h), ad_his, (fun h => Bool.noConfusion h), rfl, (fun _ => rfl), rfl, (fun _ => rfl), rfl, (fun _ => rfl), rfl, (fun _ => rfl), rfl, (fun _ => rfl), ad_net, (fun h => Bool.noConfusion h), trivial⟩ S (c_X5_undo l D cI cN ka (qo 0) (qs 0) (qt 0) (t 0) (u 0) h hq q _ kx hi n v1.1 v1.2.1 v1.2.2 hv1) (cwV 0 hts gL_law_X5_undo rfl rfl rfl (by decide +kernel) ⟨Nat.le_of_ble_eq_true rfl, Nat.le_of_ble_eq_true rfl⟩) hK hP hD hS hA rfl rfl rfl hl.1 rfl (Nat.le_of_ble_eq_true rfl) dL_law_9 ⟨Nat.le_of_ble_eq_true rfl, Nat.le_of_ble_eq_true rfl⟩ (fun H locs hP hD hS => ?_)
  refine lv_bipush (v := (-6 : Int32)) hx hb dL_law_12 kc_bipush_m6 ?_
  refine lv_icmp_ne (tgt := 33) hx hb dL_law_14 (by decide) (fun c2 => ?_) (fun c2 => ?_)
  · have hf := it_f hf c2
    refine lv_iconst (v := (0 : Int32)) hx hb dL_law_33 kc_iconst_0 ?_
    have e0 : (0 : Int32) = r0 := congrArg (fun z => z.1) (Option.some.inj hf)
    have e1 : kx = kx' := congrArg (fun z => z.2.1) (Option.some.inj hf)
    have e2 : v1.2.1 = hi' := congrArg (fun z => z.2.2.1) (Option.some.inj hf)
    have e3 : o = o' := congrArg (fun z => z.2.2.2.1) (Option.some.inj hf)
    have e4 : sn = sn' := congrArg (fun z => z.2.2.2.2.1) (Option.some.inj hf)
    have e5 : r = r' := congrArg (fun z => z.2.2.2.2.2.1) (Option.some.inj hf)
    have e6 : v1.2.2 = n' := congrArg (fun z => z.2.2.2.2.2.2) (Option.some.inj hf)
    subst e0
    subst e1
    subst e2
    subst e3
    subst e4
    subst e5
    subst e6
    exact hret H locs ls _ dL_law_34 (by first | rfl | (split <;> rfl) | (split <;> (first | rfl | (split <;> rfl))) | assumption) hP hD hS
  · have hf := it_t hf c2
    refine lv_aload_n hx hb dL_law_17 rfl (lv_at hl 1 rfl) ?_
    obtain ⟨v3, hv3, hf⟩ := it_b hf
    refine cBi (As := []) (rest := []) (q0 := 0) (ci := 5) [(true, (cxW ka (q 0) (qo 0) (qs 0) (qt 0) (t 0) (h 0) (u 0) (kx.1 7)), (cxW ka (q 0) (qo 0) (qs 0) (qt 0) (t 0) (h 0) (u 0) (kx.1 7))), (true, (hiW cI cN h hq v1.2.1), (hiW cI cN h hq v3.2.1)), (false, (txW cI u x), (txW cI u x)), (false, (nwW cI qo o), (nwW cI qo o)), (true, (nwW cI qs sn), (nwW cI qs sn)), (false, (rtW cI t r), (rtW cI t r)), (false, (nwW cI qt tr), (nwW cI qt tr)), (true, (nwW cI q v1.2.2), (nwW cI q v3.2.2))] ⟨ad_cex, (fun h => Bool.noConfusion h), ad_his, (fun h => Bool.noConfusion h), rfl, (fun _ => rfl), rfl, (fun _ => rfl), ad_net, (fun h => Bool.noConfusion h), rfl, (fun _ => rfl), rfl, (fun _ => rfl), ad_net, (fun h => Bool.noConfusion h), trivial⟩ S (c_X5_restore l D cI cN ka (qo 0) (qt 0) (t 0) (u 0) h hq qs q _ kx v1.2.1 sn v1.2.2 v3.1 v3.2.1 v3.2.2 hv3) (cwV 0 hts gL_law_X5_restore rfl rfl rfl (by decide +kernel) ⟨Nat.le_of_ble_eq_true rfl, Nat.le_of_ble_eq_true rfl⟩) hK hP hD hS hA rfl rfl rfl hl.1 rfl (Nat.le_of_ble_eq_true rfl) dL_law_18 ⟨Nat.le_of_ble_eq_true rfl, Nat.le_of_ble_eq_true rfl⟩ (fun H locs hP hD hS => ?_)
    refine lv_bipush (v := (-6 : Int32)) hx hb dL_law_21 kc_bipush_m6 ?_
    refine lv_icmp_ne (tgt := 33) hx hb dL_law_23 (by decide) (fun c4 => ?_) (fun c4 => ?_)
    · have hf := it_f hf c4
      refine lv_iconst (v := (0 : Int32)) hx hb dL_law_33 kc_iconst_0 ?_
      have e0 : (0 : Int32) = r0 := congrArg (fun z => z.1) (Option.some.inj hf)
      have e1 : kx = kx' := congrArg (fun z => z.2.1) (Option.some.inj hf)
      have e2 : v3.2.1 = hi' := congrArg (fun z => z.2.2.1) (Option.some.inj hf)
      have e3 : o = o' := congrArg (fun z => z.2.2.2.1) (Option.some.inj hf)
      have e4 : sn = sn' := congrArg (fun z => z.2.2.2.2.1) (Option.some.inj hf)
      have e5 : r = r' := congrArg (fun z => z.2.2.2.2.2.1) (Option.some.inj hf)
      have e6 : v3.2.2 = n' := congrArg (fun z => z.2.2.2.2.2.2) (Option.some.inj hf)
      subst e0
      subst e1
      subst e2
      subst e3
      subst e4
      subst e5
      subst e6
      exact hret H locs ls _ dL_law_34 (by first | rfl | (split <;> rfl) | (split <;> (first | rfl | (split <;> rfl))) | assumption) hP hD hS
    · have hf := it_t hf c4
      refine lv_aload_n hx hb dL_law_26 rfl (lv_at hl 1 rfl) ?_
      obtain ⟨v5, hv5, hf⟩ := it_b hf
      refine cBi (As := []) (rest := []) (q0 := 0) (ci := 5) [(true, (cxW ka (q 0) (qo 0) (qs 0) (qt 0) (t 0) (h 0) (u 0) (kx.1 7)), (cxW ka (q 0) (qo 0) (qs 0) (qt 0) (t 0) (h 0) (u 0) (v5.2.1.1 7))), (false, (hiW cI cN h hq v3.2.1), (hiW cI cN h hq v3.2.1)), (false, (txW cI u x), (txW cI u x)), (false, (nwW cI qo o), (nwW cI qo o)), (true, (nwW cI qs sn), (nwW cI qs v5.2.2)), (false, (rtW cI t r), (rtW cI t r)), (false, (nwW cI qt tr), (nwW cI qt tr)), (true, (nwW cI q v3.2.2), (nwW cI q v3.2.2))] ⟨ad_cex, (fun h => Bool.noConfusion h), rfl, (fun _ => rfl), rfl, (fun _ => rfl), rfl, (fun _ => rfl), ad_net, (fun h => Bool.noConfusion h), rfl, (fun _ => rfl), rfl, (fun _ => rfl), ad_net, (fun h => Bool.noConfusion h), trivial⟩ S (c_X5_keep l D cI cN ka (qo 0) (qt 0) (t 0) (h 0) (u 0) qs q _ kx sn v3.2.2 v5.1 v5.2.1 v5.2.2 hv5) (cwV 0 hts gL_law_X5_keep rfl rfl rfl (by decide +kernel) ⟨Nat.le_of_ble_eq_true rfl, Nat.le_of_ble_eq_true rfl⟩) hK hP hD hS hA rfl rfl rfl hl.1 rfl (Nat.le_of_ble_eq_true rfl) dL_law_27 ⟨Nat.le_of_ble_eq_true rfl, Nat.le_of_ble_eq_true rfl⟩ (fun H locs hP hD hS => ?_)
      refine lv_if_eq (tgt := 35) hx hb dL_law_30 (by decide) (fun c6 => ?_) (fun c6 => ?_)
      · have hf := it_t hf c6
        refine lv_iconst (v := (0 : Int32)) hx hb dL_law_35 kc_iconst_0 ?_
        refine lv_istore_n (lv' := [(2, .int (0 : Int32)), (0, .ref b), (1, .ref ka)]) hx hb dL_law_36 rfl hl (by decide) rfl (fun ls hl => ?_)
        exact w_L_law_37 S hK hA hX hbl hbA hret _ _ _ _ _ _ _ _ hf H locs ls hP hD hS (lv_sub hl [1, 2, 0] rfl)
      · have hf := it_f hf c6
        refine lv_iconst (v := (0 : Int32)) hx hb dL_law_33 kc_iconst_0 ?_
        have e0 : (0 : Int32) = r0 := congrArg (fun z => z.1) (Option.some.inj hf)
        have e1 : v5.2.1 = kx' := congrArg (fun z => z.2.1) (Option.some.inj hf)
        have e2 : v3.2.1 = hi' := congrArg (fun z => z.2.2.1) (Option.some.inj hf)
        have e3 : o = o' := congrArg (fun z => z.2.2.2.1) (Option.some.inj hf)
        have e4 : v5.2.2 = sn' := congrArg (fun z => z.2.2.2.2.1) (Option.some.inj hf)
        have e5 : r = r' := congrArg (fun z => z.2.2.2.2.2.1) (Option.some.inj hf)
        have e6 : v3.2.2 = n' := congrArg (fun z => z.2.2.2.2.2.2) (Option.some.inj hf)
        subst e0
        subst e1
        subst e2
        subst e3
        subst e4
        subst e5
        subst e6
        exact hret H locs ls _ dL_law_34 (by first | rfl | (split <;> rfl) | (split <;> (first | rfl | (split <;> rfl))) | assumption) hP hD hS
