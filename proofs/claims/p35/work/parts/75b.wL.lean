abbrev rm_L_act : Room := { frames := 7, cells := 0, slots := 0, locals := 175 }
set_option maxRecDepth 100000 in
set_option maxHeartbeats 4000000 in
theorem w_L_act_0 {p : Program} {l : Launch} {e : Env} {s : State} {m : MethodId} {args : Array Value} {below : List Frame} {meth : Method} {c : Code} {Q : State → Prop} {D : va_G} {cI cN : ClassId} {A : Nat → Prop} {ka a3 : Nat} {h : Nat → Nat} {hq : Nat → Nat → Nat} {u : Nat → Nat} {qo : Nat → Nat} {qs : Nat → Nat} {t : Nat → Nat} {q : Nat → Nat} (S : CallFix p m c cL_act 4 s args wsL_act RL) (hK : KN D cI cN s) (hA : ∀ q : Nat, s.heap.size ≤ q → A q) {kx : OS} {hi : HS} {x : OS} {o : OS} {sn : OS} {r : OS} {n : OS} {x1 : Int32} {x2 : Int32} {r0 : Int32} {hi' : HS} {o' : OS} {r' : OS} {n' : OS} (hret : ∀ (H : Heap) (locs : List Loc) (ls : Array Slot) (pc : Nat), decode cL_act pc = .ok (.ireturn, 1) → narrow .int (.int r0) = .int r0 → va_P D vwCl ((cxW ka (q 0) (qo 0) (qs 0) a3 (t 0) (h 0) (u 0) (kx.1 7)) ++ ((hiW cI cN h hq hi') ++ ((txW cI u x) ++ ((nwW cI qo o') ++ ((nwW cI qs sn) ++ ((rtW cI t r') ++ (nwW cI q n'))))))) H → va_D A ((cxW ka (q 0) (qo 0) (qs 0) a3 (t 0) (h 0) (u 0) (kx.1 7)) ++ ((hiW cI cN h hq hi') ++ ((txW cI u x) ++ ((nwW cI qo o') ++ ((nwW cI qs sn) ++ ((rtW cI t r') ++ (nwW cI q n'))))))) → va_S A s.heap H locs → W p l e (headSpec wsL_act rm_L_act).room s m args below meth c H locs 0 0 Q (F0 m pc ls [.int r0])) (hf : fL_act kx hi x o sn r n x1 x2 = some (r0, hi', o', r', n')) (H : Heap) (locs : List Loc) (ls : Array Slot) (hP : va_P D vwCl ((cxW ka (q 0) (qo 0) (qs 0) a3 (t 0) (h 0) (u 0) (kx.1 7)) ++ ((hiW cI cN h hq hi) ++ ((txW cI u x) ++ ((nwW cI qo o) ++ ((nwW cI qs sn) ++ ((rtW cI t r) ++ (nwW cI q n))))))) H) (hD : va_D A ((cxW ka (q 0) (qo 0) (qs 0) a3 (t 0) (h 0) (u 0) (kx.1 7)) ++ ((hiW cI cN h hq hi) ++ ((txW cI u x) ++ ((nwW cI qo o) ++ ((nwW cI qs sn) ++ ((rtW cI t r) ++ (nwW cI q n)))))))) (hS : va_S A s.heap H locs) (hl : lv_has ls 4 [(0, .ref ka), (1, .int x1), (2, .int x2)]) : W p l e (headSpec wsL_act rm_L_act).room s m args below meth c H locs 0 0 Q (F0 m 0 ls []) := by
  obtain ⟨hx, hb, hml, hown, hts⟩ := id S
  unfold fL_act at hf
  refine lv_aload_n hx hb dL_act_0 rfl (lv_at hl 0 rfl) ?_
  refine lv_iconst (v := (0 : Int32)) hx hb dL_act_1 kc_iconst_0 ?_
  obtain ⟨v1, hv1, hf⟩ := it_b hf
  refine cQi (As := [.int (0 : Int32)]) (rest := []) (q0 := 0) (ci := 5) S (c_X5_total l D cI cN ka (qo 0) (qs 0) a3 (t 0) h hq u q _ kx hi x n (0 : Int32) v1 hv1) (cwV 1 hts gL_act_X5_total rfl rfl rfl (by decide +kernel) ⟨Nat.le_of_ble_eq_true rfl, Nat.le_of_ble_eq_true rfl⟩) hK hP hS hA (P_sel [(true, (cxW ka (q 0) (qo 0) (qs 0) a3 (t 0) (h 0) (u 0) (kx.1 7)), (cxW ka (q 0) (qo 0) (qs 0) a3 (t 0) (h 0) (u 0) (kx.1 7))), (true, (hiW cI cN h hq hi), (hiW cI cN h hq hi)), (true, (txW cI u x), (txW cI u x)), (false, (nwW cI qo o), (nwW cI qo o)), (false, (nwW cI qs sn), (nwW cI qs sn)), (false, (rtW cI t r), (rtW cI t r)), (true, (nwW cI q n), (nwW cI q n))] hP) rfl rfl rfl hl.1 rfl (Nat.le_of_ble_eq_true rfl) dL_act_2 ⟨Nat.zero_le _, Nat.zero_le _⟩ (fun H locs hP hS => ?_)
  refine lv_aload_n hx hb dL_act_5 rfl (lv_at hl 0 rfl) ?_
  refine lv_iconst (v := (1 : Int32)) hx hb dL_act_6 kc_iconst_1 ?_
  obtain ⟨v2, hv2, hf⟩ := it_b hf
  refine cQi (As := [.int (1 : Int32)]) (rest := [.int v1]) (q0 := 0) (ci := 5) S (c_X5_total l D cI cN ka (qo 0) (qs 0) a3 (t 0) h hq u q _ kx hi x n (1 : Int32) v2 hv2) (cwV 1 hts gL_act_X5_total rfl rfl rfl (by decide +kernel) ⟨Nat.le_of_ble_eq_true rfl, Nat.le_of_ble_eq_true rfl⟩) hK hP hS hA (P_sel [(true, (cxW ka (q 0) (qo 0) (qs 0) a3 (t 0) (h 0) (u 0) (kx.1 7)), (cxW ka (q 0) (qo 0) (qs 0) a3 (t 0) (h 0) (u 0) (kx.1 7))), (true, (hiW cI cN h hq hi), (hiW cI cN h hq hi)), (true, (txW cI u x), (txW cI u x)), (false, (nwW cI qo o), (nwW cI qo o)), (false, (nwW cI qs sn), (nwW cI qs sn)), (false, (rtW cI t r), (rtW cI t r)), (true, (nwW cI q n), (nwW cI q n))] hP) rfl rfl rfl hl.1 rfl (Nat.le_of_ble_eq_true rfl) dL_act_7 ⟨Nat.zero_le _, Nat.zero_le _⟩ (fun H locs hP hS => ?_)
  refine lv_imul hx hb dL_act_10 ?_
  refine lv_istore_n (lv' := [(3, .int (v1 * v2)), (0, .ref ka), (1, .int x1), (2, .int x2)]) hx hb dL_act_11 rfl hl (by decide) rfl (fun ls hl => ?_)
  refine lv_iload_n hx hb dL_act_12 rfl (lv_at hl 2 rfl) ?_
  refine lv_bipush (v := (16 : Int32)) hx hb dL_act_13 kc_bipush_16 ?_
  obtain ⟨v3, hv3, hf⟩ := it_b hf
  refine cTi (As := [.int x1, .int (16 : Int32)]) (rest := []) S (c_L_up l D cI cN _ x1 (16 : Int32) v3 hv3) (va_cwS 2 hts gL_act_L_up rfl rfl rfl (by decide +kernel) ⟨Nat.le_of_ble_eq_true rfl, Nat.le_of_ble_eq_true rfl⟩) hK hP hS hA (P_nil hP) rfl hl.1 rfl (Nat.le_of_ble_eq_true rfl) dL_act_15 ⟨Nat.zero_le _, Nat.zero_le _⟩ (fun H locs hP hS => ?_)
  refine lv_topi (fun y4 ey4 => ?_)
  by_cases c_y4_0 : v3 = (0 : Int32)
  · have hf := it_t hf c_y4_0
    obtain rfl := ey4.trans c_y4_0
    refine lv_tableIn (tgt := 68) hx hb dL_act_18 (by decide) (by decide) rfl (by decide) ?_
    refine lv_aload_n hx hb dL_act_68 rfl (lv_at hl 1 rfl) ?_
    refine lv_iload_n hx hb dL_act_69 rfl (lv_at hl 3 rfl) ?_
    refine lv_iload_n hx hb dL_act_70 rfl (lv_at hl 0 rfl) ?_
    refine lv_iconst (v := (1 : Int32)) hx hb dL_act_71 kc_iconst_1 ?_
    refine lv_iadd hx hb dL_act_72 ?_
    obtain ⟨v5, hv5, hf⟩ := it_b hf
    refine cTi (As := [.int x2, .int ((v1 * v2) + (1 : Int32))]) (rest := [.ref ka]) S (c_L_up l D cI cN _ x2 ((v1 * v2) + (1 : Int32)) v5 hv5) (va_cwS 2 hts gL_act_L_up rfl rfl rfl (by decide +kernel) ⟨Nat.le_of_ble_eq_true rfl, Nat.le_of_ble_eq_true rfl⟩) hK hP hS hA (P_nil hP) rfl hl.1 rfl (Nat.le_of_ble_eq_true rfl) dL_act_73 ⟨Nat.zero_le _, Nat.zero_le _⟩ (fun H locs hP hS => ?_)
    obtain ⟨v6, hv6, hf⟩ := it_b hf
    refine cBi (As := [.int v5]) (rest := []) (q0 := 0) (ci := 5) [(true, (cxW ka (q 0) (qo 0) (qs 0) a3 (t 0) (h 0) (u 0) (kx.1 7)), (cxW ka (q 0) (qo 0) (qs 0) a3 (t 0) (h 0) (u 0) (kx.1 7))), (true, (hiW cI cN h hq hi), (hiW cI cN h hq v6.2.1)), (false, (txW cI u x), (txW cI u x)), (true, (nwW cI qo o), (nwW cI qo v6.2.2.1)), (false, (nwW cI qs sn), (nwW cI qs sn)), (true, (rtW cI t r), (rtW cI t r)), (true, (nwW cI q n), (nwW cI q v6.2.2.2))] ⟨ad_cex, (fun h => Bool.noConfusion h), ad_his, (fun h => Bool.noConfusion h), rfl, (fun _ => rfl), ad_net, (fun h => Bool.noConfusion h), rfl, (fun _ => rfl), ad_rtr, (fun h => Bool.noConfusion h), ad_net, (fun h => Bool.noConfusion h), trivial⟩ S (c_X5_disconnect l D cI cN ka (qs 0) a3 (u 0) h hq qo t q _ kx hi o r n v5 v6.1 v6.2.1 v6.2.2.1 v6.2.2.2 hv6) (cwV 1 hts gL_act_X5_disconnect rfl rfl rfl (by decide +kernel) ⟨Nat.le_of_ble_eq_true rfl, Nat.le_of_ble_eq_true rfl⟩) hK hP hD hS hA rfl rfl rfl hl.1 rfl (Nat.le_of_ble_eq_true rfl) dL_act_76 ⟨Nat.zero_le _, Nat.zero_le _⟩ (fun H locs hP hD hS => ?_)
    have e0 : v6.1 = r0 := congrArg (fun z => z.1) (Option.some.inj hf)
    have e1 : v6.2.1 = hi' := congrArg (fun z => z.2.1) (Option.some.inj hf)
    have e2 : v6.2.2.1 = o' := congrArg (fun z => z.2.2.1) (Option.some.inj hf)
    have e3 : r = r' := congrArg (fun z => z.2.2.2.1) (Option.some.inj hf)
    have e4 : v6.2.2.2 = n' := congrArg (fun z => z.2.2.2.2) (Option.some.inj hf)
    subst e0
    subst e1
    subst e2
    subst e3
    subst e4
    exact hret H locs ls _ dL_act_79 rfl hP hD hS
  · have hf := it_f hf c_y4_0
    by_cases c_y4_1 : v3 = (1 : Int32)
    · have hf := it_t hf c_y4_1
      obtain rfl := ey4.trans c_y4_1
      refine lv_tableIn (tgt := 68) hx hb dL_act_18 (by decide) (by decide) rfl (by decide) ?_
      refine lv_aload_n hx hb dL_act_68 rfl (lv_at hl 1 rfl) ?_
      refine lv_iload_n hx hb dL_act_69 rfl (lv_at hl 3 rfl) ?_
      refine lv_iload_n hx hb dL_act_70 rfl (lv_at hl 0 rfl) ?_
      refine lv_iconst (v := (1 : Int32)) hx hb dL_act_71 kc_iconst_1 ?_
      refine lv_iadd hx hb dL_act_72 ?_
      obtain ⟨v7, hv7, hf⟩ := it_b hf
      refine cTi (As := [.int x2, .int ((v1 * v2) + (1 : Int32))]) (rest := [.ref ka]) S (c_L_up l D cI cN _ x2 ((v1 * v2) + (1 : Int32)) v7 hv7) (va_cwS 2 hts gL_act_L_up rfl rfl rfl (by decide +kernel) ⟨Nat.le_of_ble_eq_true rfl, Nat.le_of_ble_eq_true rfl⟩) hK hP hS hA (P_nil hP) rfl hl.1 rfl (Nat.le_of_ble_eq_true rfl) dL_act_73 ⟨Nat.zero_le _, Nat.zero_le _⟩ (fun H locs hP hS => ?_)
      obtain ⟨v8, hv8, hf⟩ := it_b hf
      refine cBi (As := [.int v7]) (rest := []) (q0 := 0) (ci := 5) [(true, (cxW ka (q 0) (qo 0) (qs 0) a3 (t 0) (h 0) (u 0) (kx.1 7)), (cxW ka (q 0) (qo 0) (qs 0) a3 (t 0) (h 0) (u 0) (kx.1 7))), (true, (hiW cI cN h hq hi), (hiW cI cN h hq v8.2.1)), (false, (txW cI u x), (txW cI u x)), (true, (nwW cI qo o), (nwW cI qo v8.2.2.1)), (false, (nwW cI qs sn), (nwW cI qs sn)), (true, (rtW cI t r), (rtW cI t r)), (true, (nwW cI q n), (nwW cI q v8.2.2.2))] ⟨ad_cex, (fun h => Bool.noConfusion h), ad_his, (fun h => Bool.noConfusion h), rfl, (fun _ => rfl), ad_net, (fun h => Bool.noConfusion h), rfl, (fun _ => rfl), ad_rtr, (fun h => Bool.noConfusion h), ad_net, (fun h => Bool.noConfusion h), trivial⟩ S (c_X5_disconnect l D cI cN ka (qs 0) a3 (u 0) h hq qo t q _ kx hi o r n v7 v8.1 v8.2.1 v8.2.2.1 v8.2.2.2 hv8) (cwV 1 hts gL_act_X5_disconnect rfl rfl rfl (by decide +kernel) ⟨Nat.le_of_ble_eq_true rfl, Nat.le_of_ble_eq_true rfl⟩) hK hP hD hS hA rfl rfl rfl hl.1 rfl (Nat.le_of_ble_eq_true rfl) dL_act_76 ⟨Nat.zero_le _, Nat.zero_le _⟩ (fun H locs hP hD hS => ?_)
      have e0 : v8.1 = r0 := congrArg (fun z => z.1) (Option.some.inj hf)
      have e1 : v8.2.1 = hi' := congrArg (fun z => z.2.1) (Option.some.inj hf)
      have e2 : v8.2.2.1 = o' := congrArg (fun z => z.2.2.1) (Option.some.inj hf)
      have e3 : r = r' := congrArg (fun z => z.2.2.2.1) (Option.some.inj hf)
      have e4 : v8.2.2.2 = n' := congrArg (fun z => z.2.2.2.2) (Option.some.inj hf)
      subst e0
      subst e1
      subst e2
      subst e3
      subst e4
      exact hret H locs ls _ dL_act_79 rfl hP hD hS
    · have hf := it_f hf c_y4_1
      by_cases c_y4_2 : v3 = (2 : Int32)
      · have hf := it_t hf c_y4_2
        obtain rfl := ey4.trans c_y4_2
        refine lv_tableIn (tgt := 80) hx hb dL_act_18 (by decide) (by decide) rfl (by decide) ?_
        refine lv_aload_n hx hb dL_act_80 rfl (lv_at hl 1 rfl) ?_
        refine lv_iload_n hx hb dL_act_81 rfl (lv_at hl 3 rfl) ?_
        refine lv_aload_n hx hb dL_act_82 rfl (lv_at hl 1 rfl) ?_
        refine lv_iconst (v := (2 : Int32)) hx hb dL_act_83 kc_iconst_2 ?_
        obtain ⟨v9, hv9, hf⟩ := it_b hf
        refine cQi (As := [.int (2 : Int32)]) (rest := [.int x2, .ref ka]) (q0 := 0) (ci := 5) S (c_X5_total l D cI cN ka (qo 0) (qs 0) a3 (t 0) h hq u q _ kx hi x n (2 : Int32) v9 hv9) (cwV 1 hts gL_act_X5_total rfl rfl rfl (by decide +kernel) ⟨Nat.le_of_ble_eq_true rfl, Nat.le_of_ble_eq_true rfl⟩) hK hP hS hA (P_sel [(true, (cxW ka (q 0) (qo 0) (qs 0) a3 (t 0) (h 0) (u 0) (kx.1 7)), (cxW ka (q 0) (qo 0) (qs 0) a3 (t 0) (h 0) (u 0) (kx.1 7))), (true, (hiW cI cN h hq hi), (hiW cI cN h hq hi)), (true, (txW cI u x), (txW cI u x)), (false, (nwW cI qo o), (nwW cI qo o)), (false, (nwW cI qs sn), (nwW cI qs sn)), (false, (rtW cI t r), (rtW cI t r)), (true, (nwW cI q n), (nwW cI q n))] hP) rfl rfl rfl hl.1 rfl (Nat.le_of_ble_eq_true rfl) dL_act_84 ⟨Nat.zero_le _, Nat.zero_le _⟩ (fun H locs hP hS => ?_)
        refine lv_iconst (v := (1 : Int32)) hx hb dL_act_87 kc_iconst_1 ?_
        refine lv_iadd hx hb dL_act_88 ?_
        obtain ⟨v10, hv10, hf⟩ := it_b hf
        refine cTi (As := [.int x2, .int (v9 + (1 : Int32))]) (rest := [.ref ka]) S (c_L_up l D cI cN _ x2 (v9 + (1 : Int32)) v10 hv10) (va_cwS 2 hts gL_act_L_up rfl rfl rfl (by decide +kernel) ⟨Nat.le_of_ble_eq_true rfl, Nat.le_of_ble_eq_true rfl⟩) hK hP hS hA (P_nil hP) rfl hl.1 rfl (Nat.le_of_ble_eq_true rfl) dL_act_89 ⟨Nat.zero_le _, Nat.zero_le _⟩ (fun H locs hP hS => ?_)
        obtain ⟨v11, hv11, hf⟩ := it_b hf
        refine cBi (As := [.int v10]) (rest := []) (q0 := 0) (ci := 5) [(true, (cxW ka (q 0) (qo 0) (qs 0) a3 (t 0) (h 0) (u 0) (kx.1 7)), (cxW ka (q 0) (qo 0) (qs 0) a3 (t 0) (h 0) (u 0) (kx.1 7))), (true, (hiW cI cN h hq hi), (hiW cI cN h hq v11.2.1)), (false, (txW cI u x), (txW cI u x)), (true, (nwW cI qo o), (nwW cI qo v11.2.2.1)), (false, (nwW cI qs sn), (nwW cI qs sn)), (true, (rtW cI t r), (rtW cI t v11.2.2.2.1)), (true, (nwW cI q n), (nwW cI q v11.2.2.2.2))] ⟨ad_cex, (fun h => Bool.noConfusion h), ad_his, (fun h => Bool.noConfusion h), rfl, (fun _ => rfl), ad_net, (fun h => Bool.noConfusion h), rfl, (fun _ => rfl), ad_rtr, (fun h => Bool.noConfusion h), ad_net, (fun h => Bool.noConfusion h), trivial⟩ S (c_X5_takeOut l D cI cN ka (qs 0) a3 (u 0) h hq qo t q _ kx hi o r n v10 v11.1 v11.2.1 v11.2.2.1 v11.2.2.2.1 v11.2.2.2.2 hv11) (cwV 1 hts gL_act_X5_takeOut rfl rfl rfl (by decide +kernel) ⟨Nat.le_of_ble_eq_true rfl, Nat.le_of_ble_eq_true rfl⟩) hK hP hD hS hA rfl rfl rfl hl.1 rfl (Nat.le_of_ble_eq_true rfl) dL_act_92 ⟨Nat.zero_le _, Nat.zero_le _⟩ (fun H locs hP hD hS => ?_)
        have e0 : v11.1 = r0 := congrArg (fun z => z.1) (Option.some.inj hf)
        have e1 : v11.2.1 = hi' := congrArg (fun z => z.2.1) (Option.some.inj hf)
        have e2 : v11.2.2.1 = o' := congrArg (fun z => z.2.2.1) (Option.some.inj hf)
        have e3 : v11.2.2.2.1 = r' := congrArg (fun z => z.2.2.2.1) (Option.some.inj hf)
        have e4 : v11.2.2.2.2 = n' := congrArg (fun z => z.2.2.2.2) (Option.some.inj hf)
        subst e0
        subst e1
        subst e2
        subst e3
        subst e4
        exact hret H locs ls _ dL_act_95 rfl hP hD hS
      · have hf := it_f hf c_y4_2
        by_cases c_y4_3 : v3 = (3 : Int32)
        · have hf := it_t hf c_y4_3
          obtain rfl := ey4.trans c_y4_3
          refine lv_tableIn (tgt := 96) hx hb dL_act_18 (by decide) (by decide) rfl (by decide) ?_
          refine lv_aload_n hx hb dL_act_96 rfl (lv_at hl 1 rfl) ?_
          refine lv_iload_n hx hb dL_act_97 rfl (lv_at hl 3 rfl) ?_
          refine lv_aload_n hx hb dL_act_98 rfl (lv_at hl 1 rfl) ?_
          refine lv_iconst (v := (2 : Int32)) hx hb dL_act_99 kc_iconst_2 ?_
          obtain ⟨v12, hv12, hf⟩ := it_b hf
          refine cQi (As := [.int (2 : Int32)]) (rest := [.int x2, .ref ka]) (q0 := 0) (ci := 5) S (c_X5_total l D cI cN ka (qo 0) (qs 0) a3 (t 0) h hq u q _ kx hi x n (2 : Int32) v12 hv12) (cwV 1 hts gL_act_X5_total rfl rfl rfl (by decide +kernel) ⟨Nat.le_of_ble_eq_true rfl, Nat.le_of_ble_eq_true rfl⟩) hK hP hS hA (P_sel [(true, (cxW ka (q 0) (qo 0) (qs 0) a3 (t 0) (h 0) (u 0) (kx.1 7)), (cxW ka (q 0) (qo 0) (qs 0) a3 (t 0) (h 0) (u 0) (kx.1 7))), (true, (hiW cI cN h hq hi), (hiW cI cN h hq hi)), (true, (txW cI u x), (txW cI u x)), (false, (nwW cI qo o), (nwW cI qo o)), (false, (nwW cI qs sn), (nwW cI qs sn)), (false, (rtW cI t r), (rtW cI t r)), (true, (nwW cI q n), (nwW cI q n))] hP) rfl rfl rfl hl.1 rfl (Nat.le_of_ble_eq_true rfl) dL_act_100 ⟨Nat.zero_le _, Nat.zero_le _⟩ (fun H locs hP hS => ?_)
          refine lv_iconst (v := (1 : Int32)) hx hb dL_act_103 kc_iconst_1 ?_
          refine lv_iadd hx hb dL_act_104 ?_
          obtain ⟨v13, hv13, hf⟩ := it_b hf
          refine cTi (As := [.int x2, .int (v12 + (1 : Int32))]) (rest := [.ref ka]) S (c_L_up l D cI cN _ x2 (v12 + (1 : Int32)) v13 hv13) (va_cwS 2 hts gL_act_L_up rfl rfl rfl (by decide +kernel) ⟨Nat.le_of_ble_eq_true rfl, Nat.le_of_ble_eq_true rfl⟩) hK hP hS hA (P_nil hP) rfl hl.1 rfl (Nat.le_of_ble_eq_true rfl) dL_act_105 ⟨Nat.zero_le _, Nat.zero_le _⟩ (fun H locs hP hS => ?_)
          obtain ⟨v14, hv14, hf⟩ := it_b hf
          refine cBi (As := [.int v13]) (rest := []) (q0 := 0) (ci := 5) [(true, (cxW ka (q 0) (qo 0) (qs 0) a3 (t 0) (h 0) (u 0) (kx.1 7)), (cxW ka (q 0) (qo 0) (qs 0) a3 (t 0) (h 0) (u 0) (kx.1 7))), (true, (hiW cI cN h hq hi), (hiW cI cN h hq v14.2.1)), (false, (txW cI u x), (txW cI u x)), (true, (nwW cI qo o), (nwW cI qo v14.2.2.1)), (false, (nwW cI qs sn), (nwW cI qs sn)), (true, (rtW cI t r), (rtW cI t r)), (true, (nwW cI q n), (nwW cI q v14.2.2.2))] ⟨ad_cex, (fun h => Bool.noConfusion h), ad_his, (fun h => Bool.noConfusion h), rfl, (fun _ => rfl), ad_net, (fun h => Bool.noConfusion h), rfl, (fun _ => rfl), ad_rtr, (fun h => Bool.noConfusion h), ad_net, (fun h => Bool.noConfusion h), trivial⟩ S (c_X5_putBack l D cI cN ka (qs 0) a3 (u 0) h hq qo t q _ kx hi o r n v13 v14.1 v14.2.1 v14.2.2.1 v14.2.2.2 hv14) (cwV 1 hts gL_act_X5_putBack rfl rfl rfl (by decide +kernel) ⟨Nat.le_of_ble_eq_true rfl, Nat.le_of_ble_eq_true rfl⟩) hK hP hD hS hA rfl rfl rfl hl.1 rfl (Nat.le_of_ble_eq_true rfl) dL_act_108 ⟨Nat.zero_le _, Nat.zero_le _⟩ (fun H locs hP hD hS => ?_)
          have e0 : v14.1 = r0 := congrArg (fun z => z.1) (Option.some.inj hf)
          have e1 : v14.2.1 = hi' := congrArg (fun z => z.2.1) (Option.some.inj hf)
          have e2 : v14.2.2.1 = o' := congrArg (fun z => z.2.2.1) (Option.some.inj hf)
          have e3 : r = r' := congrArg (fun z => z.2.2.2.1) (Option.some.inj hf)
          have e4 : v14.2.2.2 = n' := congrArg (fun z => z.2.2.2.2) (Option.some.inj hf)
          subst e0
          subst e1
          subst e2
          subst e3
          subst e4
          exact hret H locs ls _ dL_act_111 rfl hP hD hS
        · have hf := it_f hf c_y4_3
          by_cases c_y4_4 : v3 = (4 : Int32)
          · have hf := it_t hf c_y4_4
            obtain rfl := ey4.trans c_y4_4
            refine lv_tableIn (tgt := 112) hx hb dL_act_18 (by decide) (by decide) rfl (by decide) ?_
            refine lv_aload_n hx hb dL_act_112 rfl (lv_at hl 1 rfl) ?_
            obtain ⟨v15, hv15, hf⟩ := it_b hf
            refine cBi (As := []) (rest := []) (q0 := 0) (ci := 5) [(true, (cxW ka (q 0) (qo 0) (qs 0) a3 (t 0) (h 0) (u 0) (kx.1 7)), (cxW ka (q 0) (qo 0) (qs 0) a3 (t 0) (h 0) (u 0) (kx.1 7))), (true, (hiW cI cN h hq hi), (hiW cI cN h hq v15.2.1)), (false, (txW cI u x), (txW cI u x)), (true, (nwW cI qo o), (nwW cI qo v15.2.2.1)), (false, (nwW cI qs sn), (nwW cI qs sn)), (true, (rtW cI t r), (rtW cI t v15.2.2.2.1)), (true, (nwW cI q n), (nwW cI q v15.2.2.2.2))] ⟨ad_cex, (fun h => Bool.noConfusion h), ad_his, (fun h => Bool.noConfusion h), rfl, (fun _ => rfl), ad_net, (fun h => Bool.noConfusion h), rfl, (fun _ => rfl), ad_rtr, (fun h => Bool.noConfusion h), ad_net, (fun h => Bool.noConfusion h), trivial⟩ S (c_X5_pack l D cI cN ka (qs 0) a3 (u 0) h hq qo t q _ kx hi o r n v15.1 v15.2.1 v15.2.2.1 v15.2.2.2.1 v15.2.2.2.2 hv15) (cwV 0 hts gL_act_X5_pack rfl rfl rfl (by decide +kernel) ⟨Nat.le_of_ble_eq_true rfl, Nat.le_of_ble_eq_true rfl⟩) hK hP hD hS hA rfl rfl rfl hl.1 rfl (Nat.le_of_ble_eq_true rfl) dL_act_113 ⟨Nat.zero_le _, Nat.zero_le _⟩ (fun H locs hP hD hS => ?_)
            have e0 : v15.1 = r0 := congrArg (fun z => z.1) (Option.some.inj hf)
            have e1 : v15.2.1 = hi' := congrArg (fun z => z.2.1) (Option.some.inj hf)
            have e2 : v15.2.2.1 = o' := congrArg (fun z => z.2.2.1) (Option.some.inj hf)
            have e3 : v15.2.2.2.1 = r' := congrArg (fun z => z.2.2.2.1) (Option.some.inj hf)
            have e4 : v15.2.2.2.2 = n' := congrArg (fun z => z.2.2.2.2) (Option.some.inj hf)
            subst e0
            subst e1
            subst e2
            subst e3
            subst e4
            exact hret H locs ls _ dL_act_116 rfl hP hD hS
          · have hf := it_f hf c_y4_4
            by_cases c_y4_5 : v3 = (5 : Int32)
            · have hf := it_t hf c_y4_5
              obtain rfl := ey4.trans c_y4_5
              refine lv_tableIn (tgt := 117) hx hb dL_act_18 (by decide) (by decide) rfl (by decide) ?_
              refine lv_aload_n hx hb dL_act_117 rfl (lv_at hl 1 rfl) ?_
              refine lv_iload_n hx hb dL_act_118 rfl (lv_at hl 3 rfl) ?_
              refine lv_iconst (v := (4 : Int32)) hx hb dL_act_119 kc_iconst_4 ?_
              obtain ⟨v16, hv16, hf⟩ := it_b hf
              refine cTi (As := [.int x2, .int (4 : Int32)]) (rest := [.ref ka]) S (c_L_up l D cI cN _ x2 (4 : Int32) v16 hv16) (va_cwS 2 hts gL_act_L_up rfl rfl rfl (by decide +kernel) ⟨Nat.le_of_ble_eq_true rfl, Nat.le_of_ble_eq_true rfl⟩) hK hP hS hA (P_nil hP) rfl hl.1 rfl (Nat.le_of_ble_eq_true rfl) dL_act_120 ⟨Nat.zero_le _, Nat.zero_le _⟩ (fun H locs hP hS => ?_)
              obtain ⟨v17, hv17, hf⟩ := it_b hf
              refine cBi (As := [.int v16]) (rest := []) (q0 := 0) (ci := 5) [(true, (cxW ka (q 0) (qo 0) (qs 0) a3 (t 0) (h 0) (u 0) (kx.1 7)), (cxW ka (q 0) (qo 0) (qs 0) a3 (t 0) (h 0) (u 0) (kx.1 7))), (true, (hiW cI cN h hq hi), (hiW cI cN h hq v17.2.1)), (false, (txW cI u x), (txW cI u x)), (false, (nwW cI qo o), (nwW cI qo o)), (false, (nwW cI qs sn), (nwW cI qs sn)), (false, (rtW cI t r), (rtW cI t r)), (true, (nwW cI q n), (nwW cI q v17.2.2))] ⟨ad_cex, (fun h => Bool.noConfusion h), ad_his, (fun h => Bool.noConfusion h), rfl, (fun _ => rfl), rfl, (fun _ => rfl), rfl, (fun _ => rfl), rfl, (fun _ => rfl), ad_net, (fun h => Bool.noConfusion h), trivial⟩ S (c_X5_setChoiceRule l D cI cN ka (qo 0) (qs 0) a3 (t 0) (u 0) h hq q _ kx hi n v16 v17.1 v17.2.1 v17.2.2 hv17) (cwV 1 hts gL_act_X5_setChoiceRule rfl rfl rfl (by decide +kernel) ⟨Nat.le_of_ble_eq_true rfl, Nat.le_of_ble_eq_true rfl⟩) hK hP hD hS hA rfl rfl rfl hl.1 rfl (Nat.le_of_ble_eq_true rfl) dL_act_123 ⟨Nat.zero_le _, Nat.zero_le _⟩ (fun H locs hP hD hS => ?_)
              have e0 : v17.1 = r0 := congrArg (fun z => z.1) (Option.some.inj hf)
              have e1 : v17.2.1 = hi' := congrArg (fun z => z.2.1) (Option.some.inj hf)
              have e2 : o = o' := congrArg (fun z => z.2.2.1) (Option.some.inj hf)
              have e3 : r = r' := congrArg (fun z => z.2.2.2.1) (Option.some.inj hf)
              have e4 : v17.2.2 = n' := congrArg (fun z => z.2.2.2.2) (Option.some.inj hf)
              subst e0
              subst e1
              subst e2
              subst e3
              subst e4
              exact hret H locs ls _ dL_act_126 rfl hP hD hS
            · have hf := it_f hf c_y4_5
              by_cases c_y4_6 : v3 = (6 : Int32)
              · have hf := it_t hf c_y4_6
                obtain rfl := ey4.trans c_y4_6
                refine lv_tableIn (tgt := 127) hx hb dL_act_18 (by decide) (by decide) rfl (by decide) ?_
                refine lv_aload_n hx hb dL_act_127 rfl (lv_at hl 1 rfl) ?_
                refine lv_iload_n hx hb dL_act_128 rfl (lv_at hl 3 rfl) ?_
                refine lv_iconst (v := (3 : Int32)) hx hb dL_act_129 kc_iconst_3 ?_
                obtain ⟨v18, hv18, hf⟩ := it_b hf
                refine cTi (As := [.int x2, .int (3 : Int32)]) (rest := [.ref ka]) S (c_L_up l D cI cN _ x2 (3 : Int32) v18 hv18) (va_cwS 2 hts gL_act_L_up rfl rfl rfl (by decide +kernel) ⟨Nat.le_of_ble_eq_true rfl, Nat.le_of_ble_eq_true rfl⟩) hK hP hS hA (P_nil hP) rfl hl.1 rfl (Nat.le_of_ble_eq_true rfl) dL_act_130 ⟨Nat.zero_le _, Nat.zero_le _⟩ (fun H locs hP hS => ?_)
                obtain ⟨v19, hv19, hf⟩ := it_b hf
                refine cBi (As := [.int v18]) (rest := []) (q0 := 0) (ci := 5) [(true, (cxW ka (q 0) (qo 0) (qs 0) a3 (t 0) (h 0) (u 0) (kx.1 7)), (cxW ka (q 0) (qo 0) (qs 0) a3 (t 0) (h 0) (u 0) (kx.1 7))), (true, (hiW cI cN h hq hi), (hiW cI cN h hq v19.2.1)), (false, (txW cI u x), (txW cI u x)), (false, (nwW cI qo o), (nwW cI qo o)), (false, (nwW cI qs sn), (nwW cI qs sn)), (false, (rtW cI t r), (rtW cI t r)), (true, (nwW cI q n), (nwW cI q v19.2.2))] ⟨ad_cex, (fun h => Bool.noConfusion h), ad_his, (fun h => Bool.noConfusion h), rfl, (fun _ => rfl), rfl, (fun _ => rfl), rfl, (fun _ => rfl), rfl, (fun _ => rfl), ad_net, (fun h => Bool.noConfusion h), trivial⟩ S (c_X5_setPairRule l D cI cN ka (qo 0) (qs 0) a3 (t 0) (u 0) h hq q _ kx hi n v18 v19.1 v19.2.1 v19.2.2 hv19) (cwV 1 hts gL_act_X5_setPairRule rfl rfl rfl (by decide +kernel) ⟨Nat.le_of_ble_eq_true rfl, Nat.le_of_ble_eq_true rfl⟩) hK hP hD hS hA rfl rfl rfl hl.1 rfl (Nat.le_of_ble_eq_true rfl) dL_act_133 ⟨Nat.zero_le _, Nat.zero_le _⟩ (fun H locs hP hD hS => ?_)
                have e0 : v19.1 = r0 := congrArg (fun z => z.1) (Option.some.inj hf)
                have e1 : v19.2.1 = hi' := congrArg (fun z => z.2.1) (Option.some.inj hf)
                have e2 : o = o' := congrArg (fun z => z.2.2.1) (Option.some.inj hf)
                have e3 : r = r' := congrArg (fun z => z.2.2.2.1) (Option.some.inj hf)
                have e4 : v19.2.2 = n' := congrArg (fun z => z.2.2.2.2) (Option.some.inj hf)
                subst e0
                subst e1
                subst e2
                subst e3
                subst e4
                exact hret H locs ls _ dL_act_136 rfl hP hD hS
              · have hf := it_f hf c_y4_6
                by_cases c_y4_7 : v3 = (7 : Int32)
                · have hf := it_t hf c_y4_7
                  obtain rfl := ey4.trans c_y4_7
                  refine lv_tableIn (tgt := 137) hx hb dL_act_18 (by decide) (by decide) rfl (by decide) ?_
                  refine lv_iload_n hx hb dL_act_137 rfl (lv_at hl 3 rfl) ?_
                  refine lv_iconst (v := (3 : Int32)) hx hb dL_act_138 kc_iconst_3 ?_
                  refine lv_iand hx hb dL_act_139 ?_
                  refine lv_if_ne (tgt := 181) hx hb dL_act_140 (by decide) (fun c20 => ?_) (fun c20 => ?_)
                  · have hf := it_f hf c20
                    refine lv_aload_n hx hb dL_act_181 rfl (lv_at hl 1 rfl) ?_
                    refine lv_iload_n hx hb dL_act_182 rfl (lv_at hl 3 rfl) ?_
                    refine lv_iload_n hx hb dL_act_183 rfl (lv_at hl 0 rfl) ?_
                    obtain ⟨v21, hv21, hf⟩ := it_b hf
                    refine cTi (As := [.int x2, .int (v1 * v2)]) (rest := [.ref ka]) S (c_L_up l D cI cN _ x2 (v1 * v2) v21 hv21) (va_cwS 2 hts gL_act_L_up rfl rfl rfl (by decide +kernel) ⟨Nat.le_of_ble_eq_true rfl, Nat.le_of_ble_eq_true rfl⟩) hK hP hS hA (P_nil hP) rfl hl.1 rfl (Nat.le_of_ble_eq_true rfl) dL_act_184 ⟨Nat.zero_le _, Nat.zero_le _⟩ (fun H locs hP hS => ?_)
                    refine lv_iload_n hx hb dL_act_187 rfl (lv_at hl 3 rfl) ?_
                    refine lv_bipush (v := (7 : Int32)) hx hb dL_act_188 kc_bipush_7 ?_
                    refine lv_ishr hx hb dL_act_190 ?_
                    refine lv_iload_n hx hb dL_act_191 rfl (lv_at hl 0 rfl) ?_
                    obtain ⟨v22, hv22, hf⟩ := it_b hf
                    refine cTi (As := [.int (x2 >>> ((7 : Int32) &&& 31)), .int (v1 * v2)]) (rest := [.int v21, .ref ka]) S (c_L_up l D cI cN _ (x2 >>> ((7 : Int32) &&& 31)) (v1 * v2) v22 hv22) (va_cwS 2 hts gL_act_L_up rfl rfl rfl (by decide +kernel) ⟨Nat.le_of_ble_eq_true rfl, Nat.le_of_ble_eq_true rfl⟩) hK hP hS hA (P_nil hP) rfl hl.1 rfl (Nat.le_of_ble_eq_true rfl) dL_act_192 ⟨Nat.zero_le _, Nat.zero_le _⟩ (fun H locs hP hS => ?_)
                    obtain ⟨v23, hv23, hf⟩ := it_b hf
                    refine cBi (As := [.int v21, .int v22]) (rest := []) (q0 := 0) (ci := 5) [(true, (cxW ka (q 0) (qo 0) (qs 0) a3 (t 0) (h 0) (u 0) (kx.1 7)), (cxW ka (q 0) (qo 0) (qs 0) a3 (t 0) (h 0) (u 0) (kx.1 7))), (true, (hiW cI cN h hq hi), (hiW cI cN h hq v23.2.1)), (false, (txW cI u x), (txW cI u x)), (true, (nwW cI qo o), (nwW cI qo v23.2.2.1)), (false, (nwW cI qs sn), (nwW cI qs sn)), (true, (rtW cI t r), (rtW cI t v23.2.2.2.1)), (true, (nwW cI q n), (nwW cI q v23.2.2.2.2))] ⟨ad_cex, (fun h => Bool.noConfusion h), ad_his, (fun h => Bool.noConfusion h), rfl, (fun _ => rfl), ad_net, (fun h => Bool.noConfusion h), rfl, (fun _ => rfl), ad_rtr, (fun h => Bool.noConfusion h), ad_net, (fun h => Bool.noConfusion h), trivial⟩ S (c_X5_connect l D cI cN ka (qs 0) a3 (u 0) h hq qo t q _ kx hi o r n v21 v22 v23.1 v23.2.1 v23.2.2.1 v23.2.2.2.1 v23.2.2.2.2 hv23) (cwV 2 hts gL_act_X5_connect rfl rfl rfl (by decide +kernel) ⟨Nat.le_of_ble_eq_true rfl, Nat.le_of_ble_eq_true rfl⟩) hK hP hD hS hA rfl rfl rfl hl.1 rfl (Nat.le_of_ble_eq_true rfl) dL_act_195 ⟨Nat.zero_le _, Nat.zero_le _⟩ (fun H locs hP hD hS => ?_)
                    have e0 : v23.1 = r0 := congrArg (fun z => z.1) (Option.some.inj hf)
                    have e1 : v23.2.1 = hi' := congrArg (fun z => z.2.1) (Option.some.inj hf)
                    have e2 : v23.2.2.1 = o' := congrArg (fun z => z.2.2.1) (Option.some.inj hf)
                    have e3 : v23.2.2.2.1 = r' := congrArg (fun z => z.2.2.2.1) (Option.some.inj hf)
                    have e4 : v23.2.2.2.2 = n' := congrArg (fun z => z.2.2.2.2) (Option.some.inj hf)
                    subst e0
                    subst e1
                    subst e2
                    subst e3
                    subst e4
                    exact hret H locs ls _ dL_act_198 rfl hP hD hS
                  · have hf := it_t hf c20
                    refine lv_aload_n hx hb dL_act_143 rfl (lv_at hl 1 rfl) ?_
                    refine lv_iconst (v := (1 : Int32)) hx hb dL_act_144 kc_iconst_1 ?_
                    refine lv_iload_n hx hb dL_act_145 rfl (lv_at hl 3 rfl) ?_
                    refine lv_iconst (v := (2 : Int32)) hx hb dL_act_146 kc_iconst_2 ?_
                    refine lv_ishr hx hb dL_act_147 ?_
                    refine lv_bipush (v := (8 : Int32)) hx hb dL_act_148 kc_bipush_8 ?_
                    obtain ⟨v24, hv24, hf⟩ := it_b hf
                    refine cTi (As := [.int (x2 >>> ((2 : Int32) &&& 31)), .int (8 : Int32)]) (rest := [.int (1 : Int32), .ref ka]) S (c_L_up l D cI cN _ (x2 >>> ((2 : Int32) &&& 31)) (8 : Int32) v24 hv24) (va_cwS 2 hts gL_act_L_up rfl rfl rfl (by decide +kernel) ⟨Nat.le_of_ble_eq_true rfl, Nat.le_of_ble_eq_true rfl⟩) hK hP hS hA (P_nil hP) rfl hl.1 rfl (Nat.le_of_ble_eq_true rfl) dL_act_150 ⟨Nat.zero_le _, Nat.zero_le _⟩ (fun H locs hP hS => ?_)
                    refine lv_iadd hx hb dL_act_153 ?_
                    refine lv_iconst (v := (1 : Int32)) hx hb dL_act_154 kc_iconst_1 ?_
                    refine lv_iload_n hx hb dL_act_155 rfl (lv_at hl 3 rfl) ?_
                    refine lv_iconst (v := (5 : Int32)) hx hb dL_act_156 kc_iconst_5 ?_
                    refine lv_ishr hx hb dL_act_157 ?_
                    refine lv_bipush (v := (6 : Int32)) hx hb dL_act_158 kc_bipush_6 ?_
                    obtain ⟨v25, hv25, hf⟩ := it_b hf
                    refine cTi (As := [.int (x2 >>> ((5 : Int32) &&& 31)), .int (6 : Int32)]) (rest := [.int (1 : Int32), .int ((1 : Int32) + v24), .ref ka]) S (c_L_up l D cI cN _ (x2 >>> ((5 : Int32) &&& 31)) (6 : Int32) v25 hv25) (va_cwS 2 hts gL_act_L_up rfl rfl rfl (by decide +kernel) ⟨Nat.le_of_ble_eq_true rfl, Nat.le_of_ble_eq_true rfl⟩) hK hP hS hA (P_nil hP) rfl hl.1 rfl (Nat.le_of_ble_eq_true rfl) dL_act_160 ⟨Nat.zero_le _, Nat.zero_le _⟩ (fun H locs hP hS => ?_)
                    refine lv_iadd hx hb dL_act_163 ?_
                    refine lv_iconst (v := (1 : Int32)) hx hb dL_act_164 kc_iconst_1 ?_
                    refine lv_iload_n hx hb dL_act_165 rfl (lv_at hl 3 rfl) ?_
                    refine lv_bipush (v := (8 : Int32)) hx hb dL_act_166 kc_bipush_8 ?_
                    refine lv_ishr hx hb dL_act_168 ?_
                    refine lv_bipush (v := (8 : Int32)) hx hb dL_act_169 kc_bipush_8 ?_
                    obtain ⟨v26, hv26, hf⟩ := it_b hf
                    refine cTi (As := [.int (x2 >>> ((8 : Int32) &&& 31)), .int (8 : Int32)]) (rest := [.int (1 : Int32), .int ((1 : Int32) + v25), .int ((1 : Int32) + v24), .ref ka]) S (c_L_up l D cI cN _ (x2 >>> ((8 : Int32) &&& 31)) (8 : Int32) v26 hv26) (va_cwS 2 hts gL_act_L_up rfl rfl rfl (by decide +kernel) ⟨Nat.le_of_ble_eq_true rfl, Nat.le_of_ble_eq_true rfl⟩) hK hP hS hA (P_nil hP) rfl hl.1 rfl (Nat.le_of_ble_eq_true rfl) dL_act_171 ⟨Nat.zero_le _, Nat.zero_le _⟩ (fun H locs hP hS => ?_)
                    refine lv_iadd hx hb dL_act_174 ?_
                    obtain ⟨v27, hv27, hf⟩ := it_b hf
                    refine cBi (As := [.int ((1 : Int32) + v24), .int ((1 : Int32) + v25), .int ((1 : Int32) + v26)]) (rest := []) (q0 := 0) (ci := 5) [(true, (cxW ka (q 0) (qo 0) (qs 0) a3 (t 0) (h 0) (u 0) (kx.1 7)), (cxW ka (q 0) (qo 0) (qs 0) a3 (t 0) (h 0) (u 0) (kx.1 7))), (true, (hiW cI cN h hq hi), (hiW cI cN h hq v27.2.1)), (false, (txW cI u x), (txW cI u x)), (false, (nwW cI qo o), (nwW cI qo o)), (false, (nwW cI qs sn), (nwW cI qs sn)), (false, (rtW cI t r), (rtW cI t r)), (true, (nwW cI q n), (nwW cI q v27.2.2))] ⟨ad_cex, (fun h => Bool.noConfusion h), ad_his, (fun h => Bool.noConfusion h), rfl, (fun _ => rfl), rfl, (fun _ => rfl), rfl, (fun _ => rfl), rfl, (fun _ => rfl), ad_net, (fun h => Bool.noConfusion h), trivial⟩ S (c_X5_setUp l D cI cN ka (qo 0) (qs 0) a3 (t 0) (u 0) h hq q _ kx hi n ((1 : Int32) + v24) ((1 : Int32) + v25) ((1 : Int32) + v26) v27.1 v27.2.1 v27.2.2 hv27) (cwV 3 hts gL_act_X5_setUp rfl rfl rfl (by decide +kernel) ⟨Nat.le_of_ble_eq_true rfl, Nat.le_of_ble_eq_true rfl⟩) hK hP hD hS hA rfl rfl rfl hl.1 rfl (Nat.le_of_ble_eq_true rfl) dL_act_175 ⟨Nat.zero_le _, Nat.zero_le _⟩ (fun H locs hP hD hS => ?_)
                    refine lv_goto (tgt := 198) hx hb dL_act_178 (by decide) ?_
                    have e0 : v27.1 = r0 := congrArg (fun z => z.1) (Option.some.inj hf)
                    have e1 : v27.2.1 = hi' := congrArg (fun z => z.2.1) (Option.some.inj hf)
                    have e2 : o = o' := congrArg (fun z => z.2.2.1) (Option.some.inj hf)
                    have e3 : r = r' := congrArg (fun z => z.2.2.2.1) (Option.some.inj hf)
                    have e4 : v27.2.2 = n' := congrArg (fun z => z.2.2.2.2) (Option.some.inj hf)
                    subst e0
                    subst e1
                    subst e2
                    subst e3
                    subst e4
                    exact hret H locs ls _ dL_act_198 rfl hP hD hS
                · have hf := it_f hf c_y4_7
                  by_cases c_y4_8 : v3 = (8 : Int32)
                  · have hf := it_t hf c_y4_8
                    obtain rfl := ey4.trans c_y4_8
                    refine lv_tableIn (tgt := 199) hx hb dL_act_18 (by decide) (by decide) rfl (by decide) ?_
                    refine lv_iload_n hx hb dL_act_199 rfl (lv_at hl 3 rfl) ?_
                    refine lv_iconst (v := (3 : Int32)) hx hb dL_act_200 kc_iconst_3 ?_
                    refine lv_iand hx hb dL_act_201 ?_
                    refine lv_if_ne (tgt := 212) hx hb dL_act_202 (by decide) (fun c28 => ?_) (fun c28 => ?_)
                    · have hf := it_f hf c28
                      refine lv_aload_n hx hb dL_act_212 rfl (lv_at hl 1 rfl) ?_
                      refine lv_iload_n hx hb dL_act_213 rfl (lv_at hl 3 rfl) ?_
                      refine lv_iload_n hx hb dL_act_214 rfl (lv_at hl 0 rfl) ?_
                      obtain ⟨v29, hv29, hf⟩ := it_b hf
                      refine cTi (As := [.int x2, .int (v1 * v2)]) (rest := [.ref ka]) S (c_L_up l D cI cN _ x2 (v1 * v2) v29 hv29) (va_cwS 2 hts gL_act_L_up rfl rfl rfl (by decide +kernel) ⟨Nat.le_of_ble_eq_true rfl, Nat.le_of_ble_eq_true rfl⟩) hK hP hS hA (P_nil hP) rfl hl.1 rfl (Nat.le_of_ble_eq_true rfl) dL_act_215 ⟨Nat.zero_le _, Nat.zero_le _⟩ (fun H locs hP hS => ?_)
                      refine lv_iload_n hx hb dL_act_218 rfl (lv_at hl 3 rfl) ?_
                      refine lv_bipush (v := (7 : Int32)) hx hb dL_act_219 kc_bipush_7 ?_
                      refine lv_ishr hx hb dL_act_221 ?_
                      refine lv_iload_n hx hb dL_act_222 rfl (lv_at hl 0 rfl) ?_
                      obtain ⟨v30, hv30, hf⟩ := it_b hf
                      refine cTi (As := [.int (x2 >>> ((7 : Int32) &&& 31)), .int (v1 * v2)]) (rest := [.int v29, .ref ka]) S (c_L_up l D cI cN _ (x2 >>> ((7 : Int32) &&& 31)) (v1 * v2) v30 hv30) (va_cwS 2 hts gL_act_L_up rfl rfl rfl (by decide +kernel) ⟨Nat.le_of_ble_eq_true rfl, Nat.le_of_ble_eq_true rfl⟩) hK hP hS hA (P_nil hP) rfl hl.1 rfl (Nat.le_of_ble_eq_true rfl) dL_act_223 ⟨Nat.zero_le _, Nat.zero_le _⟩ (fun H locs hP hS => ?_)
                      obtain ⟨v31, hv31, hf⟩ := it_b hf
                      refine cBi (As := [.int v29, .int v30]) (rest := []) (q0 := 0) (ci := 5) [(true, (cxW ka (q 0) (qo 0) (qs 0) a3 (t 0) (h 0) (u 0) (kx.1 7)), (cxW ka (q 0) (qo 0) (qs 0) a3 (t 0) (h 0) (u 0) (kx.1 7))), (true, (hiW cI cN h hq hi), (hiW cI cN h hq v31.2.1)), (false, (txW cI u x), (txW cI u x)), (true, (nwW cI qo o), (nwW cI qo v31.2.2.1)), (false, (nwW cI qs sn), (nwW cI qs sn)), (true, (rtW cI t r), (rtW cI t v31.2.2.2.1)), (true, (nwW cI q n), (nwW cI q v31.2.2.2.2))] ⟨ad_cex, (fun h => Bool.noConfusion h), ad_his, (fun h => Bool.noConfusion h), rfl, (fun _ => rfl), ad_net, (fun h => Bool.noConfusion h), rfl, (fun _ => rfl), ad_rtr, (fun h => Bool.noConfusion h), ad_net, (fun h => Bool.noConfusion h), trivial⟩ S (c_X5_connect l D cI cN ka (qs 0) a3 (u 0) h hq qo t q _ kx hi o r n v29 v30 v31.1 v31.2.1 v31.2.2.1 v31.2.2.2.1 v31.2.2.2.2 hv31) (cwV 2 hts gL_act_X5_connect rfl rfl rfl (by decide +kernel) ⟨Nat.le_of_ble_eq_true rfl, Nat.le_of_ble_eq_true rfl⟩) hK hP hD hS hA rfl rfl rfl hl.1 rfl (Nat.le_of_ble_eq_true rfl) dL_act_226 ⟨Nat.zero_le _, Nat.zero_le _⟩ (fun H locs hP hD hS => ?_)
                      have e0 : v31.1 = r0 := congrArg (fun z => z.1) (Option.some.inj hf)
                      have e1 : v31.2.1 = hi' := congrArg (fun z => z.2.1) (Option.some.inj hf)
                      have e2 : v31.2.2.1 = o' := congrArg (fun z => z.2.2.1) (Option.some.inj hf)
                      have e3 : v31.2.2.2.1 = r' := congrArg (fun z => z.2.2.2.1) (Option.some.inj hf)
                      have e4 : v31.2.2.2.2 = n' := congrArg (fun z => z.2.2.2.2) (Option.some.inj hf)
                      subst e0
                      subst e1
                      subst e2
                      subst e3
                      subst e4
                      exact hret H locs ls _ dL_act_229 rfl hP hD hS
                    · have hf := it_t hf c28
                      refine lv_aload_n hx hb dL_act_205 rfl (lv_at hl 1 rfl) ?_
                      obtain ⟨v32, hv32, hf⟩ := it_b hf
                      refine cBi (As := []) (rest := []) (q0 := 0) (ci := 5) [(true, (cxW ka (q 0) (qo 0) (qs 0) a3 (t 0) (h 0) (u 0) (kx.1 7)), (cxW ka (q 0) (qo 0) (qs 0) a3 (t 0) (h 0) (u 0) (kx.1 7))), (true, (hiW cI cN h hq hi), (hiW cI cN h hq v32.2.1)), (false, (txW cI u x), (txW cI u x)), (false, (nwW cI qo o), (nwW cI qo o)), (true, (nwW cI qs sn), (nwW cI qs sn)), (false, (rtW cI t r), (rtW cI t r)), (true, (nwW cI q n), (nwW cI q v32.2.2))] ⟨ad_cex, (fun h => Bool.noConfusion h), ad_his, (fun h => Bool.noConfusion h), rfl, (fun _ => rfl), rfl, (fun _ => rfl), ad_net, (fun h => Bool.noConfusion h), rfl, (fun _ => rfl), ad_net, (fun h => Bool.noConfusion h), trivial⟩ S (c_X5_restore l D cI cN ka (qo 0) a3 (t 0) (u 0) h hq qs q _ kx hi sn n v32.1 v32.2.1 v32.2.2 hv32) (cwV 0 hts gL_act_X5_restore rfl rfl rfl (by decide +kernel) ⟨Nat.le_of_ble_eq_true rfl, Nat.le_of_ble_eq_true rfl⟩) hK hP hD hS hA rfl rfl rfl hl.1 rfl (Nat.le_of_ble_eq_true rfl) dL_act_206 ⟨Nat.zero_le _, Nat.zero_le _⟩ (fun H locs hP hD hS => ?_)
                      refine lv_goto (tgt := 229) hx hb dL_act_209 (by decide) ?_
                      have e0 : v32.1 = r0 := congrArg (fun z => z.1) (Option.some.inj hf)
                      have e1 : v32.2.1 = hi' := congrArg (fun z => z.2.1) (Option.some.inj hf)
                      have e2 : o = o' := congrArg (fun z => z.2.2.1) (Option.some.inj hf)
                      have e3 : r = r' := congrArg (fun z => z.2.2.2.1) (Option.some.inj hf)
                      have e4 : v32.2.2 = n' := congrArg (fun z => z.2.2.2.2) (Option.some.inj hf)
                      subst e0
                      subst e1
                      subst e2
                      subst e3
                      subst e4
                      exact hret H locs ls _ dL_act_229 rfl hP hD hS
                  · have hf := it_f hf c_y4_8
                    refine lv_tableOut (tgt := 230) hx hb dL_act_18 (by have h0 := lv_neT (x := y4) (fun h => c_y4_0 (ey4.symm.trans h)) (a := 0) (by decide); have h1 := lv_neT (x := y4) (fun h => c_y4_1 (ey4.symm.trans h)) (a := 1) (by decide); have h2 := lv_neT (x := y4) (fun h => c_y4_2 (ey4.symm.trans h)) (a := 2) (by decide); have h3 := lv_neT (x := y4) (fun h => c_y4_3 (ey4.symm.trans h)) (a := 3) (by decide); have h4 := lv_neT (x := y4) (fun h => c_y4_4 (ey4.symm.trans h)) (a := 4) (by decide); have h5 := lv_neT (x := y4) (fun h => c_y4_5 (ey4.symm.trans h)) (a := 5) (by decide); have h6 := lv_neT (x := y4) (fun h => c_y4_6 (ey4.symm.trans h)) (a := 6) (by decide); have h7 := lv_neT (x := y4) (fun h => c_y4_7 (ey4.symm.trans h)) (a := 7) (by decide); have h8 := lv_neT (x := y4) (fun h => c_y4_8 (ey4.symm.trans h)) (a := 8) (by decide); omega) (by decide) ?_
                    refine lv_aload_n hx hb dL_act_230 rfl (lv_at hl 1 rfl) ?_
                    refine lv_iload_n hx hb dL_act_231 rfl (lv_at hl 3 rfl) ?_
                    refine lv_iload_n hx hb dL_act_232 rfl (lv_at hl 0 rfl) ?_
                    refine lv_iconst (v := (1 : Int32)) hx hb dL_act_233 kc_iconst_1 ?_
                    refine lv_iadd hx hb dL_act_234 ?_
                    obtain ⟨v33, hv33, hf⟩ := it_b hf
                    refine cTi (As := [.int x2, .int ((v1 * v2) + (1 : Int32))]) (rest := [.ref ka]) S (c_L_up l D cI cN _ x2 ((v1 * v2) + (1 : Int32)) v33 hv33) (va_cwS 2 hts gL_act_L_up rfl rfl rfl (by decide +kernel) ⟨Nat.le_of_ble_eq_true rfl, Nat.le_of_ble_eq_true rfl⟩) hK hP hS hA (P_nil hP) rfl hl.1 rfl (Nat.le_of_ble_eq_true rfl) dL_act_235 ⟨Nat.zero_le _, Nat.zero_le _⟩ (fun H locs hP hS => ?_)
                    refine lv_iload_n hx hb dL_act_238 rfl (lv_at hl 3 rfl) ?_
                    refine lv_bipush (v := (7 : Int32)) hx hb dL_act_239 kc_bipush_7 ?_
                    refine lv_ishr hx hb dL_act_241 ?_
                    refine lv_iload_n hx hb dL_act_242 rfl (lv_at hl 0 rfl) ?_
                    refine lv_iconst (v := (1 : Int32)) hx hb dL_act_243 kc_iconst_1 ?_
                    refine lv_iadd hx hb dL_act_244 ?_
                    obtain ⟨v34, hv34, hf⟩ := it_b hf
                    refine cTi (As := [.int (x2 >>> ((7 : Int32) &&& 31)), .int ((v1 * v2) + (1 : Int32))]) (rest := [.int v33, .ref ka]) S (c_L_up l D cI cN _ (x2 >>> ((7 : Int32) &&& 31)) ((v1 * v2) + (1 : Int32)) v34 hv34) (va_cwS 2 hts gL_act_L_up rfl rfl rfl (by decide +kernel) ⟨Nat.le_of_ble_eq_true rfl, Nat.le_of_ble_eq_true rfl⟩) hK hP hS hA (P_nil hP) rfl hl.1 rfl (Nat.le_of_ble_eq_true rfl) dL_act_245 ⟨Nat.zero_le _, Nat.zero_le _⟩ (fun H locs hP hS => ?_)
                    obtain ⟨v35, hv35, hf⟩ := it_b hf
                    refine cBi (As := [.int v33, .int v34]) (rest := []) (q0 := 0) (ci := 5) [(true, (cxW ka (q 0) (qo 0) (qs 0) a3 (t 0) (h 0) (u 0) (kx.1 7)), (cxW ka (q 0) (qo 0) (qs 0) a3 (t 0) (h 0) (u 0) (kx.1 7))), (true, (hiW cI cN h hq hi), (hiW cI cN h hq v35.2.1)), (false, (txW cI u x), (txW cI u x)), (true, (nwW cI qo o), (nwW cI qo v35.2.2.1)), (false, (nwW cI qs sn), (nwW cI qs sn)), (true, (rtW cI t r), (rtW cI t v35.2.2.2.1)), (true, (nwW cI q n), (nwW cI q v35.2.2.2.2))] ⟨ad_cex, (fun h => Bool.noConfusion h), ad_his, (fun h => Bool.noConfusion h), rfl, (fun _ => rfl), ad_net, (fun h => Bool.noConfusion h), rfl, (fun _ => rfl), ad_rtr, (fun h => Bool.noConfusion h), ad_net, (fun h => Bool.noConfusion h), trivial⟩ S (c_X5_connect l D cI cN ka (qs 0) a3 (u 0) h hq qo t q _ kx hi o r n v33 v34 v35.1 v35.2.1 v35.2.2.1 v35.2.2.2.1 v35.2.2.2.2 hv35) (cwV 2 hts gL_act_X5_connect rfl rfl rfl (by decide +kernel) ⟨Nat.le_of_ble_eq_true rfl, Nat.le_of_ble_eq_true rfl⟩) hK hP hD hS hA rfl rfl rfl hl.1 rfl (Nat.le_of_ble_eq_true rfl) dL_act_248 ⟨Nat.zero_le _, Nat.zero_le _⟩ (fun H locs hP hD hS => ?_)
                    have e0 : v35.1 = r0 := congrArg (fun z => z.1) (Option.some.inj hf)
                    have e1 : v35.2.1 = hi' := congrArg (fun z => z.2.1) (Option.some.inj hf)
                    have e2 : v35.2.2.1 = o' := congrArg (fun z => z.2.2.1) (Option.some.inj hf)
                    have e3 : v35.2.2.2.1 = r' := congrArg (fun z => z.2.2.2.1) (Option.some.inj hf)
                    have e4 : v35.2.2.2.2 = n' := congrArg (fun z => z.2.2.2.2) (Option.some.inj hf)
                    subst e0
                    subst e1
                    subst e2
                    subst e3
                    subst e4
                    exact hret H locs ls _ dL_act_251 rfl hP hD hS
set_option maxRecDepth 100000 in
theorem c_L_act (l : Launch) (D : va_G) (cI cN : ClassId) (ka a3 : Nat) (h : Nat → Nat) (hq : Nat → Nat → Nat) (u : Nat → Nat) (qo : Nat → Nat) (qs : Nat → Nat) (t : Nat → Nat) (q : Nat → Nat) (sz : Nat) (kx : OS) (hi : HS) (x : OS) (o : OS) (sn : OS) (r : OS) (n : OS) (x1 : Int32) (x2 : Int32) (r0 : Int32) (hi' : HS) (o' : OS) (r' : OS) (n' : OS) (hf : fL_act kx hi x o sn r n x1 x2 = some (r0, hi', o', r', n')) : CtI l D cI cN yL_act wsL_act rm_L_act 0 0 [.ref ka, .int x1, .int x2] ((cxW ka (q 0) (qo 0) (qs 0) a3 (t 0) (h 0) (u 0) (kx.1 7)) ++ ((hiW cI cN h hq hi) ++ ((txW cI u x) ++ ((nwW cI qo o) ++ ((nwW cI qs sn) ++ ((rtW cI t r) ++ (nwW cI q n))))))) sz r0 ((cxW ka (q 0) (qo 0) (qs 0) a3 (t 0) (h 0) (u 0) (kx.1 7)) ++ ((hiW cI cN h hq hi') ++ ((txW cI u x) ++ ((nwW cI qo o') ++ ((nwW cI qs sn) ++ ((rtW cI t r') ++ (nwW cI q n'))))))) := by
  refine mW (cc := cL_act) (maxL := 4) (ty := .int) (by decide) rfl rfl (Nat.le_of_ble_eq_true rfl) ?_
  intro p e s m args below meth c Q A S hK hP hD hS hA hret ls hl
  exact w_L_act_0 S hK hA hret hf _ _ _ hP hD hS (lv_sub (show lv_has ls 4 [(0, .ref ka), (1, .int x1), (2, .int x2)] from hl) [0, 1, 2] rfl)
