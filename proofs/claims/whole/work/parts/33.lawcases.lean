set_option maxRecDepth 100000 in
set_option maxHeartbeats 4000000 in
theorem lc_0 {p : Program} {l : Launch} {e : Env} {s : State} {m : MethodId} {below : List Frame} {meth : Method} {c : Code} {Q : State → Prop} {D : va_G} {cI cN : ClassId} {A : Nat → Prop} {b L : Nat} {xs : Nat → Int32} {a : Nat} {v w : Nat → Nat → Nat} {z : Nat → Nat} (S : CallFix p m c cL_law 4 s #[Value.ref b] wsL_law RL) (hK : KN D cI cN s) (hA : ∀ q : Nat, s.heap.size ≤ q → A q) (hX : va_X b L xs s s.heap) (hbl : b < s.heap.size) (hbA : ¬ A b) {i : Nat} (hi4 : i + 4 ≤ L) (hL : L ≤ 2048) {kx : OS} {hi : HS} {x o sn r tr n g : OS} {hi' : HS} {n' : OS} {g' : OS} {r0 : Int32} {a1 a2 a3 : Int32} (ea1 : xs (i + 1) = a1) (ea2 : xs (i + 2) = a2) (ea3 : xs (i + 3) = a3) (h5 : fX5_setUp kx hi n a1 a2 a3 = some (r0, hi', n')) (h6 : fX6_setUp g a1 a2 a3 = some (r0, g')) (H : Heap) (locs : List Loc) (ls : Array Slot) (hP : va_P D vwCl ((cxW a (v 0 0) (v 1 0) (v 2 0) (v 3 0) (v 4 0) (v 5 0) (v 6 0) (kx.1 7)) ++ ((hiW cI cN (v 5) w hi) ++ ((txW cI (v 6) x) ++ ((nwW cI (v 1) o) ++ ((nwW cI (v 2) sn) ++ ((rtW cI (v 4) r) ++ ((nwW cI (v 3) tr) ++ ((nwW cI (v 0) n) ++ (mdW cI z g))))))))) H) (hD : va_D A ((cxW a (v 0 0) (v 1 0) (v 2 0) (v 3 0) (v 4 0) (v 5 0) (v 6 0) (kx.1 7)) ++ ((hiW cI cN (v 5) w hi) ++ ((txW cI (v 6) x) ++ ((nwW cI (v 1) o) ++ ((nwW cI (v 2) sn) ++ ((rtW cI (v 4) r) ++ ((nwW cI (v 3) tr) ++ ((nwW cI (v 0) n) ++ (mdW cI z g)))))))))) (hS : va_S A s.heap H locs) (hl : lv_has ls 4 [(0, .ref b), (1, .ref a), (2, .ref (z 0)), (3, .int (nI i))]) (kk : ∀ (H : Heap) (locs : List Loc) (ls : Array Slot), va_P D vwCl ((cxW a (v 0 0) (v 1 0) (v 2 0) (v 3 0) (v 4 0) (v 5 0) (v 6 0) (kx.1 7)) ++ ((hiW cI cN (v 5) w hi') ++ ((txW cI (v 6) x) ++ ((nwW cI (v 1) o) ++ ((nwW cI (v 2) sn) ++ ((rtW cI (v 4) r) ++ ((nwW cI (v 3) tr) ++ ((nwW cI (v 0) n') ++ (mdW cI z g'))))))))) H → va_D A ((cxW a (v 0 0) (v 1 0) (v 2 0) (v 3 0) (v 4 0) (v 5 0) (v 6 0) (kx.1 7)) ++ ((hiW cI cN (v 5) w hi') ++ ((txW cI (v 6) x) ++ ((nwW cI (v 1) o) ++ ((nwW cI (v 2) sn) ++ ((rtW cI (v 4) r) ++ ((nwW cI (v 3) tr) ++ ((nwW cI (v 0) n') ++ (mdW cI z g'))))))))) → va_S A s.heap H locs → lv_has ls 4 [(0, .ref b), (1, .ref a), (2, .ref (z 0)), (3, .int (nI i))] → W p l e room_1 s m #[Value.ref b] below meth c H locs 120 4135 Q (F0 m 924 ls [])) : W p l e room_1 s m #[Value.ref b] below meth c H locs 120 4135 Q (F0 m 176 ls []) := by
  obtain ⟨hx, hb, hml, hown, hts⟩ := id S
  have ei1 : nI i + (1 : Int32) = nI (i + 1) := by rw [show (1 : Int32) = nI 1 from rfl, nI_add]
  have hin1 : vp_in (nI (i + 1)) L := vp_in_nI (by omega) (by omega)
  have ec1 : (nI (i + 1)).toNatClampNeg = i + 1 := nI_clamp (by omega)
  have ei2 : nI i + (2 : Int32) = nI (i + 2) := by rw [show (2 : Int32) = nI 2 from rfl, nI_add]
  have hin2 : vp_in (nI (i + 2)) L := vp_in_nI (by omega) (by omega)
  have ec2 : (nI (i + 2)).toNatClampNeg = i + 2 := nI_clamp (by omega)
  have ei3 : nI i + (3 : Int32) = nI (i + 3) := by rw [show (3 : Int32) = nI 3 from rfl, nI_add]
  have hin3 : vp_in (nI (i + 3)) L := vp_in_nI (by omega) (by omega)
  have ec3 : (nI (i + 3)).toNatClampNeg = i + 3 := nI_clamp (by omega)
  refine lv_aload_n hx hb dL_law_176 rfl (lv_at hl 1 rfl) ?_
  refine lv_aload_n hx hb dL_law_177 rfl (lv_at hl 0 rfl) ?_
  refine lv_iload_n hx hb dL_law_178 rfl (lv_at hl 3 rfl) ?_
  refine lv_iconst (v := (1 : Int32)) hx hb dL_law_179 kc_iconst_1 ?_
  refine lv_iadd hx hb dL_law_180 ?_
  rw [ei1]
  refine va_sld hx hb hX hbl hbA hS hin1 dL_law_181 ?_
  rw [ec1, ea1]
  refine lv_aload_n hx hb dL_law_182 rfl (lv_at hl 0 rfl) ?_
  refine lv_iload_n hx hb dL_law_183 rfl (lv_at hl 3 rfl) ?_
  refine lv_iconst (v := (2 : Int32)) hx hb dL_law_184 kc_iconst_2 ?_
  refine lv_iadd hx hb dL_law_185 ?_
  rw [ei2]
  refine va_sld hx hb hX hbl hbA hS hin2 dL_law_186 ?_
  rw [ec2, ea2]
  refine lv_aload_n hx hb dL_law_187 rfl (lv_at hl 0 rfl) ?_
  refine lv_iload_n hx hb dL_law_188 rfl (lv_at hl 3 rfl) ?_
  refine lv_iconst (v := (3 : Int32)) hx hb dL_law_189 kc_iconst_3 ?_
  refine lv_iadd hx hb dL_law_190 ?_
  rw [ei3]
  refine va_sld hx hb hX hbl hbA hS hin3 dL_law_191 ?_
  rw [ec3, ea3]
  refine cBi (As := [.int a1, .int a2, .int a3]) (rest := []) (q0 := 0) (ci := 5) [(true, (cxW a (v 0 0) (v 1 0) (v 2 0) (v 3 0) (v 4 0) (v 5 0) (v 6 0) (kx.1 7)), (cxW a (v 0 0) (v 1 0) (v 2 0) (v 3 0) (v 4 0) (v 5 0) (v 6 0) (kx.1 7))), (true, (hiW cI cN (v 5) w hi), (hiW cI cN (v 5) w hi')), (false, (txW cI (v 6) x), (txW cI (v 6) x)), (false, (nwW cI (v 1) o), (nwW cI (v 1) o)), (false, (nwW cI (v 2) sn), (nwW cI (v 2) sn)), (false, (rtW cI (v 4) r), (rtW cI (v 4) r)), (false, (nwW cI (v 3) tr), (nwW cI (v 3) tr)), (true, (nwW cI (v 0) n), (nwW cI (v 0) n')), (false, (mdW cI z g), (mdW cI z g))] ⟨ad_cex, (fun h => Bool.noConfusion h), ad_his, (fun h => Bool.noConfusion h), rfl, (fun _ => rfl), rfl, (fun _ => rfl), rfl, (fun _ => rfl), rfl, (fun _ => rfl), rfl, (fun _ => rfl), ad_net, (fun h => Bool.noConfusion h), rfl, (fun _ => rfl), trivial⟩ S (c_X5_setUp l D cI cN a (v 1 0) (v 2 0) (v 3 0) (v 4 0) (v 6 0) (v 5) w (v 0) _ kx hi n a1 a2 a3 r0 hi' n' h5) (cwV 3 hts gL_law_X5_setUp rfl rfl rfl (by decide +kernel) ⟨Nat.le_of_ble_eq_true rfl, Nat.le_of_ble_eq_true rfl⟩) hK hP hD hS hA rfl rfl rfl hl.1 rfl (Nat.le_of_ble_eq_true rfl) dL_law_192 ⟨Nat.le_of_ble_eq_true rfl, Nat.le_of_ble_eq_true rfl⟩ (fun H locs hP hD hS => ?_)
  refine lv_aload_n hx hb dL_law_195 rfl (lv_at hl 2 rfl) ?_
  refine lv_aload_n hx hb dL_law_196 rfl (lv_at hl 0 rfl) ?_
  refine lv_iload_n hx hb dL_law_197 rfl (lv_at hl 3 rfl) ?_
  refine lv_iconst (v := (1 : Int32)) hx hb dL_law_198 kc_iconst_1 ?_
  refine lv_iadd hx hb dL_law_199 ?_
  rw [ei1]
  refine va_sld hx hb hX hbl hbA hS hin1 dL_law_200 ?_
  rw [ec1, ea1]
  refine lv_aload_n hx hb dL_law_201 rfl (lv_at hl 0 rfl) ?_
  refine lv_iload_n hx hb dL_law_202 rfl (lv_at hl 3 rfl) ?_
  refine lv_iconst (v := (2 : Int32)) hx hb dL_law_203 kc_iconst_2 ?_
  refine lv_iadd hx hb dL_law_204 ?_
  rw [ei2]
  refine va_sld hx hb hX hbl hbA hS hin2 dL_law_205 ?_
  rw [ec2, ea2]
  refine lv_aload_n hx hb dL_law_206 rfl (lv_at hl 0 rfl) ?_
  refine lv_iload_n hx hb dL_law_207 rfl (lv_at hl 3 rfl) ?_
  refine lv_iconst (v := (3 : Int32)) hx hb dL_law_208 kc_iconst_3 ?_
  refine lv_iadd hx hb dL_law_209 ?_
  rw [ei3]
  refine va_sld hx hb hX hbl hbA hS hin3 dL_law_210 ?_
  rw [ec3, ea3]
  refine cBi (As := [.int a1, .int a2, .int a3]) (rest := [.int r0]) (q0 := 115) (ci := 6) [(false, (cxW a (v 0 0) (v 1 0) (v 2 0) (v 3 0) (v 4 0) (v 5 0) (v 6 0) (kx.1 7)), (cxW a (v 0 0) (v 1 0) (v 2 0) (v 3 0) (v 4 0) (v 5 0) (v 6 0) (kx.1 7))), (false, (hiW cI cN (v 5) w hi'), (hiW cI cN (v 5) w hi')), (false, (txW cI (v 6) x), (txW cI (v 6) x)), (false, (nwW cI (v 1) o), (nwW cI (v 1) o)), (false, (nwW cI (v 2) sn), (nwW cI (v 2) sn)), (false, (rtW cI (v 4) r), (rtW cI (v 4) r)), (false, (nwW cI (v 3) tr), (nwW cI (v 3) tr)), (false, (nwW cI (v 0) n'), (nwW cI (v 0) n')), (true, (mdW cI z g), (mdW cI z g'))] ⟨rfl, (fun _ => rfl), rfl, (fun _ => rfl), rfl, (fun _ => rfl), rfl, (fun _ => rfl), rfl, (fun _ => rfl), rfl, (fun _ => rfl), rfl, (fun _ => rfl), rfl, (fun _ => rfl), ad_mod, (fun h => Bool.noConfusion h), trivial⟩ S (c_X6_setUp l D cI cN z _ g a1 a2 a3 r0 g' h6) (cwV 3 hts gL_law_X6_setUp rfl rfl rfl (by decide +kernel) ⟨Nat.le_of_ble_eq_true rfl, Nat.le_of_ble_eq_true rfl⟩) hK hP hD hS hA rfl rfl rfl hl.1 rfl (Nat.le_of_ble_eq_true rfl) dL_law_211 ⟨Nat.le_of_ble_eq_true rfl, Nat.le_of_ble_eq_true rfl⟩ (fun H locs hP hD hS => ?_)
  refine lv_icmp_eq (tgt := 924) hx hb dL_law_214 (by decide) (fun _ => ?_) (fun cne => absurd rfl cne)
  exact kk H locs ls hP hD hS hl
set_option maxRecDepth 100000 in
set_option maxHeartbeats 4000000 in
theorem lc_1 {p : Program} {l : Launch} {e : Env} {s : State} {m : MethodId} {below : List Frame} {meth : Method} {c : Code} {Q : State → Prop} {D : va_G} {cI cN : ClassId} {A : Nat → Prop} {b L : Nat} {xs : Nat → Int32} {a : Nat} {v w : Nat → Nat → Nat} {z : Nat → Nat} (S : CallFix p m c cL_law 4 s #[Value.ref b] wsL_law RL) (hK : KN D cI cN s) (hA : ∀ q : Nat, s.heap.size ≤ q → A q) (hX : va_X b L xs s s.heap) (hbl : b < s.heap.size) (hbA : ¬ A b) {i : Nat} (hi4 : i + 4 ≤ L) (hL : L ≤ 2048) {kx : OS} {hi : HS} {x o sn r tr n g : OS} {hi' : HS} {n' : OS} {g' : OS} {r0 : Int32} {a1 : Int32} (ea1 : xs (i + 1) = a1) (h5 : fX5_setChoiceRule kx hi n a1 = some (r0, hi', n')) (h6 : fX6_setChoiceRule g a1 = some (r0, g')) (H : Heap) (locs : List Loc) (ls : Array Slot) (hP : va_P D vwCl ((cxW a (v 0 0) (v 1 0) (v 2 0) (v 3 0) (v 4 0) (v 5 0) (v 6 0) (kx.1 7)) ++ ((hiW cI cN (v 5) w hi) ++ ((txW cI (v 6) x) ++ ((nwW cI (v 1) o) ++ ((nwW cI (v 2) sn) ++ ((rtW cI (v 4) r) ++ ((nwW cI (v 3) tr) ++ ((nwW cI (v 0) n) ++ (mdW cI z g))))))))) H) (hD : va_D A ((cxW a (v 0 0) (v 1 0) (v 2 0) (v 3 0) (v 4 0) (v 5 0) (v 6 0) (kx.1 7)) ++ ((hiW cI cN (v 5) w hi) ++ ((txW cI (v 6) x) ++ ((nwW cI (v 1) o) ++ ((nwW cI (v 2) sn) ++ ((rtW cI (v 4) r) ++ ((nwW cI (v 3) tr) ++ ((nwW cI (v 0) n) ++ (mdW cI z g)))))))))) (hS : va_S A s.heap H locs) (hl : lv_has ls 4 [(0, .ref b), (1, .ref a), (2, .ref (z 0)), (3, .int (nI i))]) (kk : ∀ (H : Heap) (locs : List Loc) (ls : Array Slot), va_P D vwCl ((cxW a (v 0 0) (v 1 0) (v 2 0) (v 3 0) (v 4 0) (v 5 0) (v 6 0) (kx.1 7)) ++ ((hiW cI cN (v 5) w hi') ++ ((txW cI (v 6) x) ++ ((nwW cI (v 1) o) ++ ((nwW cI (v 2) sn) ++ ((rtW cI (v 4) r) ++ ((nwW cI (v 3) tr) ++ ((nwW cI (v 0) n') ++ (mdW cI z g'))))))))) H → va_D A ((cxW a (v 0 0) (v 1 0) (v 2 0) (v 3 0) (v 4 0) (v 5 0) (v 6 0) (kx.1 7)) ++ ((hiW cI cN (v 5) w hi') ++ ((txW cI (v 6) x) ++ ((nwW cI (v 1) o) ++ ((nwW cI (v 2) sn) ++ ((rtW cI (v 4) r) ++ ((nwW cI (v 3) tr) ++ ((nwW cI (v 0) n') ++ (mdW cI z g'))))))))) → va_S A s.heap H locs → lv_has ls 4 [(0, .ref b), (1, .ref a), (2, .ref (z 0)), (3, .int (nI i))] → W p l e room_1 s m #[Value.ref b] below meth c H locs 120 4135 Q (F0 m 924 ls [])) : W p l e room_1 s m #[Value.ref b] below meth c H locs 120 4135 Q (F0 m 219 ls []) := by
  obtain ⟨hx, hb, hml, hown, hts⟩ := id S
  have ei1 : nI i + (1 : Int32) = nI (i + 1) := by rw [show (1 : Int32) = nI 1 from rfl, nI_add]
  have hin1 : vp_in (nI (i + 1)) L := vp_in_nI (by omega) (by omega)
  have ec1 : (nI (i + 1)).toNatClampNeg = i + 1 := nI_clamp (by omega)
  have ei2 : nI i + (2 : Int32) = nI (i + 2) := by rw [show (2 : Int32) = nI 2 from rfl, nI_add]
  have hin2 : vp_in (nI (i + 2)) L := vp_in_nI (by omega) (by omega)
  have ec2 : (nI (i + 2)).toNatClampNeg = i + 2 := nI_clamp (by omega)
  have ei3 : nI i + (3 : Int32) = nI (i + 3) := by rw [show (3 : Int32) = nI 3 from rfl, nI_add]
  have hin3 : vp_in (nI (i + 3)) L := vp_in_nI (by omega) (by omega)
  have ec3 : (nI (i + 3)).toNatClampNeg = i + 3 := nI_clamp (by omega)
  refine lv_aload_n hx hb dL_law_219 rfl (lv_at hl 1 rfl) ?_
  refine lv_aload_n hx hb dL_law_220 rfl (lv_at hl 0 rfl) ?_
  refine lv_iload_n hx hb dL_law_221 rfl (lv_at hl 3 rfl) ?_
  refine lv_iconst (v := (1 : Int32)) hx hb dL_law_222 kc_iconst_1 ?_
  refine lv_iadd hx hb dL_law_223 ?_
  rw [ei1]
  refine va_sld hx hb hX hbl hbA hS hin1 dL_law_224 ?_
  rw [ec1, ea1]
  refine cBi (As := [.int a1]) (rest := []) (q0 := 0) (ci := 5) [(true, (cxW a (v 0 0) (v 1 0) (v 2 0) (v 3 0) (v 4 0) (v 5 0) (v 6 0) (kx.1 7)), (cxW a (v 0 0) (v 1 0) (v 2 0) (v 3 0) (v 4 0) (v 5 0) (v 6 0) (kx.1 7))), (true, (hiW cI cN (v 5) w hi), (hiW cI cN (v 5) w hi')), (false, (txW cI (v 6) x), (txW cI (v 6) x)), (false, (nwW cI (v 1) o), (nwW cI (v 1) o)), (false, (nwW cI (v 2) sn), (nwW cI (v 2) sn)), (false, (rtW cI (v 4) r), (rtW cI (v 4) r)), (false, (nwW cI (v 3) tr), (nwW cI (v 3) tr)), (true, (nwW cI (v 0) n), (nwW cI (v 0) n')), (false, (mdW cI z g), (mdW cI z g))] ⟨ad_cex, (fun h => Bool.noConfusion h), ad_his, (fun h => Bool.noConfusion h), rfl, (fun _ => rfl), rfl, (fun _ => rfl), rfl, (fun _ => rfl), rfl, (fun _ => rfl), rfl, (fun _ => rfl), ad_net, (fun h => Bool.noConfusion h), rfl, (fun _ => rfl), trivial⟩ S (c_X5_setChoiceRule l D cI cN a (v 1 0) (v 2 0) (v 3 0) (v 4 0) (v 6 0) (v 5) w (v 0) _ kx hi n a1 r0 hi' n' h5) (cwV 1 hts gL_law_X5_setChoiceRule rfl rfl rfl (by decide +kernel) ⟨Nat.le_of_ble_eq_true rfl, Nat.le_of_ble_eq_true rfl⟩) hK hP hD hS hA rfl rfl rfl hl.1 rfl (Nat.le_of_ble_eq_true rfl) dL_law_225 ⟨Nat.le_of_ble_eq_true rfl, Nat.le_of_ble_eq_true rfl⟩ (fun H locs hP hD hS => ?_)
  refine lv_aload_n hx hb dL_law_228 rfl (lv_at hl 2 rfl) ?_
  refine lv_aload_n hx hb dL_law_229 rfl (lv_at hl 0 rfl) ?_
  refine lv_iload_n hx hb dL_law_230 rfl (lv_at hl 3 rfl) ?_
  refine lv_iconst (v := (1 : Int32)) hx hb dL_law_231 kc_iconst_1 ?_
  refine lv_iadd hx hb dL_law_232 ?_
  rw [ei1]
  refine va_sld hx hb hX hbl hbA hS hin1 dL_law_233 ?_
  rw [ec1, ea1]
  refine cBi (As := [.int a1]) (rest := [.int r0]) (q0 := 115) (ci := 6) [(false, (cxW a (v 0 0) (v 1 0) (v 2 0) (v 3 0) (v 4 0) (v 5 0) (v 6 0) (kx.1 7)), (cxW a (v 0 0) (v 1 0) (v 2 0) (v 3 0) (v 4 0) (v 5 0) (v 6 0) (kx.1 7))), (false, (hiW cI cN (v 5) w hi'), (hiW cI cN (v 5) w hi')), (false, (txW cI (v 6) x), (txW cI (v 6) x)), (false, (nwW cI (v 1) o), (nwW cI (v 1) o)), (false, (nwW cI (v 2) sn), (nwW cI (v 2) sn)), (false, (rtW cI (v 4) r), (rtW cI (v 4) r)), (false, (nwW cI (v 3) tr), (nwW cI (v 3) tr)), (false, (nwW cI (v 0) n'), (nwW cI (v 0) n')), (true, (mdW cI z g), (mdW cI z g'))] ⟨rfl, (fun _ => rfl), rfl, (fun _ => rfl), rfl, (fun _ => rfl), rfl, (fun _ => rfl), rfl, (fun _ => rfl), rfl, (fun _ => rfl), rfl, (fun _ => rfl), rfl, (fun _ => rfl), ad_mod, (fun h => Bool.noConfusion h), trivial⟩ S (c_X6_setChoiceRule l D cI cN z _ g a1 r0 g' h6) (cwV 1 hts gL_law_X6_setChoiceRule rfl rfl rfl (by decide +kernel) ⟨Nat.le_of_ble_eq_true rfl, Nat.le_of_ble_eq_true rfl⟩) hK hP hD hS hA rfl rfl rfl hl.1 rfl (Nat.le_of_ble_eq_true rfl) dL_law_234 ⟨Nat.le_of_ble_eq_true rfl, Nat.le_of_ble_eq_true rfl⟩ (fun H locs hP hD hS => ?_)
  refine lv_icmp_eq (tgt := 924) hx hb dL_law_237 (by decide) (fun _ => ?_) (fun cne => absurd rfl cne)
  exact kk H locs ls hP hD hS hl
set_option maxRecDepth 100000 in
set_option maxHeartbeats 4000000 in
theorem lc_2 {p : Program} {l : Launch} {e : Env} {s : State} {m : MethodId} {below : List Frame} {meth : Method} {c : Code} {Q : State → Prop} {D : va_G} {cI cN : ClassId} {A : Nat → Prop} {b L : Nat} {xs : Nat → Int32} {a : Nat} {v w : Nat → Nat → Nat} {z : Nat → Nat} (S : CallFix p m c cL_law 4 s #[Value.ref b] wsL_law RL) (hK : KN D cI cN s) (hA : ∀ q : Nat, s.heap.size ≤ q → A q) (hX : va_X b L xs s s.heap) (hbl : b < s.heap.size) (hbA : ¬ A b) {i : Nat} (hi4 : i + 4 ≤ L) (hL : L ≤ 2048) {kx : OS} {hi : HS} {x o sn r tr n g : OS} {hi' : HS} {n' : OS} {g' : OS} {r0 : Int32} {a1 : Int32} (ea1 : xs (i + 1) = a1) (h5 : fX5_setPairRule kx hi n a1 = some (r0, hi', n')) (h6 : fX6_setPairRule g a1 = some (r0, g')) (H : Heap) (locs : List Loc) (ls : Array Slot) (hP : va_P D vwCl ((cxW a (v 0 0) (v 1 0) (v 2 0) (v 3 0) (v 4 0) (v 5 0) (v 6 0) (kx.1 7)) ++ ((hiW cI cN (v 5) w hi) ++ ((txW cI (v 6) x) ++ ((nwW cI (v 1) o) ++ ((nwW cI (v 2) sn) ++ ((rtW cI (v 4) r) ++ ((nwW cI (v 3) tr) ++ ((nwW cI (v 0) n) ++ (mdW cI z g))))))))) H) (hD : va_D A ((cxW a (v 0 0) (v 1 0) (v 2 0) (v 3 0) (v 4 0) (v 5 0) (v 6 0) (kx.1 7)) ++ ((hiW cI cN (v 5) w hi) ++ ((txW cI (v 6) x) ++ ((nwW cI (v 1) o) ++ ((nwW cI (v 2) sn) ++ ((rtW cI (v 4) r) ++ ((nwW cI (v 3) tr) ++ ((nwW cI (v 0) n) ++ (mdW cI z g)))))))))) (hS : va_S A s.heap H locs) (hl : lv_has ls 4 [(0, .ref b), (1, .ref a), (2, .ref (z 0)), (3, .int (nI i))]) (kk : ∀ (H : Heap) (locs : List Loc) (ls : Array Slot), va_P D vwCl ((cxW a (v 0 0) (v 1 0) (v 2 0) (v 3 0) (v 4 0) (v 5 0) (v 6 0) (kx.1 7)) ++ ((hiW cI cN (v 5) w hi') ++ ((txW cI (v 6) x) ++ ((nwW cI (v 1) o) ++ ((nwW cI (v 2) sn) ++ ((rtW cI (v 4) r) ++ ((nwW cI (v 3) tr) ++ ((nwW cI (v 0) n') ++ (mdW cI z g'))))))))) H → va_D A ((cxW a (v 0 0) (v 1 0) (v 2 0) (v 3 0) (v 4 0) (v 5 0) (v 6 0) (kx.1 7)) ++ ((hiW cI cN (v 5) w hi') ++ ((txW cI (v 6) x) ++ ((nwW cI (v 1) o) ++ ((nwW cI (v 2) sn) ++ ((rtW cI (v 4) r) ++ ((nwW cI (v 3) tr) ++ ((nwW cI (v 0) n') ++ (mdW cI z g'))))))))) → va_S A s.heap H locs → lv_has ls 4 [(0, .ref b), (1, .ref a), (2, .ref (z 0)), (3, .int (nI i))] → W p l e room_1 s m #[Value.ref b] below meth c H locs 120 4135 Q (F0 m 924 ls [])) : W p l e room_1 s m #[Value.ref b] below meth c H locs 120 4135 Q (F0 m 242 ls []) := by
  obtain ⟨hx, hb, hml, hown, hts⟩ := id S
  have ei1 : nI i + (1 : Int32) = nI (i + 1) := by rw [show (1 : Int32) = nI 1 from rfl, nI_add]
  have hin1 : vp_in (nI (i + 1)) L := vp_in_nI (by omega) (by omega)
  have ec1 : (nI (i + 1)).toNatClampNeg = i + 1 := nI_clamp (by omega)
  have ei2 : nI i + (2 : Int32) = nI (i + 2) := by rw [show (2 : Int32) = nI 2 from rfl, nI_add]
  have hin2 : vp_in (nI (i + 2)) L := vp_in_nI (by omega) (by omega)
  have ec2 : (nI (i + 2)).toNatClampNeg = i + 2 := nI_clamp (by omega)
  have ei3 : nI i + (3 : Int32) = nI (i + 3) := by rw [show (3 : Int32) = nI 3 from rfl, nI_add]
  have hin3 : vp_in (nI (i + 3)) L := vp_in_nI (by omega) (by omega)
  have ec3 : (nI (i + 3)).toNatClampNeg = i + 3 := nI_clamp (by omega)
  refine lv_aload_n hx hb dL_law_242 rfl (lv_at hl 1 rfl) ?_
  refine lv_aload_n hx hb dL_law_243 rfl (lv_at hl 0 rfl) ?_
  refine lv_iload_n hx hb dL_law_244 rfl (lv_at hl 3 rfl) ?_
  refine lv_iconst (v := (1 : Int32)) hx hb dL_law_245 kc_iconst_1 ?_
  refine lv_iadd hx hb dL_law_246 ?_
  rw [ei1]
  refine va_sld hx hb hX hbl hbA hS hin1 dL_law_247 ?_
  rw [ec1, ea1]
  refine cBi (As := [.int a1]) (rest := []) (q0 := 0) (ci := 5) [(true, (cxW a (v 0 0) (v 1 0) (v 2 0) (v 3 0) (v 4 0) (v 5 0) (v 6 0) (kx.1 7)), (cxW a (v 0 0) (v 1 0) (v 2 0) (v 3 0) (v 4 0) (v 5 0) (v 6 0) (kx.1 7))), (true, (hiW cI cN (v 5) w hi), (hiW cI cN (v 5) w hi')), (false, (txW cI (v 6) x), (txW cI (v 6) x)), (false, (nwW cI (v 1) o), (nwW cI (v 1) o)), (false, (nwW cI (v 2) sn), (nwW cI (v 2) sn)), (false, (rtW cI (v 4) r), (rtW cI (v 4) r)), (false, (nwW cI (v 3) tr), (nwW cI (v 3) tr)), (true, (nwW cI (v 0) n), (nwW cI (v 0) n')), (false, (mdW cI z g), (mdW cI z g))] ⟨ad_cex, (fun h => Bool.noConfusion h), ad_his, (fun h => Bool.noConfusion h), rfl, (fun _ => rfl), rfl, (fun _ => rfl), rfl, (fun _ => rfl), rfl, (fun _ => rfl), rfl, (fun _ => rfl), ad_net, (fun h => Bool.noConfusion h), rfl, (fun _ => rfl), trivial⟩ S (c_X5_setPairRule l D cI cN a (v 1 0) (v 2 0) (v 3 0) (v 4 0) (v 6 0) (v 5) w (v 0) _ kx hi n a1 r0 hi' n' h5) (cwV 1 hts gL_law_X5_setPairRule rfl rfl rfl (by decide +kernel) ⟨Nat.le_of_ble_eq_true rfl, Nat.le_of_ble_eq_true rfl⟩) hK hP hD hS hA rfl rfl rfl hl.1 rfl (Nat.le_of_ble_eq_true rfl) dL_law_248 ⟨Nat.le_of_ble_eq_true rfl, Nat.le_of_ble_eq_true rfl⟩ (fun H locs hP hD hS => ?_)
  refine lv_aload_n hx hb dL_law_251 rfl (lv_at hl 2 rfl) ?_
  refine lv_aload_n hx hb dL_law_252 rfl (lv_at hl 0 rfl) ?_
  refine lv_iload_n hx hb dL_law_253 rfl (lv_at hl 3 rfl) ?_
  refine lv_iconst (v := (1 : Int32)) hx hb dL_law_254 kc_iconst_1 ?_
  refine lv_iadd hx hb dL_law_255 ?_
  rw [ei1]
  refine va_sld hx hb hX hbl hbA hS hin1 dL_law_256 ?_
  rw [ec1, ea1]
  refine cBi (As := [.int a1]) (rest := [.int r0]) (q0 := 115) (ci := 6) [(false, (cxW a (v 0 0) (v 1 0) (v 2 0) (v 3 0) (v 4 0) (v 5 0) (v 6 0) (kx.1 7)), (cxW a (v 0 0) (v 1 0) (v 2 0) (v 3 0) (v 4 0) (v 5 0) (v 6 0) (kx.1 7))), (false, (hiW cI cN (v 5) w hi'), (hiW cI cN (v 5) w hi')), (false, (txW cI (v 6) x), (txW cI (v 6) x)), (false, (nwW cI (v 1) o), (nwW cI (v 1) o)), (false, (nwW cI (v 2) sn), (nwW cI (v 2) sn)), (false, (rtW cI (v 4) r), (rtW cI (v 4) r)), (false, (nwW cI (v 3) tr), (nwW cI (v 3) tr)), (false, (nwW cI (v 0) n'), (nwW cI (v 0) n')), (true, (mdW cI z g), (mdW cI z g'))] ⟨rfl, (fun _ => rfl), rfl, (fun _ => rfl), rfl, (fun _ => rfl), rfl, (fun _ => rfl), rfl, (fun _ => rfl), rfl, (fun _ => rfl), rfl, (fun _ => rfl), rfl, (fun _ => rfl), ad_mod, (fun h => Bool.noConfusion h), trivial⟩ S (c_X6_setPairRule l D cI cN z _ g a1 r0 g' h6) (cwV 1 hts gL_law_X6_setPairRule rfl rfl rfl (by decide +kernel) ⟨Nat.le_of_ble_eq_true rfl, Nat.le_of_ble_eq_true rfl⟩) hK hP hD hS hA rfl rfl rfl hl.1 rfl (Nat.le_of_ble_eq_true rfl) dL_law_257 ⟨Nat.le_of_ble_eq_true rfl, Nat.le_of_ble_eq_true rfl⟩ (fun H locs hP hD hS => ?_)
  refine lv_icmp_eq (tgt := 924) hx hb dL_law_260 (by decide) (fun _ => ?_) (fun cne => absurd rfl cne)
  exact kk H locs ls hP hD hS hl
set_option maxRecDepth 100000 in
set_option maxHeartbeats 4000000 in
theorem lc_3 {p : Program} {l : Launch} {e : Env} {s : State} {m : MethodId} {below : List Frame} {meth : Method} {c : Code} {Q : State → Prop} {D : va_G} {cI cN : ClassId} {A : Nat → Prop} {b L : Nat} {xs : Nat → Int32} {a : Nat} {v w : Nat → Nat → Nat} {z : Nat → Nat} (S : CallFix p m c cL_law 4 s #[Value.ref b] wsL_law RL) (hK : KN D cI cN s) (hA : ∀ q : Nat, s.heap.size ≤ q → A q) (hX : va_X b L xs s s.heap) (hbl : b < s.heap.size) (hbA : ¬ A b) {i : Nat} (hi4 : i + 4 ≤ L) (hL : L ≤ 2048) {kx : OS} {hi : HS} {x o sn r tr n g : OS} {hi' : HS} {o' : OS} {r' : OS} {n' : OS} {g' : OS} {r0 : Int32} {a1 a2 : Int32} (ea1 : xs (i + 1) = a1) (ea2 : xs (i + 2) = a2) (h5 : fX5_connect kx hi o r n a1 a2 = some (r0, hi', o', r', n')) (h6 : fX6_connect g a1 a2 = some (r0, g')) (H : Heap) (locs : List Loc) (ls : Array Slot) (hP : va_P D vwCl ((cxW a (v 0 0) (v 1 0) (v 2 0) (v 3 0) (v 4 0) (v 5 0) (v 6 0) (kx.1 7)) ++ ((hiW cI cN (v 5) w hi) ++ ((txW cI (v 6) x) ++ ((nwW cI (v 1) o) ++ ((nwW cI (v 2) sn) ++ ((rtW cI (v 4) r) ++ ((nwW cI (v 3) tr) ++ ((nwW cI (v 0) n) ++ (mdW cI z g))))))))) H) (hD : va_D A ((cxW a (v 0 0) (v 1 0) (v 2 0) (v 3 0) (v 4 0) (v 5 0) (v 6 0) (kx.1 7)) ++ ((hiW cI cN (v 5) w hi) ++ ((txW cI (v 6) x) ++ ((nwW cI (v 1) o) ++ ((nwW cI (v 2) sn) ++ ((rtW cI (v 4) r) ++ ((nwW cI (v 3) tr) ++ ((nwW cI (v 0) n) ++ (mdW cI z g)))))))))) (hS : va_S A s.heap H locs) (hl : lv_has ls 4 [(0, .ref b), (1, .ref a), (2, .ref (z 0)), (3, .int (nI i))]) (kk : ∀ (H : Heap) (locs : List Loc) (ls : Array Slot), va_P D vwCl ((cxW a (v 0 0) (v 1 0) (v 2 0) (v 3 0) (v 4 0) (v 5 0) (v 6 0) (kx.1 7)) ++ ((hiW cI cN (v 5) w hi') ++ ((txW cI (v 6) x) ++ ((nwW cI (v 1) o') ++ ((nwW cI (v 2) sn) ++ ((rtW cI (v 4) r') ++ ((nwW cI (v 3) tr) ++ ((nwW cI (v 0) n') ++ (mdW cI z g'))))))))) H → va_D A ((cxW a (v 0 0) (v 1 0) (v 2 0) (v 3 0) (v 4 0) (v 5 0) (v 6 0) (kx.1 7)) ++ ((hiW cI cN (v 5) w hi') ++ ((txW cI (v 6) x) ++ ((nwW cI (v 1) o') ++ ((nwW cI (v 2) sn) ++ ((rtW cI (v 4) r') ++ ((nwW cI (v 3) tr) ++ ((nwW cI (v 0) n') ++ (mdW cI z g'))))))))) → va_S A s.heap H locs → lv_has ls 4 [(0, .ref b), (1, .ref a), (2, .ref (z 0)), (3, .int (nI i))] → W p l e room_1 s m #[Value.ref b] below meth c H locs 120 4135 Q (F0 m 924 ls [])) : W p l e room_1 s m #[Value.ref b] below meth c H locs 120 4135 Q (F0 m 265 ls []) := by
  obtain ⟨hx, hb, hml, hown, hts⟩ := id S
  have ei1 : nI i + (1 : Int32) = nI (i + 1) := by rw [show (1 : Int32) = nI 1 from rfl, nI_add]
  have hin1 : vp_in (nI (i + 1)) L := vp_in_nI (by omega) (by omega)
  have ec1 : (nI (i + 1)).toNatClampNeg = i + 1 := nI_clamp (by omega)
  have ei2 : nI i + (2 : Int32) = nI (i + 2) := by rw [show (2 : Int32) = nI 2 from rfl, nI_add]
  have hin2 : vp_in (nI (i + 2)) L := vp_in_nI (by omega) (by omega)
  have ec2 : (nI (i + 2)).toNatClampNeg = i + 2 := nI_clamp (by omega)
  have ei3 : nI i + (3 : Int32) = nI (i + 3) := by rw [show (3 : Int32) = nI 3 from rfl, nI_add]
  have hin3 : vp_in (nI (i + 3)) L := vp_in_nI (by omega) (by omega)
  have ec3 : (nI (i + 3)).toNatClampNeg = i + 3 := nI_clamp (by omega)
  refine lv_aload_n hx hb dL_law_265 rfl (lv_at hl 1 rfl) ?_
  refine lv_aload_n hx hb dL_law_266 rfl (lv_at hl 0 rfl) ?_
  refine lv_iload_n hx hb dL_law_267 rfl (lv_at hl 3 rfl) ?_
  refine lv_iconst (v := (1 : Int32)) hx hb dL_law_268 kc_iconst_1 ?_
  refine lv_iadd hx hb dL_law_269 ?_
  rw [ei1]
  refine va_sld hx hb hX hbl hbA hS hin1 dL_law_270 ?_
  rw [ec1, ea1]
  refine lv_aload_n hx hb dL_law_271 rfl (lv_at hl 0 rfl) ?_
  refine lv_iload_n hx hb dL_law_272 rfl (lv_at hl 3 rfl) ?_
  refine lv_iconst (v := (2 : Int32)) hx hb dL_law_273 kc_iconst_2 ?_
  refine lv_iadd hx hb dL_law_274 ?_
  rw [ei2]
  refine va_sld hx hb hX hbl hbA hS hin2 dL_law_275 ?_
  rw [ec2, ea2]
  refine cBi (As := [.int a1, .int a2]) (rest := []) (q0 := 0) (ci := 5) [(true, (cxW a (v 0 0) (v 1 0) (v 2 0) (v 3 0) (v 4 0) (v 5 0) (v 6 0) (kx.1 7)), (cxW a (v 0 0) (v 1 0) (v 2 0) (v 3 0) (v 4 0) (v 5 0) (v 6 0) (kx.1 7))), (true, (hiW cI cN (v 5) w hi), (hiW cI cN (v 5) w hi')), (false, (txW cI (v 6) x), (txW cI (v 6) x)), (true, (nwW cI (v 1) o), (nwW cI (v 1) o')), (false, (nwW cI (v 2) sn), (nwW cI (v 2) sn)), (true, (rtW cI (v 4) r), (rtW cI (v 4) r')), (false, (nwW cI (v 3) tr), (nwW cI (v 3) tr)), (true, (nwW cI (v 0) n), (nwW cI (v 0) n')), (false, (mdW cI z g), (mdW cI z g))] ⟨ad_cex, (fun h => Bool.noConfusion h), ad_his, (fun h => Bool.noConfusion h), rfl, (fun _ => rfl), ad_net, (fun h => Bool.noConfusion h), rfl, (fun _ => rfl), ad_rtr, (fun h => Bool.noConfusion h), rfl, (fun _ => rfl), ad_net, (fun h => Bool.noConfusion h), rfl, (fun _ => rfl), trivial⟩ S (c_X5_connect l D cI cN a (v 2 0) (v 3 0) (v 6 0) (v 5) w (v 1) (v 4) (v 0) _ kx hi o r n a1 a2 r0 hi' o' r' n' h5) (cwV 2 hts gL_law_X5_connect rfl rfl rfl (by decide +kernel) ⟨Nat.le_of_ble_eq_true rfl, Nat.le_of_ble_eq_true rfl⟩) hK hP hD hS hA rfl rfl rfl hl.1 rfl (Nat.le_of_ble_eq_true rfl) dL_law_276 ⟨Nat.le_of_ble_eq_true rfl, Nat.le_of_ble_eq_true rfl⟩ (fun H locs hP hD hS => ?_)
  refine lv_aload_n hx hb dL_law_279 rfl (lv_at hl 2 rfl) ?_
  refine lv_aload_n hx hb dL_law_280 rfl (lv_at hl 0 rfl) ?_
  refine lv_iload_n hx hb dL_law_281 rfl (lv_at hl 3 rfl) ?_
  refine lv_iconst (v := (1 : Int32)) hx hb dL_law_282 kc_iconst_1 ?_
  refine lv_iadd hx hb dL_law_283 ?_
  rw [ei1]
  refine va_sld hx hb hX hbl hbA hS hin1 dL_law_284 ?_
  rw [ec1, ea1]
  refine lv_aload_n hx hb dL_law_285 rfl (lv_at hl 0 rfl) ?_
  refine lv_iload_n hx hb dL_law_286 rfl (lv_at hl 3 rfl) ?_
  refine lv_iconst (v := (2 : Int32)) hx hb dL_law_287 kc_iconst_2 ?_
  refine lv_iadd hx hb dL_law_288 ?_
  rw [ei2]
  refine va_sld hx hb hX hbl hbA hS hin2 dL_law_289 ?_
  rw [ec2, ea2]
  refine cBi (As := [.int a1, .int a2]) (rest := [.int r0]) (q0 := 115) (ci := 6) [(false, (cxW a (v 0 0) (v 1 0) (v 2 0) (v 3 0) (v 4 0) (v 5 0) (v 6 0) (kx.1 7)), (cxW a (v 0 0) (v 1 0) (v 2 0) (v 3 0) (v 4 0) (v 5 0) (v 6 0) (kx.1 7))), (false, (hiW cI cN (v 5) w hi'), (hiW cI cN (v 5) w hi')), (false, (txW cI (v 6) x), (txW cI (v 6) x)), (false, (nwW cI (v 1) o'), (nwW cI (v 1) o')), (false, (nwW cI (v 2) sn), (nwW cI (v 2) sn)), (false, (rtW cI (v 4) r'), (rtW cI (v 4) r')), (false, (nwW cI (v 3) tr), (nwW cI (v 3) tr)), (false, (nwW cI (v 0) n'), (nwW cI (v 0) n')), (true, (mdW cI z g), (mdW cI z g'))] ⟨rfl, (fun _ => rfl), rfl, (fun _ => rfl), rfl, (fun _ => rfl), rfl, (fun _ => rfl), rfl, (fun _ => rfl), rfl, (fun _ => rfl), rfl, (fun _ => rfl), rfl, (fun _ => rfl), ad_mod, (fun h => Bool.noConfusion h), trivial⟩ S (c_X6_connect l D cI cN z _ g a1 a2 r0 g' h6) (cwV 2 hts gL_law_X6_connect rfl rfl rfl (by decide +kernel) ⟨Nat.le_of_ble_eq_true rfl, Nat.le_of_ble_eq_true rfl⟩) hK hP hD hS hA rfl rfl rfl hl.1 rfl (Nat.le_of_ble_eq_true rfl) dL_law_290 ⟨Nat.le_of_ble_eq_true rfl, Nat.le_of_ble_eq_true rfl⟩ (fun H locs hP hD hS => ?_)
  refine lv_icmp_eq (tgt := 924) hx hb dL_law_293 (by decide) (fun _ => ?_) (fun cne => absurd rfl cne)
  exact kk H locs ls hP hD hS hl
set_option maxRecDepth 100000 in
set_option maxHeartbeats 4000000 in
theorem lc_4 {p : Program} {l : Launch} {e : Env} {s : State} {m : MethodId} {below : List Frame} {meth : Method} {c : Code} {Q : State → Prop} {D : va_G} {cI cN : ClassId} {A : Nat → Prop} {b L : Nat} {xs : Nat → Int32} {a : Nat} {v w : Nat → Nat → Nat} {z : Nat → Nat} (S : CallFix p m c cL_law 4 s #[Value.ref b] wsL_law RL) (hK : KN D cI cN s) (hA : ∀ q : Nat, s.heap.size ≤ q → A q) (hX : va_X b L xs s s.heap) (hbl : b < s.heap.size) (hbA : ¬ A b) {i : Nat} (hi4 : i + 4 ≤ L) (hL : L ≤ 2048) {kx : OS} {hi : HS} {x o sn r tr n g : OS} {hi' : HS} {o' : OS} {n' : OS} {g' : OS} {r0 : Int32} {a1 : Int32} (ea1 : xs (i + 1) = a1) (h5 : fX5_disconnect kx hi o r n a1 = some (r0, hi', o', n')) (h6 : fX6_disconnect g a1 = some (r0, g')) (H : Heap) (locs : List Loc) (ls : Array Slot) (hP : va_P D vwCl ((cxW a (v 0 0) (v 1 0) (v 2 0) (v 3 0) (v 4 0) (v 5 0) (v 6 0) (kx.1 7)) ++ ((hiW cI cN (v 5) w hi) ++ ((txW cI (v 6) x) ++ ((nwW cI (v 1) o) ++ ((nwW cI (v 2) sn) ++ ((rtW cI (v 4) r) ++ ((nwW cI (v 3) tr) ++ ((nwW cI (v 0) n) ++ (mdW cI z g))))))))) H) (hD : va_D A ((cxW a (v 0 0) (v 1 0) (v 2 0) (v 3 0) (v 4 0) (v 5 0) (v 6 0) (kx.1 7)) ++ ((hiW cI cN (v 5) w hi) ++ ((txW cI (v 6) x) ++ ((nwW cI (v 1) o) ++ ((nwW cI (v 2) sn) ++ ((rtW cI (v 4) r) ++ ((nwW cI (v 3) tr) ++ ((nwW cI (v 0) n) ++ (mdW cI z g)))))))))) (hS : va_S A s.heap H locs) (hl : lv_has ls 4 [(0, .ref b), (1, .ref a), (2, .ref (z 0)), (3, .int (nI i))]) (kk : ∀ (H : Heap) (locs : List Loc) (ls : Array Slot), va_P D vwCl ((cxW a (v 0 0) (v 1 0) (v 2 0) (v 3 0) (v 4 0) (v 5 0) (v 6 0) (kx.1 7)) ++ ((hiW cI cN (v 5) w hi') ++ ((txW cI (v 6) x) ++ ((nwW cI (v 1) o') ++ ((nwW cI (v 2) sn) ++ ((rtW cI (v 4) r) ++ ((nwW cI (v 3) tr) ++ ((nwW cI (v 0) n') ++ (mdW cI z g'))))))))) H → va_D A ((cxW a (v 0 0) (v 1 0) (v 2 0) (v 3 0) (v 4 0) (v 5 0) (v 6 0) (kx.1 7)) ++ ((hiW cI cN (v 5) w hi') ++ ((txW cI (v 6) x) ++ ((nwW cI (v 1) o') ++ ((nwW cI (v 2) sn) ++ ((rtW cI (v 4) r) ++ ((nwW cI (v 3) tr) ++ ((nwW cI (v 0) n') ++ (mdW cI z g'))))))))) → va_S A s.heap H locs → lv_has ls 4 [(0, .ref b), (1, .ref a), (2, .ref (z 0)), (3, .int (nI i))] → W p l e room_1 s m #[Value.ref b] below meth c H locs 120 4135 Q (F0 m 924 ls [])) : W p l e room_1 s m #[Value.ref b] below meth c H locs 120 4135 Q (F0 m 298 ls []) := by
  obtain ⟨hx, hb, hml, hown, hts⟩ := id S
  have ei1 : nI i + (1 : Int32) = nI (i + 1) := by rw [show (1 : Int32) = nI 1 from rfl, nI_add]
  have hin1 : vp_in (nI (i + 1)) L := vp_in_nI (by omega) (by omega)
  have ec1 : (nI (i + 1)).toNatClampNeg = i + 1 := nI_clamp (by omega)
  have ei2 : nI i + (2 : Int32) = nI (i + 2) := by rw [show (2 : Int32) = nI 2 from rfl, nI_add]
  have hin2 : vp_in (nI (i + 2)) L := vp_in_nI (by omega) (by omega)
  have ec2 : (nI (i + 2)).toNatClampNeg = i + 2 := nI_clamp (by omega)
  have ei3 : nI i + (3 : Int32) = nI (i + 3) := by rw [show (3 : Int32) = nI 3 from rfl, nI_add]
  have hin3 : vp_in (nI (i + 3)) L := vp_in_nI (by omega) (by omega)
  have ec3 : (nI (i + 3)).toNatClampNeg = i + 3 := nI_clamp (by omega)
  refine lv_aload_n hx hb dL_law_298 rfl (lv_at hl 1 rfl) ?_
  refine lv_aload_n hx hb dL_law_299 rfl (lv_at hl 0 rfl) ?_
  refine lv_iload_n hx hb dL_law_300 rfl (lv_at hl 3 rfl) ?_
  refine lv_iconst (v := (1 : Int32)) hx hb dL_law_301 kc_iconst_1 ?_
  refine lv_iadd hx hb dL_law_302 ?_
  rw [ei1]
  refine va_sld hx hb hX hbl hbA hS hin1 dL_law_303 ?_
  rw [ec1, ea1]
  refine cBi (As := [.int a1]) (rest := []) (q0 := 0) (ci := 5) [(true, (cxW a (v 0 0) (v 1 0) (v 2 0) (v 3 0) (v 4 0) (v 5 0) (v 6 0) (kx.1 7)), (cxW a (v 0 0) (v 1 0) (v 2 0) (v 3 0) (v 4 0) (v 5 0) (v 6 0) (kx.1 7))), (true, (hiW cI cN (v 5) w hi), (hiW cI cN (v 5) w hi')), (false, (txW cI (v 6) x), (txW cI (v 6) x)), (true, (nwW cI (v 1) o), (nwW cI (v 1) o')), (false, (nwW cI (v 2) sn), (nwW cI (v 2) sn)), (true, (rtW cI (v 4) r), (rtW cI (v 4) r)), (false, (nwW cI (v 3) tr), (nwW cI (v 3) tr)), (true, (nwW cI (v 0) n), (nwW cI (v 0) n')), (false, (mdW cI z g), (mdW cI z g))] ⟨ad_cex, (fun h => Bool.noConfusion h), ad_his, (fun h => Bool.noConfusion h), rfl, (fun _ => rfl), ad_net, (fun h => Bool.noConfusion h), rfl, (fun _ => rfl), ad_rtr, (fun h => Bool.noConfusion h), rfl, (fun _ => rfl), ad_net, (fun h => Bool.noConfusion h), rfl, (fun _ => rfl), trivial⟩ S (c_X5_disconnect l D cI cN a (v 2 0) (v 3 0) (v 6 0) (v 5) w (v 1) (v 4) (v 0) _ kx hi o r n a1 r0 hi' o' n' h5) (cwV 1 hts gL_law_X5_disconnect rfl rfl rfl (by decide +kernel) ⟨Nat.le_of_ble_eq_true rfl, Nat.le_of_ble_eq_true rfl⟩) hK hP hD hS hA rfl rfl rfl hl.1 rfl (Nat.le_of_ble_eq_true rfl) dL_law_304 ⟨Nat.le_of_ble_eq_true rfl, Nat.le_of_ble_eq_true rfl⟩ (fun H locs hP hD hS => ?_)
  refine lv_aload_n hx hb dL_law_307 rfl (lv_at hl 2 rfl) ?_
  refine lv_aload_n hx hb dL_law_308 rfl (lv_at hl 0 rfl) ?_
  refine lv_iload_n hx hb dL_law_309 rfl (lv_at hl 3 rfl) ?_
  refine lv_iconst (v := (1 : Int32)) hx hb dL_law_310 kc_iconst_1 ?_
  refine lv_iadd hx hb dL_law_311 ?_
  rw [ei1]
  refine va_sld hx hb hX hbl hbA hS hin1 dL_law_312 ?_
  rw [ec1, ea1]
  refine cBi (As := [.int a1]) (rest := [.int r0]) (q0 := 115) (ci := 6) [(false, (cxW a (v 0 0) (v 1 0) (v 2 0) (v 3 0) (v 4 0) (v 5 0) (v 6 0) (kx.1 7)), (cxW a (v 0 0) (v 1 0) (v 2 0) (v 3 0) (v 4 0) (v 5 0) (v 6 0) (kx.1 7))), (false, (hiW cI cN (v 5) w hi'), (hiW cI cN (v 5) w hi')), (false, (txW cI (v 6) x), (txW cI (v 6) x)), (false, (nwW cI (v 1) o'), (nwW cI (v 1) o')), (false, (nwW cI (v 2) sn), (nwW cI (v 2) sn)), (false, (rtW cI (v 4) r), (rtW cI (v 4) r)), (false, (nwW cI (v 3) tr), (nwW cI (v 3) tr)), (false, (nwW cI (v 0) n'), (nwW cI (v 0) n')), (true, (mdW cI z g), (mdW cI z g'))] ⟨rfl, (fun _ => rfl), rfl, (fun _ => rfl), rfl, (fun _ => rfl), rfl, (fun _ => rfl), rfl, (fun _ => rfl), rfl, (fun _ => rfl), rfl, (fun _ => rfl), rfl, (fun _ => rfl), ad_mod, (fun h => Bool.noConfusion h), trivial⟩ S (c_X6_disconnect l D cI cN z _ g a1 r0 g' h6) (cwV 1 hts gL_law_X6_disconnect rfl rfl rfl (by decide +kernel) ⟨Nat.le_of_ble_eq_true rfl, Nat.le_of_ble_eq_true rfl⟩) hK hP hD hS hA rfl rfl rfl hl.1 rfl (Nat.le_of_ble_eq_true rfl) dL_law_313 ⟨Nat.le_of_ble_eq_true rfl, Nat.le_of_ble_eq_true rfl⟩ (fun H locs hP hD hS => ?_)
  refine lv_icmp_eq (tgt := 924) hx hb dL_law_316 (by decide) (fun _ => ?_) (fun cne => absurd rfl cne)
  exact kk H locs ls hP hD hS hl
set_option maxRecDepth 100000 in
set_option maxHeartbeats 4000000 in
theorem lc_5 {p : Program} {l : Launch} {e : Env} {s : State} {m : MethodId} {below : List Frame} {meth : Method} {c : Code} {Q : State → Prop} {D : va_G} {cI cN : ClassId} {A : Nat → Prop} {b L : Nat} {xs : Nat → Int32} {a : Nat} {v w : Nat → Nat → Nat} {z : Nat → Nat} (S : CallFix p m c cL_law 4 s #[Value.ref b] wsL_law RL) (hK : KN D cI cN s) (hA : ∀ q : Nat, s.heap.size ≤ q → A q) (hX : va_X b L xs s s.heap) (hbl : b < s.heap.size) (hbA : ¬ A b) {i : Nat} (hi4 : i + 4 ≤ L) (hL : L ≤ 2048) {kx : OS} {hi : HS} {x o sn r tr n g : OS} {hi' : HS} {o' : OS} {r' : OS} {n' : OS} {g' : OS} {r0 : Int32} {a1 : Int32} (ea1 : xs (i + 1) = a1) (h5 : fX5_takeOut kx hi o r n a1 = some (r0, hi', o', r', n')) (h6 : fX6_takeOut g a1 = some (r0, g')) (H : Heap) (locs : List Loc) (ls : Array Slot) (hP : va_P D vwCl ((cxW a (v 0 0) (v 1 0) (v 2 0) (v 3 0) (v 4 0) (v 5 0) (v 6 0) (kx.1 7)) ++ ((hiW cI cN (v 5) w hi) ++ ((txW cI (v 6) x) ++ ((nwW cI (v 1) o) ++ ((nwW cI (v 2) sn) ++ ((rtW cI (v 4) r) ++ ((nwW cI (v 3) tr) ++ ((nwW cI (v 0) n) ++ (mdW cI z g))))))))) H) (hD : va_D A ((cxW a (v 0 0) (v 1 0) (v 2 0) (v 3 0) (v 4 0) (v 5 0) (v 6 0) (kx.1 7)) ++ ((hiW cI cN (v 5) w hi) ++ ((txW cI (v 6) x) ++ ((nwW cI (v 1) o) ++ ((nwW cI (v 2) sn) ++ ((rtW cI (v 4) r) ++ ((nwW cI (v 3) tr) ++ ((nwW cI (v 0) n) ++ (mdW cI z g)))))))))) (hS : va_S A s.heap H locs) (hl : lv_has ls 4 [(0, .ref b), (1, .ref a), (2, .ref (z 0)), (3, .int (nI i))]) (kk : ∀ (H : Heap) (locs : List Loc) (ls : Array Slot), va_P D vwCl ((cxW a (v 0 0) (v 1 0) (v 2 0) (v 3 0) (v 4 0) (v 5 0) (v 6 0) (kx.1 7)) ++ ((hiW cI cN (v 5) w hi') ++ ((txW cI (v 6) x) ++ ((nwW cI (v 1) o') ++ ((nwW cI (v 2) sn) ++ ((rtW cI (v 4) r') ++ ((nwW cI (v 3) tr) ++ ((nwW cI (v 0) n') ++ (mdW cI z g'))))))))) H → va_D A ((cxW a (v 0 0) (v 1 0) (v 2 0) (v 3 0) (v 4 0) (v 5 0) (v 6 0) (kx.1 7)) ++ ((hiW cI cN (v 5) w hi') ++ ((txW cI (v 6) x) ++ ((nwW cI (v 1) o') ++ ((nwW cI (v 2) sn) ++ ((rtW cI (v 4) r') ++ ((nwW cI (v 3) tr) ++ ((nwW cI (v 0) n') ++ (mdW cI z g'))))))))) → va_S A s.heap H locs → lv_has ls 4 [(0, .ref b), (1, .ref a), (2, .ref (z 0)), (3, .int (nI i))] → W p l e room_1 s m #[Value.ref b] below meth c H locs 120 4135 Q (F0 m 924 ls [])) : W p l e room_1 s m #[Value.ref b] below meth c H locs 120 4135 Q (F0 m 321 ls []) := by
  obtain ⟨hx, hb, hml, hown, hts⟩ := id S
  have ei1 : nI i + (1 : Int32) = nI (i + 1) := by rw [show (1 : Int32) = nI 1 from rfl, nI_add]
  have hin1 : vp_in (nI (i + 1)) L := vp_in_nI (by omega) (by omega)
  have ec1 : (nI (i + 1)).toNatClampNeg = i + 1 := nI_clamp (by omega)
  have ei2 : nI i + (2 : Int32) = nI (i + 2) := by rw [show (2 : Int32) = nI 2 from rfl, nI_add]
  have hin2 : vp_in (nI (i + 2)) L := vp_in_nI (by omega) (by omega)
  have ec2 : (nI (i + 2)).toNatClampNeg = i + 2 := nI_clamp (by omega)
  have ei3 : nI i + (3 : Int32) = nI (i + 3) := by rw [show (3 : Int32) = nI 3 from rfl, nI_add]
  have hin3 : vp_in (nI (i + 3)) L := vp_in_nI (by omega) (by omega)
  have ec3 : (nI (i + 3)).toNatClampNeg = i + 3 := nI_clamp (by omega)
  refine lv_aload_n hx hb dL_law_321 rfl (lv_at hl 1 rfl) ?_
  refine lv_aload_n hx hb dL_law_322 rfl (lv_at hl 0 rfl) ?_
  refine lv_iload_n hx hb dL_law_323 rfl (lv_at hl 3 rfl) ?_
  refine lv_iconst (v := (1 : Int32)) hx hb dL_law_324 kc_iconst_1 ?_
  refine lv_iadd hx hb dL_law_325 ?_
  rw [ei1]
  refine va_sld hx hb hX hbl hbA hS hin1 dL_law_326 ?_
  rw [ec1, ea1]
  refine cBi (As := [.int a1]) (rest := []) (q0 := 0) (ci := 5) [(true, (cxW a (v 0 0) (v 1 0) (v 2 0) (v 3 0) (v 4 0) (v 5 0) (v 6 0) (kx.1 7)), (cxW a (v 0 0) (v 1 0) (v 2 0) (v 3 0) (v 4 0) (v 5 0) (v 6 0) (kx.1 7))), (true, (hiW cI cN (v 5) w hi), (hiW cI cN (v 5) w hi')), (false, (txW cI (v 6) x), (txW cI (v 6) x)), (true, (nwW cI (v 1) o), (nwW cI (v 1) o')), (false, (nwW cI (v 2) sn), (nwW cI (v 2) sn)), (true, (rtW cI (v 4) r), (rtW cI (v 4) r')), (false, (nwW cI (v 3) tr), (nwW cI (v 3) tr)), (true, (nwW cI (v 0) n), (nwW cI (v 0) n')), (false, (mdW cI z g), (mdW cI z g))] ⟨ad_cex, (fun h => Bool.noConfusion h), ad_his, (fun h => Bool.noConfusion h), rfl, (fun _ => rfl), ad_net, (fun h => Bool.noConfusion h), rfl, (fun _ => rfl), ad_rtr, (fun h => Bool.noConfusion h), rfl, (fun _ => rfl), ad_net, (fun h => Bool.noConfusion h), rfl, (fun _ => rfl), trivial⟩ S (c_X5_takeOut l D cI cN a (v 2 0) (v 3 0) (v 6 0) (v 5) w (v 1) (v 4) (v 0) _ kx hi o r n a1 r0 hi' o' r' n' h5) (cwV 1 hts gL_law_X5_takeOut rfl rfl rfl (by decide +kernel) ⟨Nat.le_of_ble_eq_true rfl, Nat.le_of_ble_eq_true rfl⟩) hK hP hD hS hA rfl rfl rfl hl.1 rfl (Nat.le_of_ble_eq_true rfl) dL_law_327 ⟨Nat.le_of_ble_eq_true rfl, Nat.le_of_ble_eq_true rfl⟩ (fun H locs hP hD hS => ?_)
  refine lv_aload_n hx hb dL_law_330 rfl (lv_at hl 2 rfl) ?_
  refine lv_aload_n hx hb dL_law_331 rfl (lv_at hl 0 rfl) ?_
  refine lv_iload_n hx hb dL_law_332 rfl (lv_at hl 3 rfl) ?_
  refine lv_iconst (v := (1 : Int32)) hx hb dL_law_333 kc_iconst_1 ?_
  refine lv_iadd hx hb dL_law_334 ?_
  rw [ei1]
  refine va_sld hx hb hX hbl hbA hS hin1 dL_law_335 ?_
  rw [ec1, ea1]
  refine cBi (As := [.int a1]) (rest := [.int r0]) (q0 := 115) (ci := 6) [(false, (cxW a (v 0 0) (v 1 0) (v 2 0) (v 3 0) (v 4 0) (v 5 0) (v 6 0) (kx.1 7)), (cxW a (v 0 0) (v 1 0) (v 2 0) (v 3 0) (v 4 0) (v 5 0) (v 6 0) (kx.1 7))), (false, (hiW cI cN (v 5) w hi'), (hiW cI cN (v 5) w hi')), (false, (txW cI (v 6) x), (txW cI (v 6) x)), (false, (nwW cI (v 1) o'), (nwW cI (v 1) o')), (false, (nwW cI (v 2) sn), (nwW cI (v 2) sn)), (false, (rtW cI (v 4) r'), (rtW cI (v 4) r')), (false, (nwW cI (v 3) tr), (nwW cI (v 3) tr)), (false, (nwW cI (v 0) n'), (nwW cI (v 0) n')), (true, (mdW cI z g), (mdW cI z g'))] ⟨rfl, (fun _ => rfl), rfl, (fun _ => rfl), rfl, (fun _ => rfl), rfl, (fun _ => rfl), rfl, (fun _ => rfl), rfl, (fun _ => rfl), rfl, (fun _ => rfl), rfl, (fun _ => rfl), ad_mod, (fun h => Bool.noConfusion h), trivial⟩ S (c_X6_takeOut l D cI cN z _ g a1 r0 g' h6) (cwV 1 hts gL_law_X6_takeOut rfl rfl rfl (by decide +kernel) ⟨Nat.le_of_ble_eq_true rfl, Nat.le_of_ble_eq_true rfl⟩) hK hP hD hS hA rfl rfl rfl hl.1 rfl (Nat.le_of_ble_eq_true rfl) dL_law_336 ⟨Nat.le_of_ble_eq_true rfl, Nat.le_of_ble_eq_true rfl⟩ (fun H locs hP hD hS => ?_)
  refine lv_icmp_eq (tgt := 924) hx hb dL_law_339 (by decide) (fun _ => ?_) (fun cne => absurd rfl cne)
  exact kk H locs ls hP hD hS hl
set_option maxRecDepth 100000 in
set_option maxHeartbeats 4000000 in
theorem lc_6 {p : Program} {l : Launch} {e : Env} {s : State} {m : MethodId} {below : List Frame} {meth : Method} {c : Code} {Q : State → Prop} {D : va_G} {cI cN : ClassId} {A : Nat → Prop} {b L : Nat} {xs : Nat → Int32} {a : Nat} {v w : Nat → Nat → Nat} {z : Nat → Nat} (S : CallFix p m c cL_law 4 s #[Value.ref b] wsL_law RL) (hK : KN D cI cN s) (hA : ∀ q : Nat, s.heap.size ≤ q → A q) (hX : va_X b L xs s s.heap) (hbl : b < s.heap.size) (hbA : ¬ A b) {i : Nat} (hi4 : i + 4 ≤ L) (hL : L ≤ 2048) {kx : OS} {hi : HS} {x o sn r tr n g : OS} {hi' : HS} {o' : OS} {n' : OS} {g' : OS} {r0 : Int32} {a1 : Int32} (ea1 : xs (i + 1) = a1) (h5 : fX5_putBack kx hi o r n a1 = some (r0, hi', o', n')) (h6 : fX6_putBack g a1 = some (r0, g')) (H : Heap) (locs : List Loc) (ls : Array Slot) (hP : va_P D vwCl ((cxW a (v 0 0) (v 1 0) (v 2 0) (v 3 0) (v 4 0) (v 5 0) (v 6 0) (kx.1 7)) ++ ((hiW cI cN (v 5) w hi) ++ ((txW cI (v 6) x) ++ ((nwW cI (v 1) o) ++ ((nwW cI (v 2) sn) ++ ((rtW cI (v 4) r) ++ ((nwW cI (v 3) tr) ++ ((nwW cI (v 0) n) ++ (mdW cI z g))))))))) H) (hD : va_D A ((cxW a (v 0 0) (v 1 0) (v 2 0) (v 3 0) (v 4 0) (v 5 0) (v 6 0) (kx.1 7)) ++ ((hiW cI cN (v 5) w hi) ++ ((txW cI (v 6) x) ++ ((nwW cI (v 1) o) ++ ((nwW cI (v 2) sn) ++ ((rtW cI (v 4) r) ++ ((nwW cI (v 3) tr) ++ ((nwW cI (v 0) n) ++ (mdW cI z g)))))))))) (hS : va_S A s.heap H locs) (hl : lv_has ls 4 [(0, .ref b), (1, .ref a), (2, .ref (z 0)), (3, .int (nI i))]) (kk : ∀ (H : Heap) (locs : List Loc) (ls : Array Slot), va_P D vwCl ((cxW a (v 0 0) (v 1 0) (v 2 0) (v 3 0) (v 4 0) (v 5 0) (v 6 0) (kx.1 7)) ++ ((hiW cI cN (v 5) w hi') ++ ((txW cI (v 6) x) ++ ((nwW cI (v 1) o') ++ ((nwW cI (v 2) sn) ++ ((rtW cI (v 4) r) ++ ((nwW cI (v 3) tr) ++ ((nwW cI (v 0) n') ++ (mdW cI z g'))))))))) H → va_D A ((cxW a (v 0 0) (v 1 0) (v 2 0) (v 3 0) (v 4 0) (v 5 0) (v 6 0) (kx.1 7)) ++ ((hiW cI cN (v 5) w hi') ++ ((txW cI (v 6) x) ++ ((nwW cI (v 1) o') ++ ((nwW cI (v 2) sn) ++ ((rtW cI (v 4) r) ++ ((nwW cI (v 3) tr) ++ ((nwW cI (v 0) n') ++ (mdW cI z g'))))))))) → va_S A s.heap H locs → lv_has ls 4 [(0, .ref b), (1, .ref a), (2, .ref (z 0)), (3, .int (nI i))] → W p l e room_1 s m #[Value.ref b] below meth c H locs 120 4135 Q (F0 m 924 ls [])) : W p l e room_1 s m #[Value.ref b] below meth c H locs 120 4135 Q (F0 m 344 ls []) := by
  obtain ⟨hx, hb, hml, hown, hts⟩ := id S
  have ei1 : nI i + (1 : Int32) = nI (i + 1) := by rw [show (1 : Int32) = nI 1 from rfl, nI_add]
  have hin1 : vp_in (nI (i + 1)) L := vp_in_nI (by omega) (by omega)
  have ec1 : (nI (i + 1)).toNatClampNeg = i + 1 := nI_clamp (by omega)
  have ei2 : nI i + (2 : Int32) = nI (i + 2) := by rw [show (2 : Int32) = nI 2 from rfl, nI_add]
  have hin2 : vp_in (nI (i + 2)) L := vp_in_nI (by omega) (by omega)
  have ec2 : (nI (i + 2)).toNatClampNeg = i + 2 := nI_clamp (by omega)
  have ei3 : nI i + (3 : Int32) = nI (i + 3) := by rw [show (3 : Int32) = nI 3 from rfl, nI_add]
  have hin3 : vp_in (nI (i + 3)) L := vp_in_nI (by omega) (by omega)
  have ec3 : (nI (i + 3)).toNatClampNeg = i + 3 := nI_clamp (by omega)
  refine lv_aload_n hx hb dL_law_344 rfl (lv_at hl 1 rfl) ?_
  refine lv_aload_n hx hb dL_law_345 rfl (lv_at hl 0 rfl) ?_
  refine lv_iload_n hx hb dL_law_346 rfl (lv_at hl 3 rfl) ?_
  refine lv_iconst (v := (1 : Int32)) hx hb dL_law_347 kc_iconst_1 ?_
  refine lv_iadd hx hb dL_law_348 ?_
  rw [ei1]
  refine va_sld hx hb hX hbl hbA hS hin1 dL_law_349 ?_
  rw [ec1, ea1]
  refine cBi (As := [.int a1]) (rest := []) (q0 := 0) (ci := 5) [(true, (cxW a (v 0 0) (v 1 0) (v 2 0) (v 3 0) (v 4 0) (v 5 0) (v 6 0) (kx.1 7)), (cxW a (v 0 0) (v 1 0) (v 2 0) (v 3 0) (v 4 0) (v 5 0) (v 6 0) (kx.1 7))), (true, (hiW cI cN (v 5) w hi), (hiW cI cN (v 5) w hi')), (false, (txW cI (v 6) x), (txW cI (v 6) x)), (true, (nwW cI (v 1) o), (nwW cI (v 1) o')), (false, (nwW cI (v 2) sn), (nwW cI (v 2) sn)), (true, (rtW cI (v 4) r), (rtW cI (v 4) r)), (false, (nwW cI (v 3) tr), (nwW cI (v 3) tr)), (true, (nwW cI (v 0) n), (nwW cI (v 0) n')), (false, (mdW cI z g), (mdW cI z g))] ⟨ad_cex, (fun h => Bool.noConfusion h), ad_his, (fun h => Bool.noConfusion h), rfl, (fun _ => rfl), ad_net, (fun h => Bool.noConfusion h), rfl, (fun _ => rfl), ad_rtr, (fun h => Bool.noConfusion h), rfl, (fun _ => rfl), ad_net, (fun h => Bool.noConfusion h), rfl, (fun _ => rfl), trivial⟩ S (c_X5_putBack l D cI cN a (v 2 0) (v 3 0) (v 6 0) (v 5) w (v 1) (v 4) (v 0) _ kx hi o r n a1 r0 hi' o' n' h5) (cwV 1 hts gL_law_X5_putBack rfl rfl rfl (by decide +kernel) ⟨Nat.le_of_ble_eq_true rfl, Nat.le_of_ble_eq_true rfl⟩) hK hP hD hS hA rfl rfl rfl hl.1 rfl (Nat.le_of_ble_eq_true rfl) dL_law_350 ⟨Nat.le_of_ble_eq_true rfl, Nat.le_of_ble_eq_true rfl⟩ (fun H locs hP hD hS => ?_)
  refine lv_aload_n hx hb dL_law_353 rfl (lv_at hl 2 rfl) ?_
  refine lv_aload_n hx hb dL_law_354 rfl (lv_at hl 0 rfl) ?_
  refine lv_iload_n hx hb dL_law_355 rfl (lv_at hl 3 rfl) ?_
  refine lv_iconst (v := (1 : Int32)) hx hb dL_law_356 kc_iconst_1 ?_
  refine lv_iadd hx hb dL_law_357 ?_
  rw [ei1]
  refine va_sld hx hb hX hbl hbA hS hin1 dL_law_358 ?_
  rw [ec1, ea1]
  refine cBi (As := [.int a1]) (rest := [.int r0]) (q0 := 115) (ci := 6) [(false, (cxW a (v 0 0) (v 1 0) (v 2 0) (v 3 0) (v 4 0) (v 5 0) (v 6 0) (kx.1 7)), (cxW a (v 0 0) (v 1 0) (v 2 0) (v 3 0) (v 4 0) (v 5 0) (v 6 0) (kx.1 7))), (false, (hiW cI cN (v 5) w hi'), (hiW cI cN (v 5) w hi')), (false, (txW cI (v 6) x), (txW cI (v 6) x)), (false, (nwW cI (v 1) o'), (nwW cI (v 1) o')), (false, (nwW cI (v 2) sn), (nwW cI (v 2) sn)), (false, (rtW cI (v 4) r), (rtW cI (v 4) r)), (false, (nwW cI (v 3) tr), (nwW cI (v 3) tr)), (false, (nwW cI (v 0) n'), (nwW cI (v 0) n')), (true, (mdW cI z g), (mdW cI z g'))] ⟨rfl, (fun _ => rfl), rfl, (fun _ => rfl), rfl, (fun _ => rfl), rfl, (fun _ => rfl), rfl, (fun _ => rfl), rfl, (fun _ => rfl), rfl, (fun _ => rfl), rfl, (fun _ => rfl), ad_mod, (fun h => Bool.noConfusion h), trivial⟩ S (c_X6_putBack l D cI cN z _ g a1 r0 g' h6) (cwV 1 hts gL_law_X6_putBack rfl rfl rfl (by decide +kernel) ⟨Nat.le_of_ble_eq_true rfl, Nat.le_of_ble_eq_true rfl⟩) hK hP hD hS hA rfl rfl rfl hl.1 rfl (Nat.le_of_ble_eq_true rfl) dL_law_359 ⟨Nat.le_of_ble_eq_true rfl, Nat.le_of_ble_eq_true rfl⟩ (fun H locs hP hD hS => ?_)
  refine lv_icmp_eq (tgt := 924) hx hb dL_law_362 (by decide) (fun _ => ?_) (fun cne => absurd rfl cne)
  exact kk H locs ls hP hD hS hl
set_option maxRecDepth 100000 in
set_option maxHeartbeats 4000000 in
theorem lc_7 {p : Program} {l : Launch} {e : Env} {s : State} {m : MethodId} {below : List Frame} {meth : Method} {c : Code} {Q : State → Prop} {D : va_G} {cI cN : ClassId} {A : Nat → Prop} {b L : Nat} {xs : Nat → Int32} {a : Nat} {v w : Nat → Nat → Nat} {z : Nat → Nat} (S : CallFix p m c cL_law 4 s #[Value.ref b] wsL_law RL) (hK : KN D cI cN s) (hA : ∀ q : Nat, s.heap.size ≤ q → A q) (hX : va_X b L xs s s.heap) (hbl : b < s.heap.size) (hbA : ¬ A b) {i : Nat} (hi4 : i + 4 ≤ L) (hL : L ≤ 2048) {kx : OS} {hi : HS} {x o sn r tr n g : OS} {hi' : HS} {o' : OS} {r' : OS} {n' : OS} {g' : OS} {r0 : Int32} (h5 : fX5_pack kx hi o r n = some (r0, hi', o', r', n')) (h6 : fX6_pack g = some (r0, g')) (H : Heap) (locs : List Loc) (ls : Array Slot) (hP : va_P D vwCl ((cxW a (v 0 0) (v 1 0) (v 2 0) (v 3 0) (v 4 0) (v 5 0) (v 6 0) (kx.1 7)) ++ ((hiW cI cN (v 5) w hi) ++ ((txW cI (v 6) x) ++ ((nwW cI (v 1) o) ++ ((nwW cI (v 2) sn) ++ ((rtW cI (v 4) r) ++ ((nwW cI (v 3) tr) ++ ((nwW cI (v 0) n) ++ (mdW cI z g))))))))) H) (hD : va_D A ((cxW a (v 0 0) (v 1 0) (v 2 0) (v 3 0) (v 4 0) (v 5 0) (v 6 0) (kx.1 7)) ++ ((hiW cI cN (v 5) w hi) ++ ((txW cI (v 6) x) ++ ((nwW cI (v 1) o) ++ ((nwW cI (v 2) sn) ++ ((rtW cI (v 4) r) ++ ((nwW cI (v 3) tr) ++ ((nwW cI (v 0) n) ++ (mdW cI z g)))))))))) (hS : va_S A s.heap H locs) (hl : lv_has ls 4 [(0, .ref b), (1, .ref a), (2, .ref (z 0)), (3, .int (nI i))]) (kk : ∀ (H : Heap) (locs : List Loc) (ls : Array Slot), va_P D vwCl ((cxW a (v 0 0) (v 1 0) (v 2 0) (v 3 0) (v 4 0) (v 5 0) (v 6 0) (kx.1 7)) ++ ((hiW cI cN (v 5) w hi') ++ ((txW cI (v 6) x) ++ ((nwW cI (v 1) o') ++ ((nwW cI (v 2) sn) ++ ((rtW cI (v 4) r') ++ ((nwW cI (v 3) tr) ++ ((nwW cI (v 0) n') ++ (mdW cI z g'))))))))) H → va_D A ((cxW a (v 0 0) (v 1 0) (v 2 0) (v 3 0) (v 4 0) (v 5 0) (v 6 0) (kx.1 7)) ++ ((hiW cI cN (v 5) w hi') ++ ((txW cI (v 6) x) ++ ((nwW cI (v 1) o') ++ ((nwW cI (v 2) sn) ++ ((rtW cI (v 4) r') ++ ((nwW cI (v 3) tr) ++ ((nwW cI (v 0) n') ++ (mdW cI z g'))))))))) → va_S A s.heap H locs → lv_has ls 4 [(0, .ref b), (1, .ref a), (2, .ref (z 0)), (3, .int (nI i))] → W p l e room_1 s m #[Value.ref b] below meth c H locs 120 4135 Q (F0 m 924 ls [])) : W p l e room_1 s m #[Value.ref b] below meth c H locs 120 4135 Q (F0 m 367 ls []) := by
  obtain ⟨hx, hb, hml, hown, hts⟩ := id S
  have ei1 : nI i + (1 : Int32) = nI (i + 1) := by rw [show (1 : Int32) = nI 1 from rfl, nI_add]
  have hin1 : vp_in (nI (i + 1)) L := vp_in_nI (by omega) (by omega)
  have ec1 : (nI (i + 1)).toNatClampNeg = i + 1 := nI_clamp (by omega)
  have ei2 : nI i + (2 : Int32) = nI (i + 2) := by rw [show (2 : Int32) = nI 2 from rfl, nI_add]
  have hin2 : vp_in (nI (i + 2)) L := vp_in_nI (by omega) (by omega)
  have ec2 : (nI (i + 2)).toNatClampNeg = i + 2 := nI_clamp (by omega)
  have ei3 : nI i + (3 : Int32) = nI (i + 3) := by rw [show (3 : Int32) = nI 3 from rfl, nI_add]
  have hin3 : vp_in (nI (i + 3)) L := vp_in_nI (by omega) (by omega)
  have ec3 : (nI (i + 3)).toNatClampNeg = i + 3 := nI_clamp (by omega)
  refine lv_aload_n hx hb dL_law_367 rfl (lv_at hl 1 rfl) ?_
  refine cBi (As := []) (rest := []) (q0 := 0) (ci := 5) [(true, (cxW a (v 0 0) (v 1 0) (v 2 0) (v 3 0) (v 4 0) (v 5 0) (v 6 0) (kx.1 7)), (cxW a (v 0 0) (v 1 0) (v 2 0) (v 3 0) (v 4 0) (v 5 0) (v 6 0) (kx.1 7))), (true, (hiW cI cN (v 5) w hi), (hiW cI cN (v 5) w hi')), (false, (txW cI (v 6) x), (txW cI (v 6) x)), (true, (nwW cI (v 1) o), (nwW cI (v 1) o')), (false, (nwW cI (v 2) sn), (nwW cI (v 2) sn)), (true, (rtW cI (v 4) r), (rtW cI (v 4) r')), (false, (nwW cI (v 3) tr), (nwW cI (v 3) tr)), (true, (nwW cI (v 0) n), (nwW cI (v 0) n')), (false, (mdW cI z g), (mdW cI z g))] ⟨ad_cex, (fun h => Bool.noConfusion h), ad_his, (fun h => Bool.noConfusion h), rfl, (fun _ => rfl), ad_net, (fun h => Bool.noConfusion h), rfl, (fun _ => rfl), ad_rtr, (fun h => Bool.noConfusion h), rfl, (fun _ => rfl), ad_net, (fun h => Bool.noConfusion h), rfl, (fun _ => rfl), trivial⟩ S (c_X5_pack l D cI cN a (v 2 0) (v 3 0) (v 6 0) (v 5) w (v 1) (v 4) (v 0) _ kx hi o r n  r0 hi' o' r' n' h5) (cwV 0 hts gL_law_X5_pack rfl rfl rfl (by decide +kernel) ⟨Nat.le_of_ble_eq_true rfl, Nat.le_of_ble_eq_true rfl⟩) hK hP hD hS hA rfl rfl rfl hl.1 rfl (Nat.le_of_ble_eq_true rfl) dL_law_368 ⟨Nat.le_of_ble_eq_true rfl, Nat.le_of_ble_eq_true rfl⟩ (fun H locs hP hD hS => ?_)
  refine lv_aload_n hx hb dL_law_371 rfl (lv_at hl 2 rfl) ?_
  refine cBi (As := []) (rest := [.int r0]) (q0 := 115) (ci := 6) [(false, (cxW a (v 0 0) (v 1 0) (v 2 0) (v 3 0) (v 4 0) (v 5 0) (v 6 0) (kx.1 7)), (cxW a (v 0 0) (v 1 0) (v 2 0) (v 3 0) (v 4 0) (v 5 0) (v 6 0) (kx.1 7))), (false, (hiW cI cN (v 5) w hi'), (hiW cI cN (v 5) w hi')), (false, (txW cI (v 6) x), (txW cI (v 6) x)), (false, (nwW cI (v 1) o'), (nwW cI (v 1) o')), (false, (nwW cI (v 2) sn), (nwW cI (v 2) sn)), (false, (rtW cI (v 4) r'), (rtW cI (v 4) r')), (false, (nwW cI (v 3) tr), (nwW cI (v 3) tr)), (false, (nwW cI (v 0) n'), (nwW cI (v 0) n')), (true, (mdW cI z g), (mdW cI z g'))] ⟨rfl, (fun _ => rfl), rfl, (fun _ => rfl), rfl, (fun _ => rfl), rfl, (fun _ => rfl), rfl, (fun _ => rfl), rfl, (fun _ => rfl), rfl, (fun _ => rfl), rfl, (fun _ => rfl), ad_mod, (fun h => Bool.noConfusion h), trivial⟩ S (c_X6_pack l D cI cN z _ g  r0 g' h6) (cwV 0 hts gL_law_X6_pack rfl rfl rfl (by decide +kernel) ⟨Nat.le_of_ble_eq_true rfl, Nat.le_of_ble_eq_true rfl⟩) hK hP hD hS hA rfl rfl rfl hl.1 rfl (Nat.le_of_ble_eq_true rfl) dL_law_372 ⟨Nat.le_of_ble_eq_true rfl, Nat.le_of_ble_eq_true rfl⟩ (fun H locs hP hD hS => ?_)
  refine lv_icmp_eq (tgt := 924) hx hb dL_law_375 (by decide) (fun _ => ?_) (fun cne => absurd rfl cne)
  exact kk H locs ls hP hD hS hl
set_option maxRecDepth 100000 in
set_option maxHeartbeats 4000000 in
theorem lc_8 {p : Program} {l : Launch} {e : Env} {s : State} {m : MethodId} {below : List Frame} {meth : Method} {c : Code} {Q : State → Prop} {D : va_G} {cI cN : ClassId} {A : Nat → Prop} {b L : Nat} {xs : Nat → Int32} {a : Nat} {v w : Nat → Nat → Nat} {z : Nat → Nat} (S : CallFix p m c cL_law 4 s #[Value.ref b] wsL_law RL) (hK : KN D cI cN s) (hA : ∀ q : Nat, s.heap.size ≤ q → A q) (hX : va_X b L xs s s.heap) (hbl : b < s.heap.size) (hbA : ¬ A b) {i : Nat} (hi4 : i + 4 ≤ L) (hL : L ≤ 2048) {kx : OS} {hi : HS} {x o sn r tr n g : OS} {x' : OS} {g' : OS} {r0 : Int32} {a1 : Nat} (ea1 : ((xs (i + 1)).toUInt32 % 65536).toInt32 = nI a1) (h5 : fX5_type kx x (nI a1) = (r0, x')) (h6 : fX6_type g (nI a1) = some (r0, g')) (H : Heap) (locs : List Loc) (ls : Array Slot) (hP : va_P D vwCl ((cxW a (v 0 0) (v 1 0) (v 2 0) (v 3 0) (v 4 0) (v 5 0) (v 6 0) (kx.1 7)) ++ ((hiW cI cN (v 5) w hi) ++ ((txW cI (v 6) x) ++ ((nwW cI (v 1) o) ++ ((nwW cI (v 2) sn) ++ ((rtW cI (v 4) r) ++ ((nwW cI (v 3) tr) ++ ((nwW cI (v 0) n) ++ (mdW cI z g))))))))) H) (hD : va_D A ((cxW a (v 0 0) (v 1 0) (v 2 0) (v 3 0) (v 4 0) (v 5 0) (v 6 0) (kx.1 7)) ++ ((hiW cI cN (v 5) w hi) ++ ((txW cI (v 6) x) ++ ((nwW cI (v 1) o) ++ ((nwW cI (v 2) sn) ++ ((rtW cI (v 4) r) ++ ((nwW cI (v 3) tr) ++ ((nwW cI (v 0) n) ++ (mdW cI z g)))))))))) (hS : va_S A s.heap H locs) (hl : lv_has ls 4 [(0, .ref b), (1, .ref a), (2, .ref (z 0)), (3, .int (nI i))]) (kk : ∀ (H : Heap) (locs : List Loc) (ls : Array Slot), va_P D vwCl ((cxW a (v 0 0) (v 1 0) (v 2 0) (v 3 0) (v 4 0) (v 5 0) (v 6 0) (kx.1 7)) ++ ((hiW cI cN (v 5) w hi) ++ ((txW cI (v 6) x') ++ ((nwW cI (v 1) o) ++ ((nwW cI (v 2) sn) ++ ((rtW cI (v 4) r) ++ ((nwW cI (v 3) tr) ++ ((nwW cI (v 0) n) ++ (mdW cI z g'))))))))) H → va_D A ((cxW a (v 0 0) (v 1 0) (v 2 0) (v 3 0) (v 4 0) (v 5 0) (v 6 0) (kx.1 7)) ++ ((hiW cI cN (v 5) w hi) ++ ((txW cI (v 6) x') ++ ((nwW cI (v 1) o) ++ ((nwW cI (v 2) sn) ++ ((rtW cI (v 4) r) ++ ((nwW cI (v 3) tr) ++ ((nwW cI (v 0) n) ++ (mdW cI z g'))))))))) → va_S A s.heap H locs → lv_has ls 4 [(0, .ref b), (1, .ref a), (2, .ref (z 0)), (3, .int (nI i))] → W p l e room_1 s m #[Value.ref b] below meth c H locs 120 4135 Q (F0 m 924 ls [])) : W p l e room_1 s m #[Value.ref b] below meth c H locs 120 4135 Q (F0 m 380 ls []) := by
  obtain ⟨hx, hb, hml, hown, hts⟩ := id S
  have ei1 : nI i + (1 : Int32) = nI (i + 1) := by rw [show (1 : Int32) = nI 1 from rfl, nI_add]
  have hin1 : vp_in (nI (i + 1)) L := vp_in_nI (by omega) (by omega)
  have ec1 : (nI (i + 1)).toNatClampNeg = i + 1 := nI_clamp (by omega)
  have ei2 : nI i + (2 : Int32) = nI (i + 2) := by rw [show (2 : Int32) = nI 2 from rfl, nI_add]
  have hin2 : vp_in (nI (i + 2)) L := vp_in_nI (by omega) (by omega)
  have ec2 : (nI (i + 2)).toNatClampNeg = i + 2 := nI_clamp (by omega)
  have ei3 : nI i + (3 : Int32) = nI (i + 3) := by rw [show (3 : Int32) = nI 3 from rfl, nI_add]
  have hin3 : vp_in (nI (i + 3)) L := vp_in_nI (by omega) (by omega)
  have ec3 : (nI (i + 3)).toNatClampNeg = i + 3 := nI_clamp (by omega)
  refine lv_aload_n hx hb dL_law_380 rfl (lv_at hl 1 rfl) ?_
  refine lv_aload_n hx hb dL_law_381 rfl (lv_at hl 0 rfl) ?_
  refine lv_iload_n hx hb dL_law_382 rfl (lv_at hl 3 rfl) ?_
  refine lv_iconst (v := (1 : Int32)) hx hb dL_law_383 kc_iconst_1 ?_
  refine lv_iadd hx hb dL_law_384 ?_
  rw [ei1]
  refine va_sld hx hb hX hbl hbA hS hin1 dL_law_385 ?_
  rw [ec1]
  refine lv_i2c hx hb dL_law_386 ea1 ?_
  refine cBi (As := [.int (nI a1)]) (rest := []) (q0 := 0) (ci := 5) [(true, (cxW a (v 0 0) (v 1 0) (v 2 0) (v 3 0) (v 4 0) (v 5 0) (v 6 0) (kx.1 7)), (cxW a (v 0 0) (v 1 0) (v 2 0) (v 3 0) (v 4 0) (v 5 0) (v 6 0) (kx.1 7))), (false, (hiW cI cN (v 5) w hi), (hiW cI cN (v 5) w hi)), (true, (txW cI (v 6) x), (txW cI (v 6) x')), (false, (nwW cI (v 1) o), (nwW cI (v 1) o)), (false, (nwW cI (v 2) sn), (nwW cI (v 2) sn)), (false, (rtW cI (v 4) r), (rtW cI (v 4) r)), (false, (nwW cI (v 3) tr), (nwW cI (v 3) tr)), (false, (nwW cI (v 0) n), (nwW cI (v 0) n)), (false, (mdW cI z g), (mdW cI z g))] ⟨ad_cex, (fun h => Bool.noConfusion h), rfl, (fun _ => rfl), ad_txt, (fun h => Bool.noConfusion h), rfl, (fun _ => rfl), rfl, (fun _ => rfl), rfl, (fun _ => rfl), rfl, (fun _ => rfl), rfl, (fun _ => rfl), rfl, (fun _ => rfl), trivial⟩ S (c_X5_type l D cI cN a (v 0 0) (v 1 0) (v 2 0) (v 3 0) (v 4 0) (v 5 0) (v 6) _ kx x (nI a1) r0 x' h5) (cwV 1 hts gL_law_X5_type rfl rfl rfl (by decide +kernel) ⟨Nat.le_of_ble_eq_true rfl, Nat.le_of_ble_eq_true rfl⟩) hK hP hD hS hA rfl rfl rfl hl.1 rfl (Nat.le_of_ble_eq_true rfl) dL_law_387 ⟨Nat.le_of_ble_eq_true rfl, Nat.le_of_ble_eq_true rfl⟩ (fun H locs hP hD hS => ?_)
  refine lv_aload_n hx hb dL_law_390 rfl (lv_at hl 2 rfl) ?_
  refine lv_aload_n hx hb dL_law_391 rfl (lv_at hl 0 rfl) ?_
  refine lv_iload_n hx hb dL_law_392 rfl (lv_at hl 3 rfl) ?_
  refine lv_iconst (v := (1 : Int32)) hx hb dL_law_393 kc_iconst_1 ?_
  refine lv_iadd hx hb dL_law_394 ?_
  rw [ei1]
  refine va_sld hx hb hX hbl hbA hS hin1 dL_law_395 ?_
  rw [ec1]
  refine lv_i2c hx hb dL_law_396 ea1 ?_
  refine cBi (As := [.int (nI a1)]) (rest := [.int r0]) (q0 := 115) (ci := 6) [(false, (cxW a (v 0 0) (v 1 0) (v 2 0) (v 3 0) (v 4 0) (v 5 0) (v 6 0) (kx.1 7)), (cxW a (v 0 0) (v 1 0) (v 2 0) (v 3 0) (v 4 0) (v 5 0) (v 6 0) (kx.1 7))), (false, (hiW cI cN (v 5) w hi), (hiW cI cN (v 5) w hi)), (false, (txW cI (v 6) x'), (txW cI (v 6) x')), (false, (nwW cI (v 1) o), (nwW cI (v 1) o)), (false, (nwW cI (v 2) sn), (nwW cI (v 2) sn)), (false, (rtW cI (v 4) r), (rtW cI (v 4) r)), (false, (nwW cI (v 3) tr), (nwW cI (v 3) tr)), (false, (nwW cI (v 0) n), (nwW cI (v 0) n)), (true, (mdW cI z g), (mdW cI z g'))] ⟨rfl, (fun _ => rfl), rfl, (fun _ => rfl), rfl, (fun _ => rfl), rfl, (fun _ => rfl), rfl, (fun _ => rfl), rfl, (fun _ => rfl), rfl, (fun _ => rfl), rfl, (fun _ => rfl), ad_mod, (fun h => Bool.noConfusion h), trivial⟩ S (c_X6_type l D cI cN z _ g (nI a1) r0 g' h6) (cwV 1 hts gL_law_X6_type rfl rfl rfl (by decide +kernel) ⟨Nat.le_of_ble_eq_true rfl, Nat.le_of_ble_eq_true rfl⟩) hK hP hD hS hA rfl rfl rfl hl.1 rfl (Nat.le_of_ble_eq_true rfl) dL_law_397 ⟨Nat.le_of_ble_eq_true rfl, Nat.le_of_ble_eq_true rfl⟩ (fun H locs hP hD hS => ?_)
  refine lv_icmp_eq (tgt := 924) hx hb dL_law_400 (by decide) (fun _ => ?_) (fun cne => absurd rfl cne)
  exact kk H locs ls hP hD hS hl
set_option maxRecDepth 100000 in
set_option maxHeartbeats 4000000 in
theorem lc_9 {p : Program} {l : Launch} {e : Env} {s : State} {m : MethodId} {below : List Frame} {meth : Method} {c : Code} {Q : State → Prop} {D : va_G} {cI cN : ClassId} {A : Nat → Prop} {b L : Nat} {xs : Nat → Int32} {a : Nat} {v w : Nat → Nat → Nat} {z : Nat → Nat} (S : CallFix p m c cL_law 4 s #[Value.ref b] wsL_law RL) (hK : KN D cI cN s) (hA : ∀ q : Nat, s.heap.size ≤ q → A q) (hX : va_X b L xs s s.heap) (hbl : b < s.heap.size) (hbA : ¬ A b) {i : Nat} (hi4 : i + 4 ≤ L) (hL : L ≤ 2048) {kx : OS} {hi : HS} {x o sn r tr n g : OS} {x' : OS} {g' : OS} {r0 : Int32} (h5 : fX5_clearText kx x = (r0, x')) (h6 : fX6_clearText g = (r0, g')) (H : Heap) (locs : List Loc) (ls : Array Slot) (hP : va_P D vwCl ((cxW a (v 0 0) (v 1 0) (v 2 0) (v 3 0) (v 4 0) (v 5 0) (v 6 0) (kx.1 7)) ++ ((hiW cI cN (v 5) w hi) ++ ((txW cI (v 6) x) ++ ((nwW cI (v 1) o) ++ ((nwW cI (v 2) sn) ++ ((rtW cI (v 4) r) ++ ((nwW cI (v 3) tr) ++ ((nwW cI (v 0) n) ++ (mdW cI z g))))))))) H) (hD : va_D A ((cxW a (v 0 0) (v 1 0) (v 2 0) (v 3 0) (v 4 0) (v 5 0) (v 6 0) (kx.1 7)) ++ ((hiW cI cN (v 5) w hi) ++ ((txW cI (v 6) x) ++ ((nwW cI (v 1) o) ++ ((nwW cI (v 2) sn) ++ ((rtW cI (v 4) r) ++ ((nwW cI (v 3) tr) ++ ((nwW cI (v 0) n) ++ (mdW cI z g)))))))))) (hS : va_S A s.heap H locs) (hl : lv_has ls 4 [(0, .ref b), (1, .ref a), (2, .ref (z 0)), (3, .int (nI i))]) (kk : ∀ (H : Heap) (locs : List Loc) (ls : Array Slot), va_P D vwCl ((cxW a (v 0 0) (v 1 0) (v 2 0) (v 3 0) (v 4 0) (v 5 0) (v 6 0) (kx.1 7)) ++ ((hiW cI cN (v 5) w hi) ++ ((txW cI (v 6) x') ++ ((nwW cI (v 1) o) ++ ((nwW cI (v 2) sn) ++ ((rtW cI (v 4) r) ++ ((nwW cI (v 3) tr) ++ ((nwW cI (v 0) n) ++ (mdW cI z g'))))))))) H → va_D A ((cxW a (v 0 0) (v 1 0) (v 2 0) (v 3 0) (v 4 0) (v 5 0) (v 6 0) (kx.1 7)) ++ ((hiW cI cN (v 5) w hi) ++ ((txW cI (v 6) x') ++ ((nwW cI (v 1) o) ++ ((nwW cI (v 2) sn) ++ ((rtW cI (v 4) r) ++ ((nwW cI (v 3) tr) ++ ((nwW cI (v 0) n) ++ (mdW cI z g'))))))))) → va_S A s.heap H locs → lv_has ls 4 [(0, .ref b), (1, .ref a), (2, .ref (z 0)), (3, .int (nI i))] → W p l e room_1 s m #[Value.ref b] below meth c H locs 120 4135 Q (F0 m 924 ls [])) : W p l e room_1 s m #[Value.ref b] below meth c H locs 120 4135 Q (F0 m 405 ls []) := by
  obtain ⟨hx, hb, hml, hown, hts⟩ := id S
  have ei1 : nI i + (1 : Int32) = nI (i + 1) := by rw [show (1 : Int32) = nI 1 from rfl, nI_add]
  have hin1 : vp_in (nI (i + 1)) L := vp_in_nI (by omega) (by omega)
  have ec1 : (nI (i + 1)).toNatClampNeg = i + 1 := nI_clamp (by omega)
  have ei2 : nI i + (2 : Int32) = nI (i + 2) := by rw [show (2 : Int32) = nI 2 from rfl, nI_add]
  have hin2 : vp_in (nI (i + 2)) L := vp_in_nI (by omega) (by omega)
  have ec2 : (nI (i + 2)).toNatClampNeg = i + 2 := nI_clamp (by omega)
  have ei3 : nI i + (3 : Int32) = nI (i + 3) := by rw [show (3 : Int32) = nI 3 from rfl, nI_add]
  have hin3 : vp_in (nI (i + 3)) L := vp_in_nI (by omega) (by omega)
  have ec3 : (nI (i + 3)).toNatClampNeg = i + 3 := nI_clamp (by omega)
  refine lv_aload_n hx hb dL_law_405 rfl (lv_at hl 1 rfl) ?_
  refine cBi (As := []) (rest := []) (q0 := 0) (ci := 5) [(true, (cxW a (v 0 0) (v 1 0) (v 2 0) (v 3 0) (v 4 0) (v 5 0) (v 6 0) (kx.1 7)), (cxW a (v 0 0) (v 1 0) (v 2 0) (v 3 0) (v 4 0) (v 5 0) (v 6 0) (kx.1 7))), (false, (hiW cI cN (v 5) w hi), (hiW cI cN (v 5) w hi)), (true, (txW cI (v 6) x), (txW cI (v 6) x')), (false, (nwW cI (v 1) o), (nwW cI (v 1) o)), (false, (nwW cI (v 2) sn), (nwW cI (v 2) sn)), (false, (rtW cI (v 4) r), (rtW cI (v 4) r)), (false, (nwW cI (v 3) tr), (nwW cI (v 3) tr)), (false, (nwW cI (v 0) n), (nwW cI (v 0) n)), (false, (mdW cI z g), (mdW cI z g))] ⟨ad_cex, (fun h => Bool.noConfusion h), rfl, (fun _ => rfl), ad_txt, (fun h => Bool.noConfusion h), rfl, (fun _ => rfl), rfl, (fun _ => rfl), rfl, (fun _ => rfl), rfl, (fun _ => rfl), rfl, (fun _ => rfl), rfl, (fun _ => rfl), trivial⟩ S (c_X5_clearText l D cI cN a (v 0 0) (v 1 0) (v 2 0) (v 3 0) (v 4 0) (v 5 0) (v 6) _ kx x  r0 x' h5) (cwV 0 hts gL_law_X5_clearText rfl rfl rfl (by decide +kernel) ⟨Nat.le_of_ble_eq_true rfl, Nat.le_of_ble_eq_true rfl⟩) hK hP hD hS hA rfl rfl rfl hl.1 rfl (Nat.le_of_ble_eq_true rfl) dL_law_406 ⟨Nat.le_of_ble_eq_true rfl, Nat.le_of_ble_eq_true rfl⟩ (fun H locs hP hD hS => ?_)
  refine lv_aload_n hx hb dL_law_409 rfl (lv_at hl 2 rfl) ?_
  refine cBi (As := []) (rest := [.int r0]) (q0 := 115) (ci := 6) [(false, (cxW a (v 0 0) (v 1 0) (v 2 0) (v 3 0) (v 4 0) (v 5 0) (v 6 0) (kx.1 7)), (cxW a (v 0 0) (v 1 0) (v 2 0) (v 3 0) (v 4 0) (v 5 0) (v 6 0) (kx.1 7))), (false, (hiW cI cN (v 5) w hi), (hiW cI cN (v 5) w hi)), (false, (txW cI (v 6) x'), (txW cI (v 6) x')), (false, (nwW cI (v 1) o), (nwW cI (v 1) o)), (false, (nwW cI (v 2) sn), (nwW cI (v 2) sn)), (false, (rtW cI (v 4) r), (rtW cI (v 4) r)), (false, (nwW cI (v 3) tr), (nwW cI (v 3) tr)), (false, (nwW cI (v 0) n), (nwW cI (v 0) n)), (true, (mdW cI z g), (mdW cI z g'))] ⟨rfl, (fun _ => rfl), rfl, (fun _ => rfl), rfl, (fun _ => rfl), rfl, (fun _ => rfl), rfl, (fun _ => rfl), rfl, (fun _ => rfl), rfl, (fun _ => rfl), rfl, (fun _ => rfl), ad_mod, (fun h => Bool.noConfusion h), trivial⟩ S (c_X6_clearText l D cI cN z _ g  r0 g' h6) (cwV 0 hts gL_law_X6_clearText rfl rfl rfl (by decide +kernel) ⟨Nat.le_of_ble_eq_true rfl, Nat.le_of_ble_eq_true rfl⟩) hK hP hD hS hA rfl rfl rfl hl.1 rfl (Nat.le_of_ble_eq_true rfl) dL_law_410 ⟨Nat.le_of_ble_eq_true rfl, Nat.le_of_ble_eq_true rfl⟩ (fun H locs hP hD hS => ?_)
  refine lv_icmp_eq (tgt := 924) hx hb dL_law_413 (by decide) (fun _ => ?_) (fun cne => absurd rfl cne)
  exact kk H locs ls hP hD hS hl
set_option maxRecDepth 100000 in
set_option maxHeartbeats 4000000 in
theorem lc_10 {p : Program} {l : Launch} {e : Env} {s : State} {m : MethodId} {below : List Frame} {meth : Method} {c : Code} {Q : State → Prop} {D : va_G} {cI cN : ClassId} {A : Nat → Prop} {b L : Nat} {xs : Nat → Int32} {a : Nat} {v w : Nat → Nat → Nat} {z : Nat → Nat} (S : CallFix p m c cL_law 4 s #[Value.ref b] wsL_law RL) (hK : KN D cI cN s) (hA : ∀ q : Nat, s.heap.size ≤ q → A q) (hX : va_X b L xs s s.heap) (hbl : b < s.heap.size) (hbA : ¬ A b) {i : Nat} (hi4 : i + 4 ≤ L) (hL : L ≤ 2048) {kx : OS} {hi : HS} {x o sn r tr n g : OS} {hi' : HS} {x' : OS} {o' : OS} {r' : OS} {n' : OS} {g' : OS} {r0 : Int32} (h5 : fX5_perform kx hi x o r n = some (r0, hi', x', o', r', n')) (h6 : fX6_perform g = some (r0, g')) (H : Heap) (locs : List Loc) (ls : Array Slot) (hP : va_P D vwCl ((cxW a (v 0 0) (v 1 0) (v 2 0) (v 3 0) (v 4 0) (v 5 0) (v 6 0) (kx.1 7)) ++ ((hiW cI cN (v 5) w hi) ++ ((txW cI (v 6) x) ++ ((nwW cI (v 1) o) ++ ((nwW cI (v 2) sn) ++ ((rtW cI (v 4) r) ++ ((nwW cI (v 3) tr) ++ ((nwW cI (v 0) n) ++ (mdW cI z g))))))))) H) (hD : va_D A ((cxW a (v 0 0) (v 1 0) (v 2 0) (v 3 0) (v 4 0) (v 5 0) (v 6 0) (kx.1 7)) ++ ((hiW cI cN (v 5) w hi) ++ ((txW cI (v 6) x) ++ ((nwW cI (v 1) o) ++ ((nwW cI (v 2) sn) ++ ((rtW cI (v 4) r) ++ ((nwW cI (v 3) tr) ++ ((nwW cI (v 0) n) ++ (mdW cI z g)))))))))) (hS : va_S A s.heap H locs) (hl : lv_has ls 4 [(0, .ref b), (1, .ref a), (2, .ref (z 0)), (3, .int (nI i))]) (kk : ∀ (H : Heap) (locs : List Loc) (ls : Array Slot), va_P D vwCl ((cxW a (v 0 0) (v 1 0) (v 2 0) (v 3 0) (v 4 0) (v 5 0) (v 6 0) (kx.1 7)) ++ ((hiW cI cN (v 5) w hi') ++ ((txW cI (v 6) x') ++ ((nwW cI (v 1) o') ++ ((nwW cI (v 2) sn) ++ ((rtW cI (v 4) r') ++ ((nwW cI (v 3) tr) ++ ((nwW cI (v 0) n') ++ (mdW cI z g'))))))))) H → va_D A ((cxW a (v 0 0) (v 1 0) (v 2 0) (v 3 0) (v 4 0) (v 5 0) (v 6 0) (kx.1 7)) ++ ((hiW cI cN (v 5) w hi') ++ ((txW cI (v 6) x') ++ ((nwW cI (v 1) o') ++ ((nwW cI (v 2) sn) ++ ((rtW cI (v 4) r') ++ ((nwW cI (v 3) tr) ++ ((nwW cI (v 0) n') ++ (mdW cI z g'))))))))) → va_S A s.heap H locs → lv_has ls 4 [(0, .ref b), (1, .ref a), (2, .ref (z 0)), (3, .int (nI i))] → W p l e room_1 s m #[Value.ref b] below meth c H locs 120 4135 Q (F0 m 924 ls [])) : W p l e room_1 s m #[Value.ref b] below meth c H locs 120 4135 Q (F0 m 418 ls []) := by
  obtain ⟨hx, hb, hml, hown, hts⟩ := id S
  have ei1 : nI i + (1 : Int32) = nI (i + 1) := by rw [show (1 : Int32) = nI 1 from rfl, nI_add]
  have hin1 : vp_in (nI (i + 1)) L := vp_in_nI (by omega) (by omega)
  have ec1 : (nI (i + 1)).toNatClampNeg = i + 1 := nI_clamp (by omega)
  have ei2 : nI i + (2 : Int32) = nI (i + 2) := by rw [show (2 : Int32) = nI 2 from rfl, nI_add]
  have hin2 : vp_in (nI (i + 2)) L := vp_in_nI (by omega) (by omega)
  have ec2 : (nI (i + 2)).toNatClampNeg = i + 2 := nI_clamp (by omega)
  have ei3 : nI i + (3 : Int32) = nI (i + 3) := by rw [show (3 : Int32) = nI 3 from rfl, nI_add]
  have hin3 : vp_in (nI (i + 3)) L := vp_in_nI (by omega) (by omega)
  have ec3 : (nI (i + 3)).toNatClampNeg = i + 3 := nI_clamp (by omega)
  refine lv_aload_n hx hb dL_law_418 rfl (lv_at hl 1 rfl) ?_
  refine cBi (As := []) (rest := []) (q0 := 0) (ci := 5) [(true, (cxW a (v 0 0) (v 1 0) (v 2 0) (v 3 0) (v 4 0) (v 5 0) (v 6 0) (kx.1 7)), (cxW a (v 0 0) (v 1 0) (v 2 0) (v 3 0) (v 4 0) (v 5 0) (v 6 0) (kx.1 7))), (true, (hiW cI cN (v 5) w hi), (hiW cI cN (v 5) w hi')), (true, (txW cI (v 6) x), (txW cI (v 6) x')), (true, (nwW cI (v 1) o), (nwW cI (v 1) o')), (false, (nwW cI (v 2) sn), (nwW cI (v 2) sn)), (true, (rtW cI (v 4) r), (rtW cI (v 4) r')), (false, (nwW cI (v 3) tr), (nwW cI (v 3) tr)), (true, (nwW cI (v 0) n), (nwW cI (v 0) n')), (false, (mdW cI z g), (mdW cI z g))] ⟨ad_cex, (fun h => Bool.noConfusion h), ad_his, (fun h => Bool.noConfusion h), ad_txt, (fun h => Bool.noConfusion h), ad_net, (fun h => Bool.noConfusion h), rfl, (fun _ => rfl), ad_rtr, (fun h => Bool.noConfusion h), rfl, (fun _ => rfl), ad_net, (fun h => Bool.noConfusion h), rfl, (fun _ => rfl), trivial⟩ S (c_X5_perform l D cI cN a (v 2 0) (v 3 0) (v 5) w (v 6) (v 1) (v 4) (v 0) _ kx hi x o r n  r0 hi' x' o' r' n' h5) (cwV 0 hts gL_law_X5_perform rfl rfl rfl (by decide +kernel) ⟨Nat.le_of_ble_eq_true rfl, Nat.le_of_ble_eq_true rfl⟩) hK hP hD hS hA rfl rfl rfl hl.1 rfl (Nat.le_of_ble_eq_true rfl) dL_law_419 ⟨Nat.le_of_ble_eq_true rfl, Nat.le_of_ble_eq_true rfl⟩ (fun H locs hP hD hS => ?_)
  refine lv_aload_n hx hb dL_law_422 rfl (lv_at hl 2 rfl) ?_
  refine cBi (As := []) (rest := [.int r0]) (q0 := 115) (ci := 6) [(false, (cxW a (v 0 0) (v 1 0) (v 2 0) (v 3 0) (v 4 0) (v 5 0) (v 6 0) (kx.1 7)), (cxW a (v 0 0) (v 1 0) (v 2 0) (v 3 0) (v 4 0) (v 5 0) (v 6 0) (kx.1 7))), (false, (hiW cI cN (v 5) w hi'), (hiW cI cN (v 5) w hi')), (false, (txW cI (v 6) x'), (txW cI (v 6) x')), (false, (nwW cI (v 1) o'), (nwW cI (v 1) o')), (false, (nwW cI (v 2) sn), (nwW cI (v 2) sn)), (false, (rtW cI (v 4) r'), (rtW cI (v 4) r')), (false, (nwW cI (v 3) tr), (nwW cI (v 3) tr)), (false, (nwW cI (v 0) n'), (nwW cI (v 0) n')), (true, (mdW cI z g), (mdW cI z g'))] ⟨rfl, (fun _ => rfl), rfl, (fun _ => rfl), rfl, (fun _ => rfl), rfl, (fun _ => rfl), rfl, (fun _ => rfl), rfl, (fun _ => rfl), rfl, (fun _ => rfl), rfl, (fun _ => rfl), ad_mod, (fun h => Bool.noConfusion h), trivial⟩ S (c_X6_perform l D cI cN z _ g  r0 g' h6) (cwV 0 hts gL_law_X6_perform rfl rfl rfl (by decide +kernel) ⟨Nat.le_of_ble_eq_true rfl, Nat.le_of_ble_eq_true rfl⟩) hK hP hD hS hA rfl rfl rfl hl.1 rfl (Nat.le_of_ble_eq_true rfl) dL_law_423 ⟨Nat.le_of_ble_eq_true rfl, Nat.le_of_ble_eq_true rfl⟩ (fun H locs hP hD hS => ?_)
  refine lv_icmp_eq (tgt := 924) hx hb dL_law_426 (by decide) (fun _ => ?_) (fun cne => absurd rfl cne)
  exact kk H locs ls hP hD hS hl
set_option maxRecDepth 100000 in
set_option maxHeartbeats 4000000 in
theorem lc_11 {p : Program} {l : Launch} {e : Env} {s : State} {m : MethodId} {below : List Frame} {meth : Method} {c : Code} {Q : State → Prop} {D : va_G} {cI cN : ClassId} {A : Nat → Prop} {b L : Nat} {xs : Nat → Int32} {a : Nat} {v w : Nat → Nat → Nat} {z : Nat → Nat} (S : CallFix p m c cL_law 4 s #[Value.ref b] wsL_law RL) (hK : KN D cI cN s) (hA : ∀ q : Nat, s.heap.size ≤ q → A q) (hX : va_X b L xs s s.heap) (hbl : b < s.heap.size) (hbA : ¬ A b) {i : Nat} (hi4 : i + 4 ≤ L) (hL : L ≤ 2048) {kx : OS} {hi : HS} {x o sn r tr n g : OS} {hi' : HS} {n' : OS} {g' : OS} {r0 : Int32} (h5 : fX5_undo kx hi n = some (r0, hi', n')) (h6 : fX6_undo g = some (r0, g')) (H : Heap) (locs : List Loc) (ls : Array Slot) (hP : va_P D vwCl ((cxW a (v 0 0) (v 1 0) (v 2 0) (v 3 0) (v 4 0) (v 5 0) (v 6 0) (kx.1 7)) ++ ((hiW cI cN (v 5) w hi) ++ ((txW cI (v 6) x) ++ ((nwW cI (v 1) o) ++ ((nwW cI (v 2) sn) ++ ((rtW cI (v 4) r) ++ ((nwW cI (v 3) tr) ++ ((nwW cI (v 0) n) ++ (mdW cI z g))))))))) H) (hD : va_D A ((cxW a (v 0 0) (v 1 0) (v 2 0) (v 3 0) (v 4 0) (v 5 0) (v 6 0) (kx.1 7)) ++ ((hiW cI cN (v 5) w hi) ++ ((txW cI (v 6) x) ++ ((nwW cI (v 1) o) ++ ((nwW cI (v 2) sn) ++ ((rtW cI (v 4) r) ++ ((nwW cI (v 3) tr) ++ ((nwW cI (v 0) n) ++ (mdW cI z g)))))))))) (hS : va_S A s.heap H locs) (hl : lv_has ls 4 [(0, .ref b), (1, .ref a), (2, .ref (z 0)), (3, .int (nI i))]) (kk : ∀ (H : Heap) (locs : List Loc) (ls : Array Slot), va_P D vwCl ((cxW a (v 0 0) (v 1 0) (v 2 0) (v 3 0) (v 4 0) (v 5 0) (v 6 0) (kx.1 7)) ++ ((hiW cI cN (v 5) w hi') ++ ((txW cI (v 6) x) ++ ((nwW cI (v 1) o) ++ ((nwW cI (v 2) sn) ++ ((rtW cI (v 4) r) ++ ((nwW cI (v 3) tr) ++ ((nwW cI (v 0) n') ++ (mdW cI z g'))))))))) H → va_D A ((cxW a (v 0 0) (v 1 0) (v 2 0) (v 3 0) (v 4 0) (v 5 0) (v 6 0) (kx.1 7)) ++ ((hiW cI cN (v 5) w hi') ++ ((txW cI (v 6) x) ++ ((nwW cI (v 1) o) ++ ((nwW cI (v 2) sn) ++ ((rtW cI (v 4) r) ++ ((nwW cI (v 3) tr) ++ ((nwW cI (v 0) n') ++ (mdW cI z g'))))))))) → va_S A s.heap H locs → lv_has ls 4 [(0, .ref b), (1, .ref a), (2, .ref (z 0)), (3, .int (nI i))] → W p l e room_1 s m #[Value.ref b] below meth c H locs 120 4135 Q (F0 m 924 ls [])) : W p l e room_1 s m #[Value.ref b] below meth c H locs 120 4135 Q (F0 m 431 ls []) := by
  obtain ⟨hx, hb, hml, hown, hts⟩ := id S
  have ei1 : nI i + (1 : Int32) = nI (i + 1) := by rw [show (1 : Int32) = nI 1 from rfl, nI_add]
  have hin1 : vp_in (nI (i + 1)) L := vp_in_nI (by omega) (by omega)
  have ec1 : (nI (i + 1)).toNatClampNeg = i + 1 := nI_clamp (by omega)
  have ei2 : nI i + (2 : Int32) = nI (i + 2) := by rw [show (2 : Int32) = nI 2 from rfl, nI_add]
  have hin2 : vp_in (nI (i + 2)) L := vp_in_nI (by omega) (by omega)
  have ec2 : (nI (i + 2)).toNatClampNeg = i + 2 := nI_clamp (by omega)
  have ei3 : nI i + (3 : Int32) = nI (i + 3) := by rw [show (3 : Int32) = nI 3 from rfl, nI_add]
  have hin3 : vp_in (nI (i + 3)) L := vp_in_nI (by omega) (by omega)
  have ec3 : (nI (i + 3)).toNatClampNeg = i + 3 := nI_clamp (by omega)
  refine lv_aload_n hx hb dL_law_431 rfl (lv_at hl 1 rfl) ?_
  refine cBi (As := []) (rest := []) (q0 := 0) (ci := 5) [(true, (cxW a (v 0 0) (v 1 0) (v 2 0) (v 3 0) (v 4 0) (v 5 0) (v 6 0) (kx.1 7)), (cxW a (v 0 0) (v 1 0) (v 2 0) (v 3 0) (v 4 0) (v 5 0) (v 6 0) (kx.1 7))), (true, (hiW cI cN (v 5) w hi), (hiW cI cN (v 5) w hi')), (false, (txW cI (v 6) x), (txW cI (v 6) x)), (false, (nwW cI (v 1) o), (nwW cI (v 1) o)), (false, (nwW cI (v 2) sn), (nwW cI (v 2) sn)), (false, (rtW cI (v 4) r), (rtW cI (v 4) r)), (false, (nwW cI (v 3) tr), (nwW cI (v 3) tr)), (true, (nwW cI (v 0) n), (nwW cI (v 0) n')), (false, (mdW cI z g), (mdW cI z g))] ⟨ad_cex, (fun h => Bool.noConfusion h), ad_his, (fun h => Bool.noConfusion h), rfl, (fun _ => rfl), rfl, (fun _ => rfl), rfl, (fun _ => rfl), rfl, (fun _ => rfl), rfl, (fun _ => rfl), ad_net, (fun h => Bool.noConfusion h), rfl, (fun _ => rfl), trivial⟩ S (c_X5_undo l D cI cN a (v 1 0) (v 2 0) (v 3 0) (v 4 0) (v 6 0) (v 5) w (v 0) _ kx hi n  r0 hi' n' h5) (cwV 0 hts gL_law_X5_undo rfl rfl rfl (by decide +kernel) ⟨Nat.le_of_ble_eq_true rfl, Nat.le_of_ble_eq_true rfl⟩) hK hP hD hS hA rfl rfl rfl hl.1 rfl (Nat.le_of_ble_eq_true rfl) dL_law_432 ⟨Nat.le_of_ble_eq_true rfl, Nat.le_of_ble_eq_true rfl⟩ (fun H locs hP hD hS => ?_)
  refine lv_aload_n hx hb dL_law_435 rfl (lv_at hl 2 rfl) ?_
  refine cBi (As := []) (rest := [.int r0]) (q0 := 115) (ci := 6) [(false, (cxW a (v 0 0) (v 1 0) (v 2 0) (v 3 0) (v 4 0) (v 5 0) (v 6 0) (kx.1 7)), (cxW a (v 0 0) (v 1 0) (v 2 0) (v 3 0) (v 4 0) (v 5 0) (v 6 0) (kx.1 7))), (false, (hiW cI cN (v 5) w hi'), (hiW cI cN (v 5) w hi')), (false, (txW cI (v 6) x), (txW cI (v 6) x)), (false, (nwW cI (v 1) o), (nwW cI (v 1) o)), (false, (nwW cI (v 2) sn), (nwW cI (v 2) sn)), (false, (rtW cI (v 4) r), (rtW cI (v 4) r)), (false, (nwW cI (v 3) tr), (nwW cI (v 3) tr)), (false, (nwW cI (v 0) n'), (nwW cI (v 0) n')), (true, (mdW cI z g), (mdW cI z g'))] ⟨rfl, (fun _ => rfl), rfl, (fun _ => rfl), rfl, (fun _ => rfl), rfl, (fun _ => rfl), rfl, (fun _ => rfl), rfl, (fun _ => rfl), rfl, (fun _ => rfl), rfl, (fun _ => rfl), ad_mod, (fun h => Bool.noConfusion h), trivial⟩ S (c_X6_undo l D cI cN z _ g  r0 g' h6) (cwV 0 hts gL_law_X6_undo rfl rfl rfl (by decide +kernel) ⟨Nat.le_of_ble_eq_true rfl, Nat.le_of_ble_eq_true rfl⟩) hK hP hD hS hA rfl rfl rfl hl.1 rfl (Nat.le_of_ble_eq_true rfl) dL_law_436 ⟨Nat.le_of_ble_eq_true rfl, Nat.le_of_ble_eq_true rfl⟩ (fun H locs hP hD hS => ?_)
  refine lv_icmp_eq (tgt := 924) hx hb dL_law_439 (by decide) (fun _ => ?_) (fun cne => absurd rfl cne)
  exact kk H locs ls hP hD hS hl
set_option maxRecDepth 100000 in
set_option maxHeartbeats 4000000 in
theorem lc_12 {p : Program} {l : Launch} {e : Env} {s : State} {m : MethodId} {below : List Frame} {meth : Method} {c : Code} {Q : State → Prop} {D : va_G} {cI cN : ClassId} {A : Nat → Prop} {b L : Nat} {xs : Nat → Int32} {a : Nat} {v w : Nat → Nat → Nat} {z : Nat → Nat} (S : CallFix p m c cL_law 4 s #[Value.ref b] wsL_law RL) (hK : KN D cI cN s) (hA : ∀ q : Nat, s.heap.size ≤ q → A q) (hX : va_X b L xs s s.heap) (hbl : b < s.heap.size) (hbA : ¬ A b) {i : Nat} (hi4 : i + 4 ≤ L) (hL : L ≤ 2048) {kx : OS} {hi : HS} {x o sn r tr n g : OS} {kx' : OS} {sn' : OS} {g' : OS} {r0 : Int32} (h5 : fX5_keep kx sn n = some (r0, kx', sn')) (h6 : fX6_keep g = some (r0, g')) (H : Heap) (locs : List Loc) (ls : Array Slot) (hP : va_P D vwCl ((cxW a (v 0 0) (v 1 0) (v 2 0) (v 3 0) (v 4 0) (v 5 0) (v 6 0) (kx.1 7)) ++ ((hiW cI cN (v 5) w hi) ++ ((txW cI (v 6) x) ++ ((nwW cI (v 1) o) ++ ((nwW cI (v 2) sn) ++ ((rtW cI (v 4) r) ++ ((nwW cI (v 3) tr) ++ ((nwW cI (v 0) n) ++ (mdW cI z g))))))))) H) (hD : va_D A ((cxW a (v 0 0) (v 1 0) (v 2 0) (v 3 0) (v 4 0) (v 5 0) (v 6 0) (kx.1 7)) ++ ((hiW cI cN (v 5) w hi) ++ ((txW cI (v 6) x) ++ ((nwW cI (v 1) o) ++ ((nwW cI (v 2) sn) ++ ((rtW cI (v 4) r) ++ ((nwW cI (v 3) tr) ++ ((nwW cI (v 0) n) ++ (mdW cI z g)))))))))) (hS : va_S A s.heap H locs) (hl : lv_has ls 4 [(0, .ref b), (1, .ref a), (2, .ref (z 0)), (3, .int (nI i))]) (kk : ∀ (H : Heap) (locs : List Loc) (ls : Array Slot), va_P D vwCl ((cxW a (v 0 0) (v 1 0) (v 2 0) (v 3 0) (v 4 0) (v 5 0) (v 6 0) (kx'.1 7)) ++ ((hiW cI cN (v 5) w hi) ++ ((txW cI (v 6) x) ++ ((nwW cI (v 1) o) ++ ((nwW cI (v 2) sn') ++ ((rtW cI (v 4) r) ++ ((nwW cI (v 3) tr) ++ ((nwW cI (v 0) n) ++ (mdW cI z g'))))))))) H → va_D A ((cxW a (v 0 0) (v 1 0) (v 2 0) (v 3 0) (v 4 0) (v 5 0) (v 6 0) (kx'.1 7)) ++ ((hiW cI cN (v 5) w hi) ++ ((txW cI (v 6) x) ++ ((nwW cI (v 1) o) ++ ((nwW cI (v 2) sn') ++ ((rtW cI (v 4) r) ++ ((nwW cI (v 3) tr) ++ ((nwW cI (v 0) n) ++ (mdW cI z g'))))))))) → va_S A s.heap H locs → lv_has ls 4 [(0, .ref b), (1, .ref a), (2, .ref (z 0)), (3, .int (nI i))] → W p l e room_1 s m #[Value.ref b] below meth c H locs 120 4135 Q (F0 m 924 ls [])) : W p l e room_1 s m #[Value.ref b] below meth c H locs 120 4135 Q (F0 m 444 ls []) := by
  obtain ⟨hx, hb, hml, hown, hts⟩ := id S
  have ei1 : nI i + (1 : Int32) = nI (i + 1) := by rw [show (1 : Int32) = nI 1 from rfl, nI_add]
  have hin1 : vp_in (nI (i + 1)) L := vp_in_nI (by omega) (by omega)
  have ec1 : (nI (i + 1)).toNatClampNeg = i + 1 := nI_clamp (by omega)
  have ei2 : nI i + (2 : Int32) = nI (i + 2) := by rw [show (2 : Int32) = nI 2 from rfl, nI_add]
  have hin2 : vp_in (nI (i + 2)) L := vp_in_nI (by omega) (by omega)
  have ec2 : (nI (i + 2)).toNatClampNeg = i + 2 := nI_clamp (by omega)
  have ei3 : nI i + (3 : Int32) = nI (i + 3) := by rw [show (3 : Int32) = nI 3 from rfl, nI_add]
  have hin3 : vp_in (nI (i + 3)) L := vp_in_nI (by omega) (by omega)
  have ec3 : (nI (i + 3)).toNatClampNeg = i + 3 := nI_clamp (by omega)
  refine lv_aload_n hx hb dL_law_444 rfl (lv_at hl 1 rfl) ?_
  refine cBi (As := []) (rest := []) (q0 := 0) (ci := 5) [(true, (cxW a (v 0 0) (v 1 0) (v 2 0) (v 3 0) (v 4 0) (v 5 0) (v 6 0) (kx.1 7)), (cxW a (v 0 0) (v 1 0) (v 2 0) (v 3 0) (v 4 0) (v 5 0) (v 6 0) (kx'.1 7))), (false, (hiW cI cN (v 5) w hi), (hiW cI cN (v 5) w hi)), (false, (txW cI (v 6) x), (txW cI (v 6) x)), (false, (nwW cI (v 1) o), (nwW cI (v 1) o)), (true, (nwW cI (v 2) sn), (nwW cI (v 2) sn')), (false, (rtW cI (v 4) r), (rtW cI (v 4) r)), (false, (nwW cI (v 3) tr), (nwW cI (v 3) tr)), (true, (nwW cI (v 0) n), (nwW cI (v 0) n)), (false, (mdW cI z g), (mdW cI z g))] ⟨ad_cex, (fun h => Bool.noConfusion h), rfl, (fun _ => rfl), rfl, (fun _ => rfl), rfl, (fun _ => rfl), ad_net, (fun h => Bool.noConfusion h), rfl, (fun _ => rfl), rfl, (fun _ => rfl), ad_net, (fun h => Bool.noConfusion h), rfl, (fun _ => rfl), trivial⟩ S (c_X5_keep l D cI cN a (v 1 0) (v 3 0) (v 4 0) (v 5 0) (v 6 0) (v 2) (v 0) _ kx sn n  r0 kx' sn' h5) (cwV 0 hts gL_law_X5_keep rfl rfl rfl (by decide +kernel) ⟨Nat.le_of_ble_eq_true rfl, Nat.le_of_ble_eq_true rfl⟩) hK hP hD hS hA rfl rfl rfl hl.1 rfl (Nat.le_of_ble_eq_true rfl) dL_law_445 ⟨Nat.le_of_ble_eq_true rfl, Nat.le_of_ble_eq_true rfl⟩ (fun H locs hP hD hS => ?_)
  refine lv_aload_n hx hb dL_law_448 rfl (lv_at hl 2 rfl) ?_
  refine cBi (As := []) (rest := [.int r0]) (q0 := 115) (ci := 6) [(false, (cxW a (v 0 0) (v 1 0) (v 2 0) (v 3 0) (v 4 0) (v 5 0) (v 6 0) (kx'.1 7)), (cxW a (v 0 0) (v 1 0) (v 2 0) (v 3 0) (v 4 0) (v 5 0) (v 6 0) (kx'.1 7))), (false, (hiW cI cN (v 5) w hi), (hiW cI cN (v 5) w hi)), (false, (txW cI (v 6) x), (txW cI (v 6) x)), (false, (nwW cI (v 1) o), (nwW cI (v 1) o)), (false, (nwW cI (v 2) sn'), (nwW cI (v 2) sn')), (false, (rtW cI (v 4) r), (rtW cI (v 4) r)), (false, (nwW cI (v 3) tr), (nwW cI (v 3) tr)), (false, (nwW cI (v 0) n), (nwW cI (v 0) n)), (true, (mdW cI z g), (mdW cI z g'))] ⟨rfl, (fun _ => rfl), rfl, (fun _ => rfl), rfl, (fun _ => rfl), rfl, (fun _ => rfl), rfl, (fun _ => rfl), rfl, (fun _ => rfl), rfl, (fun _ => rfl), rfl, (fun _ => rfl), ad_mod, (fun h => Bool.noConfusion h), trivial⟩ S (c_X6_keep l D cI cN z _ g  r0 g' h6) (cwV 0 hts gL_law_X6_keep rfl rfl rfl (by decide +kernel) ⟨Nat.le_of_ble_eq_true rfl, Nat.le_of_ble_eq_true rfl⟩) hK hP hD hS hA rfl rfl rfl hl.1 rfl (Nat.le_of_ble_eq_true rfl) dL_law_449 ⟨Nat.le_of_ble_eq_true rfl, Nat.le_of_ble_eq_true rfl⟩ (fun H locs hP hD hS => ?_)
  refine lv_icmp_eq (tgt := 924) hx hb dL_law_452 (by decide) (fun _ => ?_) (fun cne => absurd rfl cne)
  exact kk H locs ls hP hD hS hl
set_option maxRecDepth 100000 in
set_option maxHeartbeats 4000000 in
theorem lc_13 {p : Program} {l : Launch} {e : Env} {s : State} {m : MethodId} {below : List Frame} {meth : Method} {c : Code} {Q : State → Prop} {D : va_G} {cI cN : ClassId} {A : Nat → Prop} {b L : Nat} {xs : Nat → Int32} {a : Nat} {v w : Nat → Nat → Nat} {z : Nat → Nat} (S : CallFix p m c cL_law 4 s #[Value.ref b] wsL_law RL) (hK : KN D cI cN s) (hA : ∀ q : Nat, s.heap.size ≤ q → A q) (hX : va_X b L xs s s.heap) (hbl : b < s.heap.size) (hbA : ¬ A b) {i : Nat} (hi4 : i + 4 ≤ L) (hL : L ≤ 2048) {kx : OS} {hi : HS} {x o sn r tr n g : OS} {hi' : HS} {n' : OS} {g' : OS} {r0 : Int32} (h5 : fX5_restore kx hi sn n = some (r0, hi', n')) (h6 : fX6_restore g = some (r0, g')) (H : Heap) (locs : List Loc) (ls : Array Slot) (hP : va_P D vwCl ((cxW a (v 0 0) (v 1 0) (v 2 0) (v 3 0) (v 4 0) (v 5 0) (v 6 0) (kx.1 7)) ++ ((hiW cI cN (v 5) w hi) ++ ((txW cI (v 6) x) ++ ((nwW cI (v 1) o) ++ ((nwW cI (v 2) sn) ++ ((rtW cI (v 4) r) ++ ((nwW cI (v 3) tr) ++ ((nwW cI (v 0) n) ++ (mdW cI z g))))))))) H) (hD : va_D A ((cxW a (v 0 0) (v 1 0) (v 2 0) (v 3 0) (v 4 0) (v 5 0) (v 6 0) (kx.1 7)) ++ ((hiW cI cN (v 5) w hi) ++ ((txW cI (v 6) x) ++ ((nwW cI (v 1) o) ++ ((nwW cI (v 2) sn) ++ ((rtW cI (v 4) r) ++ ((nwW cI (v 3) tr) ++ ((nwW cI (v 0) n) ++ (mdW cI z g)))))))))) (hS : va_S A s.heap H locs) (hl : lv_has ls 4 [(0, .ref b), (1, .ref a), (2, .ref (z 0)), (3, .int (nI i))]) (kk : ∀ (H : Heap) (locs : List Loc) (ls : Array Slot), va_P D vwCl ((cxW a (v 0 0) (v 1 0) (v 2 0) (v 3 0) (v 4 0) (v 5 0) (v 6 0) (kx.1 7)) ++ ((hiW cI cN (v 5) w hi') ++ ((txW cI (v 6) x) ++ ((nwW cI (v 1) o) ++ ((nwW cI (v 2) sn) ++ ((rtW cI (v 4) r) ++ ((nwW cI (v 3) tr) ++ ((nwW cI (v 0) n') ++ (mdW cI z g'))))))))) H → va_D A ((cxW a (v 0 0) (v 1 0) (v 2 0) (v 3 0) (v 4 0) (v 5 0) (v 6 0) (kx.1 7)) ++ ((hiW cI cN (v 5) w hi') ++ ((txW cI (v 6) x) ++ ((nwW cI (v 1) o) ++ ((nwW cI (v 2) sn) ++ ((rtW cI (v 4) r) ++ ((nwW cI (v 3) tr) ++ ((nwW cI (v 0) n') ++ (mdW cI z g'))))))))) → va_S A s.heap H locs → lv_has ls 4 [(0, .ref b), (1, .ref a), (2, .ref (z 0)), (3, .int (nI i))] → W p l e room_1 s m #[Value.ref b] below meth c H locs 120 4135 Q (F0 m 924 ls [])) : W p l e room_1 s m #[Value.ref b] below meth c H locs 120 4135 Q (F0 m 457 ls []) := by
  obtain ⟨hx, hb, hml, hown, hts⟩ := id S
  have ei1 : nI i + (1 : Int32) = nI (i + 1) := by rw [show (1 : Int32) = nI 1 from rfl, nI_add]
  have hin1 : vp_in (nI (i + 1)) L := vp_in_nI (by omega) (by omega)
  have ec1 : (nI (i + 1)).toNatClampNeg = i + 1 := nI_clamp (by omega)
  have ei2 : nI i + (2 : Int32) = nI (i + 2) := by rw [show (2 : Int32) = nI 2 from rfl, nI_add]
  have hin2 : vp_in (nI (i + 2)) L := vp_in_nI (by omega) (by omega)
  have ec2 : (nI (i + 2)).toNatClampNeg = i + 2 := nI_clamp (by omega)
  have ei3 : nI i + (3 : Int32) = nI (i + 3) := by rw [show (3 : Int32) = nI 3 from rfl, nI_add]
  have hin3 : vp_in (nI (i + 3)) L := vp_in_nI (by omega) (by omega)
  have ec3 : (nI (i + 3)).toNatClampNeg = i + 3 := nI_clamp (by omega)
  refine lv_aload_n hx hb dL_law_457 rfl (lv_at hl 1 rfl) ?_
  refine cBi (As := []) (rest := []) (q0 := 0) (ci := 5) [(true, (cxW a (v 0 0) (v 1 0) (v 2 0) (v 3 0) (v 4 0) (v 5 0) (v 6 0) (kx.1 7)), (cxW a (v 0 0) (v 1 0) (v 2 0) (v 3 0) (v 4 0) (v 5 0) (v 6 0) (kx.1 7))), (true, (hiW cI cN (v 5) w hi), (hiW cI cN (v 5) w hi')), (false, (txW cI (v 6) x), (txW cI (v 6) x)), (false, (nwW cI (v 1) o), (nwW cI (v 1) o)), (true, (nwW cI (v 2) sn), (nwW cI (v 2) sn)), (false, (rtW cI (v 4) r), (rtW cI (v 4) r)), (false, (nwW cI (v 3) tr), (nwW cI (v 3) tr)), (true, (nwW cI (v 0) n), (nwW cI (v 0) n')), (false, (mdW cI z g), (mdW cI z g))] ⟨ad_cex, (fun h => Bool.noConfusion h), ad_his, (fun h => Bool.noConfusion h), rfl, (fun _ => rfl), rfl, (fun _ => rfl), ad_net, (fun h => Bool.noConfusion h), rfl, (fun _ => rfl), rfl, (fun _ => rfl), ad_net, (fun h => Bool.noConfusion h), rfl, (fun _ => rfl), trivial⟩ S (c_X5_restore l D cI cN a (v 1 0) (v 3 0) (v 4 0) (v 6 0) (v 5) w (v 2) (v 0) _ kx hi sn n  r0 hi' n' h5) (cwV 0 hts gL_law_X5_restore rfl rfl rfl (by decide +kernel) ⟨Nat.le_of_ble_eq_true rfl, Nat.le_of_ble_eq_true rfl⟩) hK hP hD hS hA rfl rfl rfl hl.1 rfl (Nat.le_of_ble_eq_true rfl) dL_law_458 ⟨Nat.le_of_ble_eq_true rfl, Nat.le_of_ble_eq_true rfl⟩ (fun H locs hP hD hS => ?_)
  refine lv_aload_n hx hb dL_law_461 rfl (lv_at hl 2 rfl) ?_
  refine cBi (As := []) (rest := [.int r0]) (q0 := 115) (ci := 6) [(false, (cxW a (v 0 0) (v 1 0) (v 2 0) (v 3 0) (v 4 0) (v 5 0) (v 6 0) (kx.1 7)), (cxW a (v 0 0) (v 1 0) (v 2 0) (v 3 0) (v 4 0) (v 5 0) (v 6 0) (kx.1 7))), (false, (hiW cI cN (v 5) w hi'), (hiW cI cN (v 5) w hi')), (false, (txW cI (v 6) x), (txW cI (v 6) x)), (false, (nwW cI (v 1) o), (nwW cI (v 1) o)), (false, (nwW cI (v 2) sn), (nwW cI (v 2) sn)), (false, (rtW cI (v 4) r), (rtW cI (v 4) r)), (false, (nwW cI (v 3) tr), (nwW cI (v 3) tr)), (false, (nwW cI (v 0) n'), (nwW cI (v 0) n')), (true, (mdW cI z g), (mdW cI z g'))] ⟨rfl, (fun _ => rfl), rfl, (fun _ => rfl), rfl, (fun _ => rfl), rfl, (fun _ => rfl), rfl, (fun _ => rfl), rfl, (fun _ => rfl), rfl, (fun _ => rfl), rfl, (fun _ => rfl), ad_mod, (fun h => Bool.noConfusion h), trivial⟩ S (c_X6_restore l D cI cN z _ g  r0 g' h6) (cwV 0 hts gL_law_X6_restore rfl rfl rfl (by decide +kernel) ⟨Nat.le_of_ble_eq_true rfl, Nat.le_of_ble_eq_true rfl⟩) hK hP hD hS hA rfl rfl rfl hl.1 rfl (Nat.le_of_ble_eq_true rfl) dL_law_462 ⟨Nat.le_of_ble_eq_true rfl, Nat.le_of_ble_eq_true rfl⟩ (fun H locs hP hD hS => ?_)
  refine lv_icmp_eq (tgt := 924) hx hb dL_law_465 (by decide) (fun _ => ?_) (fun cne => absurd rfl cne)
  exact kk H locs ls hP hD hS hl
set_option maxRecDepth 100000 in
set_option maxHeartbeats 4000000 in
theorem lc_14 {p : Program} {l : Launch} {e : Env} {s : State} {m : MethodId} {below : List Frame} {meth : Method} {c : Code} {Q : State → Prop} {D : va_G} {cI cN : ClassId} {A : Nat → Prop} {b L : Nat} {xs : Nat → Int32} {a : Nat} {v w : Nat → Nat → Nat} {z : Nat → Nat} (S : CallFix p m c cL_law 4 s #[Value.ref b] wsL_law RL) (hK : KN D cI cN s) (hA : ∀ q : Nat, s.heap.size ≤ q → A q) (hX : va_X b L xs s s.heap) (hbl : b < s.heap.size) (hbA : ¬ A b) {i : Nat} (hi4 : i + 4 ≤ L) (hL : L ≤ 2048) {kx : OS} {hi : HS} {x o sn r tr n g : OS} {r0 : Int32} {a1 : Int32} (ea1 : xs (i + 1) = a1) (h5 : fX5_callOfInlet kx n a1 = r0) (h6 : fX6_callOfInlet g a1 = some r0) (H : Heap) (locs : List Loc) (ls : Array Slot) (hP : va_P D vwCl ((cxW a (v 0 0) (v 1 0) (v 2 0) (v 3 0) (v 4 0) (v 5 0) (v 6 0) (kx.1 7)) ++ ((hiW cI cN (v 5) w hi) ++ ((txW cI (v 6) x) ++ ((nwW cI (v 1) o) ++ ((nwW cI (v 2) sn) ++ ((rtW cI (v 4) r) ++ ((nwW cI (v 3) tr) ++ ((nwW cI (v 0) n) ++ (mdW cI z g))))))))) H) (hD : va_D A ((cxW a (v 0 0) (v 1 0) (v 2 0) (v 3 0) (v 4 0) (v 5 0) (v 6 0) (kx.1 7)) ++ ((hiW cI cN (v 5) w hi) ++ ((txW cI (v 6) x) ++ ((nwW cI (v 1) o) ++ ((nwW cI (v 2) sn) ++ ((rtW cI (v 4) r) ++ ((nwW cI (v 3) tr) ++ ((nwW cI (v 0) n) ++ (mdW cI z g)))))))))) (hS : va_S A s.heap H locs) (hl : lv_has ls 4 [(0, .ref b), (1, .ref a), (2, .ref (z 0)), (3, .int (nI i))]) (kk : ∀ (H : Heap) (locs : List Loc) (ls : Array Slot), va_P D vwCl ((cxW a (v 0 0) (v 1 0) (v 2 0) (v 3 0) (v 4 0) (v 5 0) (v 6 0) (kx.1 7)) ++ ((hiW cI cN (v 5) w hi) ++ ((txW cI (v 6) x) ++ ((nwW cI (v 1) o) ++ ((nwW cI (v 2) sn) ++ ((rtW cI (v 4) r) ++ ((nwW cI (v 3) tr) ++ ((nwW cI (v 0) n) ++ (mdW cI z g))))))))) H → va_D A ((cxW a (v 0 0) (v 1 0) (v 2 0) (v 3 0) (v 4 0) (v 5 0) (v 6 0) (kx.1 7)) ++ ((hiW cI cN (v 5) w hi) ++ ((txW cI (v 6) x) ++ ((nwW cI (v 1) o) ++ ((nwW cI (v 2) sn) ++ ((rtW cI (v 4) r) ++ ((nwW cI (v 3) tr) ++ ((nwW cI (v 0) n) ++ (mdW cI z g))))))))) → va_S A s.heap H locs → lv_has ls 4 [(0, .ref b), (1, .ref a), (2, .ref (z 0)), (3, .int (nI i))] → W p l e room_1 s m #[Value.ref b] below meth c H locs 120 4135 Q (F0 m 924 ls [])) : W p l e room_1 s m #[Value.ref b] below meth c H locs 120 4135 Q (F0 m 470 ls []) := by
  obtain ⟨hx, hb, hml, hown, hts⟩ := id S
  have ei1 : nI i + (1 : Int32) = nI (i + 1) := by rw [show (1 : Int32) = nI 1 from rfl, nI_add]
  have hin1 : vp_in (nI (i + 1)) L := vp_in_nI (by omega) (by omega)
  have ec1 : (nI (i + 1)).toNatClampNeg = i + 1 := nI_clamp (by omega)
  have ei2 : nI i + (2 : Int32) = nI (i + 2) := by rw [show (2 : Int32) = nI 2 from rfl, nI_add]
  have hin2 : vp_in (nI (i + 2)) L := vp_in_nI (by omega) (by omega)
  have ec2 : (nI (i + 2)).toNatClampNeg = i + 2 := nI_clamp (by omega)
  have ei3 : nI i + (3 : Int32) = nI (i + 3) := by rw [show (3 : Int32) = nI 3 from rfl, nI_add]
  have hin3 : vp_in (nI (i + 3)) L := vp_in_nI (by omega) (by omega)
  have ec3 : (nI (i + 3)).toNatClampNeg = i + 3 := nI_clamp (by omega)
  refine lv_aload_n hx hb dL_law_470 rfl (lv_at hl 1 rfl) ?_
  refine lv_aload_n hx hb dL_law_471 rfl (lv_at hl 0 rfl) ?_
  refine lv_iload_n hx hb dL_law_472 rfl (lv_at hl 3 rfl) ?_
  refine lv_iconst (v := (1 : Int32)) hx hb dL_law_473 kc_iconst_1 ?_
  refine lv_iadd hx hb dL_law_474 ?_
  rw [ei1]
  refine va_sld hx hb hX hbl hbA hS hin1 dL_law_475 ?_
  rw [ec1, ea1]
  refine cQi (As := [.int a1]) (rest := []) (q0 := 0) (ci := 5) S (c_X5_callOfInlet l D cI cN a (v 1 0) (v 2 0) (v 3 0) (v 4 0) (v 5 0) (v 6 0) (v 0) _ kx n a1 r0 h5) (cwV 1 hts gL_law_X5_callOfInlet rfl rfl rfl (by decide +kernel) ⟨Nat.le_of_ble_eq_true rfl, Nat.le_of_ble_eq_true rfl⟩) hK hP hS hA (P_sel [(true, (cxW a (v 0 0) (v 1 0) (v 2 0) (v 3 0) (v 4 0) (v 5 0) (v 6 0) (kx.1 7)), (cxW a (v 0 0) (v 1 0) (v 2 0) (v 3 0) (v 4 0) (v 5 0) (v 6 0) (kx.1 7))), (false, (hiW cI cN (v 5) w hi), (hiW cI cN (v 5) w hi)), (false, (txW cI (v 6) x), (txW cI (v 6) x)), (false, (nwW cI (v 1) o), (nwW cI (v 1) o)), (false, (nwW cI (v 2) sn), (nwW cI (v 2) sn)), (false, (rtW cI (v 4) r), (rtW cI (v 4) r)), (false, (nwW cI (v 3) tr), (nwW cI (v 3) tr)), (true, (nwW cI (v 0) n), (nwW cI (v 0) n)), (false, (mdW cI z g), (mdW cI z g))] hP) rfl rfl rfl hl.1 rfl (Nat.le_of_ble_eq_true rfl) dL_law_476 ⟨Nat.le_of_ble_eq_true rfl, Nat.le_of_ble_eq_true rfl⟩ (fun H locs hP hS => ?_)
  refine lv_aload_n hx hb dL_law_479 rfl (lv_at hl 2 rfl) ?_
  refine lv_aload_n hx hb dL_law_480 rfl (lv_at hl 0 rfl) ?_
  refine lv_iload_n hx hb dL_law_481 rfl (lv_at hl 3 rfl) ?_
  refine lv_iconst (v := (1 : Int32)) hx hb dL_law_482 kc_iconst_1 ?_
  refine lv_iadd hx hb dL_law_483 ?_
  rw [ei1]
  refine va_sld hx hb hX hbl hbA hS hin1 dL_law_484 ?_
  rw [ec1, ea1]
  refine cQi (As := [.int a1]) (rest := [.int r0]) (q0 := 115) (ci := 6) S (c_X6_callOfInlet l D cI cN z _ g a1 r0 h6) (cwV 1 hts gL_law_X6_callOfInlet rfl rfl rfl (by decide +kernel) ⟨Nat.le_of_ble_eq_true rfl, Nat.le_of_ble_eq_true rfl⟩) hK hP hS hA (P_sel [(false, (cxW a (v 0 0) (v 1 0) (v 2 0) (v 3 0) (v 4 0) (v 5 0) (v 6 0) (kx.1 7)), (cxW a (v 0 0) (v 1 0) (v 2 0) (v 3 0) (v 4 0) (v 5 0) (v 6 0) (kx.1 7))), (false, (hiW cI cN (v 5) w hi), (hiW cI cN (v 5) w hi)), (false, (txW cI (v 6) x), (txW cI (v 6) x)), (false, (nwW cI (v 1) o), (nwW cI (v 1) o)), (false, (nwW cI (v 2) sn), (nwW cI (v 2) sn)), (false, (rtW cI (v 4) r), (rtW cI (v 4) r)), (false, (nwW cI (v 3) tr), (nwW cI (v 3) tr)), (false, (nwW cI (v 0) n), (nwW cI (v 0) n)), (true, (mdW cI z g), (mdW cI z g))] hP) rfl rfl rfl hl.1 rfl (Nat.le_of_ble_eq_true rfl) dL_law_485 ⟨Nat.le_of_ble_eq_true rfl, Nat.le_of_ble_eq_true rfl⟩ (fun H locs hP hS => ?_)
  refine lv_icmp_eq (tgt := 924) hx hb dL_law_488 (by decide) (fun _ => ?_) (fun cne => absurd rfl cne)
  exact kk H locs ls hP hD hS hl
set_option maxRecDepth 100000 in
set_option maxHeartbeats 4000000 in
theorem lc_15 {p : Program} {l : Launch} {e : Env} {s : State} {m : MethodId} {below : List Frame} {meth : Method} {c : Code} {Q : State → Prop} {D : va_G} {cI cN : ClassId} {A : Nat → Prop} {b L : Nat} {xs : Nat → Int32} {a : Nat} {v w : Nat → Nat → Nat} {z : Nat → Nat} (S : CallFix p m c cL_law 4 s #[Value.ref b] wsL_law RL) (hK : KN D cI cN s) (hA : ∀ q : Nat, s.heap.size ≤ q → A q) (hX : va_X b L xs s s.heap) (hbl : b < s.heap.size) (hbA : ¬ A b) {i : Nat} (hi4 : i + 4 ≤ L) (hL : L ≤ 2048) {kx : OS} {hi : HS} {x o sn r tr n g : OS} {r0 : Int32} {a1 : Int32} (ea1 : xs (i + 1) = a1) (h5 : fX5_callOfOutlet kx n a1 = r0) (h6 : fX6_callOfOutlet g a1 = some r0) (H : Heap) (locs : List Loc) (ls : Array Slot) (hP : va_P D vwCl ((cxW a (v 0 0) (v 1 0) (v 2 0) (v 3 0) (v 4 0) (v 5 0) (v 6 0) (kx.1 7)) ++ ((hiW cI cN (v 5) w hi) ++ ((txW cI (v 6) x) ++ ((nwW cI (v 1) o) ++ ((nwW cI (v 2) sn) ++ ((rtW cI (v 4) r) ++ ((nwW cI (v 3) tr) ++ ((nwW cI (v 0) n) ++ (mdW cI z g))))))))) H) (hD : va_D A ((cxW a (v 0 0) (v 1 0) (v 2 0) (v 3 0) (v 4 0) (v 5 0) (v 6 0) (kx.1 7)) ++ ((hiW cI cN (v 5) w hi) ++ ((txW cI (v 6) x) ++ ((nwW cI (v 1) o) ++ ((nwW cI (v 2) sn) ++ ((rtW cI (v 4) r) ++ ((nwW cI (v 3) tr) ++ ((nwW cI (v 0) n) ++ (mdW cI z g)))))))))) (hS : va_S A s.heap H locs) (hl : lv_has ls 4 [(0, .ref b), (1, .ref a), (2, .ref (z 0)), (3, .int (nI i))]) (kk : ∀ (H : Heap) (locs : List Loc) (ls : Array Slot), va_P D vwCl ((cxW a (v 0 0) (v 1 0) (v 2 0) (v 3 0) (v 4 0) (v 5 0) (v 6 0) (kx.1 7)) ++ ((hiW cI cN (v 5) w hi) ++ ((txW cI (v 6) x) ++ ((nwW cI (v 1) o) ++ ((nwW cI (v 2) sn) ++ ((rtW cI (v 4) r) ++ ((nwW cI (v 3) tr) ++ ((nwW cI (v 0) n) ++ (mdW cI z g))))))))) H → va_D A ((cxW a (v 0 0) (v 1 0) (v 2 0) (v 3 0) (v 4 0) (v 5 0) (v 6 0) (kx.1 7)) ++ ((hiW cI cN (v 5) w hi) ++ ((txW cI (v 6) x) ++ ((nwW cI (v 1) o) ++ ((nwW cI (v 2) sn) ++ ((rtW cI (v 4) r) ++ ((nwW cI (v 3) tr) ++ ((nwW cI (v 0) n) ++ (mdW cI z g))))))))) → va_S A s.heap H locs → lv_has ls 4 [(0, .ref b), (1, .ref a), (2, .ref (z 0)), (3, .int (nI i))] → W p l e room_1 s m #[Value.ref b] below meth c H locs 120 4135 Q (F0 m 924 ls [])) : W p l e room_1 s m #[Value.ref b] below meth c H locs 120 4135 Q (F0 m 493 ls []) := by
  obtain ⟨hx, hb, hml, hown, hts⟩ := id S
  have ei1 : nI i + (1 : Int32) = nI (i + 1) := by rw [show (1 : Int32) = nI 1 from rfl, nI_add]
  have hin1 : vp_in (nI (i + 1)) L := vp_in_nI (by omega) (by omega)
  have ec1 : (nI (i + 1)).toNatClampNeg = i + 1 := nI_clamp (by omega)
  have ei2 : nI i + (2 : Int32) = nI (i + 2) := by rw [show (2 : Int32) = nI 2 from rfl, nI_add]
  have hin2 : vp_in (nI (i + 2)) L := vp_in_nI (by omega) (by omega)
  have ec2 : (nI (i + 2)).toNatClampNeg = i + 2 := nI_clamp (by omega)
  have ei3 : nI i + (3 : Int32) = nI (i + 3) := by rw [show (3 : Int32) = nI 3 from rfl, nI_add]
  have hin3 : vp_in (nI (i + 3)) L := vp_in_nI (by omega) (by omega)
  have ec3 : (nI (i + 3)).toNatClampNeg = i + 3 := nI_clamp (by omega)
  refine lv_aload_n hx hb dL_law_493 rfl (lv_at hl 1 rfl) ?_
  refine lv_aload_n hx hb dL_law_494 rfl (lv_at hl 0 rfl) ?_
  refine lv_iload_n hx hb dL_law_495 rfl (lv_at hl 3 rfl) ?_
  refine lv_iconst (v := (1 : Int32)) hx hb dL_law_496 kc_iconst_1 ?_
  refine lv_iadd hx hb dL_law_497 ?_
  rw [ei1]
  refine va_sld hx hb hX hbl hbA hS hin1 dL_law_498 ?_
  rw [ec1, ea1]
  refine cQi (As := [.int a1]) (rest := []) (q0 := 0) (ci := 5) S (c_X5_callOfOutlet l D cI cN a (v 1 0) (v 2 0) (v 3 0) (v 4 0) (v 5 0) (v 6 0) (v 0) _ kx n a1 r0 h5) (cwV 1 hts gL_law_X5_callOfOutlet rfl rfl rfl (by decide +kernel) ⟨Nat.le_of_ble_eq_true rfl, Nat.le_of_ble_eq_true rfl⟩) hK hP hS hA (P_sel [(true, (cxW a (v 0 0) (v 1 0) (v 2 0) (v 3 0) (v 4 0) (v 5 0) (v 6 0) (kx.1 7)), (cxW a (v 0 0) (v 1 0) (v 2 0) (v 3 0) (v 4 0) (v 5 0) (v 6 0) (kx.1 7))), (false, (hiW cI cN (v 5) w hi), (hiW cI cN (v 5) w hi)), (false, (txW cI (v 6) x), (txW cI (v 6) x)), (false, (nwW cI (v 1) o), (nwW cI (v 1) o)), (false, (nwW cI (v 2) sn), (nwW cI (v 2) sn)), (false, (rtW cI (v 4) r), (rtW cI (v 4) r)), (false, (nwW cI (v 3) tr), (nwW cI (v 3) tr)), (true, (nwW cI (v 0) n), (nwW cI (v 0) n)), (false, (mdW cI z g), (mdW cI z g))] hP) rfl rfl rfl hl.1 rfl (Nat.le_of_ble_eq_true rfl) dL_law_499 ⟨Nat.le_of_ble_eq_true rfl, Nat.le_of_ble_eq_true rfl⟩ (fun H locs hP hS => ?_)
  refine lv_aload_n hx hb dL_law_502 rfl (lv_at hl 2 rfl) ?_
  refine lv_aload_n hx hb dL_law_503 rfl (lv_at hl 0 rfl) ?_
  refine lv_iload_n hx hb dL_law_504 rfl (lv_at hl 3 rfl) ?_
  refine lv_iconst (v := (1 : Int32)) hx hb dL_law_505 kc_iconst_1 ?_
  refine lv_iadd hx hb dL_law_506 ?_
  rw [ei1]
  refine va_sld hx hb hX hbl hbA hS hin1 dL_law_507 ?_
  rw [ec1, ea1]
  refine cQi (As := [.int a1]) (rest := [.int r0]) (q0 := 115) (ci := 6) S (c_X6_callOfOutlet l D cI cN z _ g a1 r0 h6) (cwV 1 hts gL_law_X6_callOfOutlet rfl rfl rfl (by decide +kernel) ⟨Nat.le_of_ble_eq_true rfl, Nat.le_of_ble_eq_true rfl⟩) hK hP hS hA (P_sel [(false, (cxW a (v 0 0) (v 1 0) (v 2 0) (v 3 0) (v 4 0) (v 5 0) (v 6 0) (kx.1 7)), (cxW a (v 0 0) (v 1 0) (v 2 0) (v 3 0) (v 4 0) (v 5 0) (v 6 0) (kx.1 7))), (false, (hiW cI cN (v 5) w hi), (hiW cI cN (v 5) w hi)), (false, (txW cI (v 6) x), (txW cI (v 6) x)), (false, (nwW cI (v 1) o), (nwW cI (v 1) o)), (false, (nwW cI (v 2) sn), (nwW cI (v 2) sn)), (false, (rtW cI (v 4) r), (rtW cI (v 4) r)), (false, (nwW cI (v 3) tr), (nwW cI (v 3) tr)), (false, (nwW cI (v 0) n), (nwW cI (v 0) n)), (true, (mdW cI z g), (mdW cI z g))] hP) rfl rfl rfl hl.1 rfl (Nat.le_of_ble_eq_true rfl) dL_law_508 ⟨Nat.le_of_ble_eq_true rfl, Nat.le_of_ble_eq_true rfl⟩ (fun H locs hP hS => ?_)
  refine lv_icmp_eq (tgt := 924) hx hb dL_law_511 (by decide) (fun _ => ?_) (fun cne => absurd rfl cne)
  exact kk H locs ls hP hD hS hl
set_option maxRecDepth 100000 in
set_option maxHeartbeats 4000000 in
theorem lc_16 {p : Program} {l : Launch} {e : Env} {s : State} {m : MethodId} {below : List Frame} {meth : Method} {c : Code} {Q : State → Prop} {D : va_G} {cI cN : ClassId} {A : Nat → Prop} {b L : Nat} {xs : Nat → Int32} {a : Nat} {v w : Nat → Nat → Nat} {z : Nat → Nat} (S : CallFix p m c cL_law 4 s #[Value.ref b] wsL_law RL) (hK : KN D cI cN s) (hA : ∀ q : Nat, s.heap.size ≤ q → A q) (hX : va_X b L xs s s.heap) (hbl : b < s.heap.size) (hbA : ¬ A b) {i : Nat} (hi4 : i + 4 ≤ L) (hL : L ≤ 2048) {kx : OS} {hi : HS} {x o sn r tr n g : OS} {r0 : Int32} {a1 : Int32} (ea1 : xs (i + 1) = a1) (h5 : fX5_inletOf kx n a1 = some r0) (h6 : fX6_inletOf g a1 = some r0) (H : Heap) (locs : List Loc) (ls : Array Slot) (hP : va_P D vwCl ((cxW a (v 0 0) (v 1 0) (v 2 0) (v 3 0) (v 4 0) (v 5 0) (v 6 0) (kx.1 7)) ++ ((hiW cI cN (v 5) w hi) ++ ((txW cI (v 6) x) ++ ((nwW cI (v 1) o) ++ ((nwW cI (v 2) sn) ++ ((rtW cI (v 4) r) ++ ((nwW cI (v 3) tr) ++ ((nwW cI (v 0) n) ++ (mdW cI z g))))))))) H) (hD : va_D A ((cxW a (v 0 0) (v 1 0) (v 2 0) (v 3 0) (v 4 0) (v 5 0) (v 6 0) (kx.1 7)) ++ ((hiW cI cN (v 5) w hi) ++ ((txW cI (v 6) x) ++ ((nwW cI (v 1) o) ++ ((nwW cI (v 2) sn) ++ ((rtW cI (v 4) r) ++ ((nwW cI (v 3) tr) ++ ((nwW cI (v 0) n) ++ (mdW cI z g)))))))))) (hS : va_S A s.heap H locs) (hl : lv_has ls 4 [(0, .ref b), (1, .ref a), (2, .ref (z 0)), (3, .int (nI i))]) (kk : ∀ (H : Heap) (locs : List Loc) (ls : Array Slot), va_P D vwCl ((cxW a (v 0 0) (v 1 0) (v 2 0) (v 3 0) (v 4 0) (v 5 0) (v 6 0) (kx.1 7)) ++ ((hiW cI cN (v 5) w hi) ++ ((txW cI (v 6) x) ++ ((nwW cI (v 1) o) ++ ((nwW cI (v 2) sn) ++ ((rtW cI (v 4) r) ++ ((nwW cI (v 3) tr) ++ ((nwW cI (v 0) n) ++ (mdW cI z g))))))))) H → va_D A ((cxW a (v 0 0) (v 1 0) (v 2 0) (v 3 0) (v 4 0) (v 5 0) (v 6 0) (kx.1 7)) ++ ((hiW cI cN (v 5) w hi) ++ ((txW cI (v 6) x) ++ ((nwW cI (v 1) o) ++ ((nwW cI (v 2) sn) ++ ((rtW cI (v 4) r) ++ ((nwW cI (v 3) tr) ++ ((nwW cI (v 0) n) ++ (mdW cI z g))))))))) → va_S A s.heap H locs → lv_has ls 4 [(0, .ref b), (1, .ref a), (2, .ref (z 0)), (3, .int (nI i))] → W p l e room_1 s m #[Value.ref b] below meth c H locs 120 4135 Q (F0 m 924 ls [])) : W p l e room_1 s m #[Value.ref b] below meth c H locs 120 4135 Q (F0 m 516 ls []) := by
  obtain ⟨hx, hb, hml, hown, hts⟩ := id S
  have ei1 : nI i + (1 : Int32) = nI (i + 1) := by rw [show (1 : Int32) = nI 1 from rfl, nI_add]
  have hin1 : vp_in (nI (i + 1)) L := vp_in_nI (by omega) (by omega)
  have ec1 : (nI (i + 1)).toNatClampNeg = i + 1 := nI_clamp (by omega)
  have ei2 : nI i + (2 : Int32) = nI (i + 2) := by rw [show (2 : Int32) = nI 2 from rfl, nI_add]
  have hin2 : vp_in (nI (i + 2)) L := vp_in_nI (by omega) (by omega)
  have ec2 : (nI (i + 2)).toNatClampNeg = i + 2 := nI_clamp (by omega)
  have ei3 : nI i + (3 : Int32) = nI (i + 3) := by rw [show (3 : Int32) = nI 3 from rfl, nI_add]
  have hin3 : vp_in (nI (i + 3)) L := vp_in_nI (by omega) (by omega)
  have ec3 : (nI (i + 3)).toNatClampNeg = i + 3 := nI_clamp (by omega)
  refine lv_aload_n hx hb dL_law_516 rfl (lv_at hl 1 rfl) ?_
  refine lv_aload_n hx hb dL_law_517 rfl (lv_at hl 0 rfl) ?_
  refine lv_iload_n hx hb dL_law_518 rfl (lv_at hl 3 rfl) ?_
  refine lv_iconst (v := (1 : Int32)) hx hb dL_law_519 kc_iconst_1 ?_
  refine lv_iadd hx hb dL_law_520 ?_
  rw [ei1]
  refine va_sld hx hb hX hbl hbA hS hin1 dL_law_521 ?_
  rw [ec1, ea1]
  refine cQi (As := [.int a1]) (rest := []) (q0 := 0) (ci := 5) S (c_X5_inletOf l D cI cN a (v 1 0) (v 2 0) (v 3 0) (v 4 0) (v 5 0) (v 6 0) (v 0) _ kx n a1 r0 h5) (cwV 1 hts gL_law_X5_inletOf rfl rfl rfl (by decide +kernel) ⟨Nat.le_of_ble_eq_true rfl, Nat.le_of_ble_eq_true rfl⟩) hK hP hS hA (P_sel [(true, (cxW a (v 0 0) (v 1 0) (v 2 0) (v 3 0) (v 4 0) (v 5 0) (v 6 0) (kx.1 7)), (cxW a (v 0 0) (v 1 0) (v 2 0) (v 3 0) (v 4 0) (v 5 0) (v 6 0) (kx.1 7))), (false, (hiW cI cN (v 5) w hi), (hiW cI cN (v 5) w hi)), (false, (txW cI (v 6) x), (txW cI (v 6) x)), (false, (nwW cI (v 1) o), (nwW cI (v 1) o)), (false, (nwW cI (v 2) sn), (nwW cI (v 2) sn)), (false, (rtW cI (v 4) r), (rtW cI (v 4) r)), (false, (nwW cI (v 3) tr), (nwW cI (v 3) tr)), (true, (nwW cI (v 0) n), (nwW cI (v 0) n)), (false, (mdW cI z g), (mdW cI z g))] hP) rfl rfl rfl hl.1 rfl (Nat.le_of_ble_eq_true rfl) dL_law_522 ⟨Nat.le_of_ble_eq_true rfl, Nat.le_of_ble_eq_true rfl⟩ (fun H locs hP hS => ?_)
  refine lv_aload_n hx hb dL_law_525 rfl (lv_at hl 2 rfl) ?_
  refine lv_aload_n hx hb dL_law_526 rfl (lv_at hl 0 rfl) ?_
  refine lv_iload_n hx hb dL_law_527 rfl (lv_at hl 3 rfl) ?_
  refine lv_iconst (v := (1 : Int32)) hx hb dL_law_528 kc_iconst_1 ?_
  refine lv_iadd hx hb dL_law_529 ?_
  rw [ei1]
  refine va_sld hx hb hX hbl hbA hS hin1 dL_law_530 ?_
  rw [ec1, ea1]
  refine cQi (As := [.int a1]) (rest := [.int r0]) (q0 := 115) (ci := 6) S (c_X6_inletOf l D cI cN z _ g a1 r0 h6) (cwV 1 hts gL_law_X6_inletOf rfl rfl rfl (by decide +kernel) ⟨Nat.le_of_ble_eq_true rfl, Nat.le_of_ble_eq_true rfl⟩) hK hP hS hA (P_sel [(false, (cxW a (v 0 0) (v 1 0) (v 2 0) (v 3 0) (v 4 0) (v 5 0) (v 6 0) (kx.1 7)), (cxW a (v 0 0) (v 1 0) (v 2 0) (v 3 0) (v 4 0) (v 5 0) (v 6 0) (kx.1 7))), (false, (hiW cI cN (v 5) w hi), (hiW cI cN (v 5) w hi)), (false, (txW cI (v 6) x), (txW cI (v 6) x)), (false, (nwW cI (v 1) o), (nwW cI (v 1) o)), (false, (nwW cI (v 2) sn), (nwW cI (v 2) sn)), (false, (rtW cI (v 4) r), (rtW cI (v 4) r)), (false, (nwW cI (v 3) tr), (nwW cI (v 3) tr)), (false, (nwW cI (v 0) n), (nwW cI (v 0) n)), (true, (mdW cI z g), (mdW cI z g))] hP) rfl rfl rfl hl.1 rfl (Nat.le_of_ble_eq_true rfl) dL_law_531 ⟨Nat.le_of_ble_eq_true rfl, Nat.le_of_ble_eq_true rfl⟩ (fun H locs hP hS => ?_)
  refine lv_icmp_eq (tgt := 924) hx hb dL_law_534 (by decide) (fun _ => ?_) (fun cne => absurd rfl cne)
  exact kk H locs ls hP hD hS hl
set_option maxRecDepth 100000 in
set_option maxHeartbeats 4000000 in
theorem lc_17 {p : Program} {l : Launch} {e : Env} {s : State} {m : MethodId} {below : List Frame} {meth : Method} {c : Code} {Q : State → Prop} {D : va_G} {cI cN : ClassId} {A : Nat → Prop} {b L : Nat} {xs : Nat → Int32} {a : Nat} {v w : Nat → Nat → Nat} {z : Nat → Nat} (S : CallFix p m c cL_law 4 s #[Value.ref b] wsL_law RL) (hK : KN D cI cN s) (hA : ∀ q : Nat, s.heap.size ≤ q → A q) (hX : va_X b L xs s s.heap) (hbl : b < s.heap.size) (hbA : ¬ A b) {i : Nat} (hi4 : i + 4 ≤ L) (hL : L ≤ 2048) {kx : OS} {hi : HS} {x o sn r tr n g : OS} {r0 : Int32} {a1 : Int32} (ea1 : xs (i + 1) = a1) (h5 : fX5_outletOf kx n a1 = some r0) (h6 : fX6_outletOf g a1 = some r0) (H : Heap) (locs : List Loc) (ls : Array Slot) (hP : va_P D vwCl ((cxW a (v 0 0) (v 1 0) (v 2 0) (v 3 0) (v 4 0) (v 5 0) (v 6 0) (kx.1 7)) ++ ((hiW cI cN (v 5) w hi) ++ ((txW cI (v 6) x) ++ ((nwW cI (v 1) o) ++ ((nwW cI (v 2) sn) ++ ((rtW cI (v 4) r) ++ ((nwW cI (v 3) tr) ++ ((nwW cI (v 0) n) ++ (mdW cI z g))))))))) H) (hD : va_D A ((cxW a (v 0 0) (v 1 0) (v 2 0) (v 3 0) (v 4 0) (v 5 0) (v 6 0) (kx.1 7)) ++ ((hiW cI cN (v 5) w hi) ++ ((txW cI (v 6) x) ++ ((nwW cI (v 1) o) ++ ((nwW cI (v 2) sn) ++ ((rtW cI (v 4) r) ++ ((nwW cI (v 3) tr) ++ ((nwW cI (v 0) n) ++ (mdW cI z g)))))))))) (hS : va_S A s.heap H locs) (hl : lv_has ls 4 [(0, .ref b), (1, .ref a), (2, .ref (z 0)), (3, .int (nI i))]) (kk : ∀ (H : Heap) (locs : List Loc) (ls : Array Slot), va_P D vwCl ((cxW a (v 0 0) (v 1 0) (v 2 0) (v 3 0) (v 4 0) (v 5 0) (v 6 0) (kx.1 7)) ++ ((hiW cI cN (v 5) w hi) ++ ((txW cI (v 6) x) ++ ((nwW cI (v 1) o) ++ ((nwW cI (v 2) sn) ++ ((rtW cI (v 4) r) ++ ((nwW cI (v 3) tr) ++ ((nwW cI (v 0) n) ++ (mdW cI z g))))))))) H → va_D A ((cxW a (v 0 0) (v 1 0) (v 2 0) (v 3 0) (v 4 0) (v 5 0) (v 6 0) (kx.1 7)) ++ ((hiW cI cN (v 5) w hi) ++ ((txW cI (v 6) x) ++ ((nwW cI (v 1) o) ++ ((nwW cI (v 2) sn) ++ ((rtW cI (v 4) r) ++ ((nwW cI (v 3) tr) ++ ((nwW cI (v 0) n) ++ (mdW cI z g))))))))) → va_S A s.heap H locs → lv_has ls 4 [(0, .ref b), (1, .ref a), (2, .ref (z 0)), (3, .int (nI i))] → W p l e room_1 s m #[Value.ref b] below meth c H locs 120 4135 Q (F0 m 924 ls [])) : W p l e room_1 s m #[Value.ref b] below meth c H locs 120 4135 Q (F0 m 539 ls []) := by
  obtain ⟨hx, hb, hml, hown, hts⟩ := id S
  have ei1 : nI i + (1 : Int32) = nI (i + 1) := by rw [show (1 : Int32) = nI 1 from rfl, nI_add]
  have hin1 : vp_in (nI (i + 1)) L := vp_in_nI (by omega) (by omega)
  have ec1 : (nI (i + 1)).toNatClampNeg = i + 1 := nI_clamp (by omega)
  have ei2 : nI i + (2 : Int32) = nI (i + 2) := by rw [show (2 : Int32) = nI 2 from rfl, nI_add]
  have hin2 : vp_in (nI (i + 2)) L := vp_in_nI (by omega) (by omega)
  have ec2 : (nI (i + 2)).toNatClampNeg = i + 2 := nI_clamp (by omega)
  have ei3 : nI i + (3 : Int32) = nI (i + 3) := by rw [show (3 : Int32) = nI 3 from rfl, nI_add]
  have hin3 : vp_in (nI (i + 3)) L := vp_in_nI (by omega) (by omega)
  have ec3 : (nI (i + 3)).toNatClampNeg = i + 3 := nI_clamp (by omega)
  refine lv_aload_n hx hb dL_law_539 rfl (lv_at hl 1 rfl) ?_
  refine lv_aload_n hx hb dL_law_540 rfl (lv_at hl 0 rfl) ?_
  refine lv_iload_n hx hb dL_law_541 rfl (lv_at hl 3 rfl) ?_
  refine lv_iconst (v := (1 : Int32)) hx hb dL_law_542 kc_iconst_1 ?_
  refine lv_iadd hx hb dL_law_543 ?_
  rw [ei1]
  refine va_sld hx hb hX hbl hbA hS hin1 dL_law_544 ?_
  rw [ec1, ea1]
  refine cQi (As := [.int a1]) (rest := []) (q0 := 0) (ci := 5) S (c_X5_outletOf l D cI cN a (v 1 0) (v 2 0) (v 3 0) (v 4 0) (v 5 0) (v 6 0) (v 0) _ kx n a1 r0 h5) (cwV 1 hts gL_law_X5_outletOf rfl rfl rfl (by decide +kernel) ⟨Nat.le_of_ble_eq_true rfl, Nat.le_of_ble_eq_true rfl⟩) hK hP hS hA (P_sel [(true, (cxW a (v 0 0) (v 1 0) (v 2 0) (v 3 0) (v 4 0) (v 5 0) (v 6 0) (kx.1 7)), (cxW a (v 0 0) (v 1 0) (v 2 0) (v 3 0) (v 4 0) (v 5 0) (v 6 0) (kx.1 7))), (false, (hiW cI cN (v 5) w hi), (hiW cI cN (v 5) w hi)), (false, (txW cI (v 6) x), (txW cI (v 6) x)), (false, (nwW cI (v 1) o), (nwW cI (v 1) o)), (false, (nwW cI (v 2) sn), (nwW cI (v 2) sn)), (false, (rtW cI (v 4) r), (rtW cI (v 4) r)), (false, (nwW cI (v 3) tr), (nwW cI (v 3) tr)), (true, (nwW cI (v 0) n), (nwW cI (v 0) n)), (false, (mdW cI z g), (mdW cI z g))] hP) rfl rfl rfl hl.1 rfl (Nat.le_of_ble_eq_true rfl) dL_law_545 ⟨Nat.le_of_ble_eq_true rfl, Nat.le_of_ble_eq_true rfl⟩ (fun H locs hP hS => ?_)
  refine lv_aload_n hx hb dL_law_548 rfl (lv_at hl 2 rfl) ?_
  refine lv_aload_n hx hb dL_law_549 rfl (lv_at hl 0 rfl) ?_
  refine lv_iload_n hx hb dL_law_550 rfl (lv_at hl 3 rfl) ?_
  refine lv_iconst (v := (1 : Int32)) hx hb dL_law_551 kc_iconst_1 ?_
  refine lv_iadd hx hb dL_law_552 ?_
  rw [ei1]
  refine va_sld hx hb hX hbl hbA hS hin1 dL_law_553 ?_
  rw [ec1, ea1]
  refine cQi (As := [.int a1]) (rest := [.int r0]) (q0 := 115) (ci := 6) S (c_X6_outletOf l D cI cN z _ g a1 r0 h6) (cwV 1 hts gL_law_X6_outletOf rfl rfl rfl (by decide +kernel) ⟨Nat.le_of_ble_eq_true rfl, Nat.le_of_ble_eq_true rfl⟩) hK hP hS hA (P_sel [(false, (cxW a (v 0 0) (v 1 0) (v 2 0) (v 3 0) (v 4 0) (v 5 0) (v 6 0) (kx.1 7)), (cxW a (v 0 0) (v 1 0) (v 2 0) (v 3 0) (v 4 0) (v 5 0) (v 6 0) (kx.1 7))), (false, (hiW cI cN (v 5) w hi), (hiW cI cN (v 5) w hi)), (false, (txW cI (v 6) x), (txW cI (v 6) x)), (false, (nwW cI (v 1) o), (nwW cI (v 1) o)), (false, (nwW cI (v 2) sn), (nwW cI (v 2) sn)), (false, (rtW cI (v 4) r), (rtW cI (v 4) r)), (false, (nwW cI (v 3) tr), (nwW cI (v 3) tr)), (false, (nwW cI (v 0) n), (nwW cI (v 0) n)), (true, (mdW cI z g), (mdW cI z g))] hP) rfl rfl rfl hl.1 rfl (Nat.le_of_ble_eq_true rfl) dL_law_554 ⟨Nat.le_of_ble_eq_true rfl, Nat.le_of_ble_eq_true rfl⟩ (fun H locs hP hS => ?_)
  refine lv_icmp_eq (tgt := 924) hx hb dL_law_557 (by decide) (fun _ => ?_) (fun cne => absurd rfl cne)
  exact kk H locs ls hP hD hS hl
set_option maxRecDepth 100000 in
set_option maxHeartbeats 4000000 in
theorem lc_18 {p : Program} {l : Launch} {e : Env} {s : State} {m : MethodId} {below : List Frame} {meth : Method} {c : Code} {Q : State → Prop} {D : va_G} {cI cN : ClassId} {A : Nat → Prop} {b L : Nat} {xs : Nat → Int32} {a : Nat} {v w : Nat → Nat → Nat} {z : Nat → Nat} (S : CallFix p m c cL_law 4 s #[Value.ref b] wsL_law RL) (hK : KN D cI cN s) (hA : ∀ q : Nat, s.heap.size ≤ q → A q) (hX : va_X b L xs s s.heap) (hbl : b < s.heap.size) (hbA : ¬ A b) {i : Nat} (hi4 : i + 4 ≤ L) (hL : L ≤ 2048) {kx : OS} {hi : HS} {x o sn r tr n g : OS} {r0 : Int32} {a1 : Int32} (ea1 : xs (i + 1) = a1) (h5 : fX5_middleOf kx n a1 = some r0) (h6 : fX6_middleOf g a1 = some r0) (H : Heap) (locs : List Loc) (ls : Array Slot) (hP : va_P D vwCl ((cxW a (v 0 0) (v 1 0) (v 2 0) (v 3 0) (v 4 0) (v 5 0) (v 6 0) (kx.1 7)) ++ ((hiW cI cN (v 5) w hi) ++ ((txW cI (v 6) x) ++ ((nwW cI (v 1) o) ++ ((nwW cI (v 2) sn) ++ ((rtW cI (v 4) r) ++ ((nwW cI (v 3) tr) ++ ((nwW cI (v 0) n) ++ (mdW cI z g))))))))) H) (hD : va_D A ((cxW a (v 0 0) (v 1 0) (v 2 0) (v 3 0) (v 4 0) (v 5 0) (v 6 0) (kx.1 7)) ++ ((hiW cI cN (v 5) w hi) ++ ((txW cI (v 6) x) ++ ((nwW cI (v 1) o) ++ ((nwW cI (v 2) sn) ++ ((rtW cI (v 4) r) ++ ((nwW cI (v 3) tr) ++ ((nwW cI (v 0) n) ++ (mdW cI z g)))))))))) (hS : va_S A s.heap H locs) (hl : lv_has ls 4 [(0, .ref b), (1, .ref a), (2, .ref (z 0)), (3, .int (nI i))]) (kk : ∀ (H : Heap) (locs : List Loc) (ls : Array Slot), va_P D vwCl ((cxW a (v 0 0) (v 1 0) (v 2 0) (v 3 0) (v 4 0) (v 5 0) (v 6 0) (kx.1 7)) ++ ((hiW cI cN (v 5) w hi) ++ ((txW cI (v 6) x) ++ ((nwW cI (v 1) o) ++ ((nwW cI (v 2) sn) ++ ((rtW cI (v 4) r) ++ ((nwW cI (v 3) tr) ++ ((nwW cI (v 0) n) ++ (mdW cI z g))))))))) H → va_D A ((cxW a (v 0 0) (v 1 0) (v 2 0) (v 3 0) (v 4 0) (v 5 0) (v 6 0) (kx.1 7)) ++ ((hiW cI cN (v 5) w hi) ++ ((txW cI (v 6) x) ++ ((nwW cI (v 1) o) ++ ((nwW cI (v 2) sn) ++ ((rtW cI (v 4) r) ++ ((nwW cI (v 3) tr) ++ ((nwW cI (v 0) n) ++ (mdW cI z g))))))))) → va_S A s.heap H locs → lv_has ls 4 [(0, .ref b), (1, .ref a), (2, .ref (z 0)), (3, .int (nI i))] → W p l e room_1 s m #[Value.ref b] below meth c H locs 120 4135 Q (F0 m 924 ls [])) : W p l e room_1 s m #[Value.ref b] below meth c H locs 120 4135 Q (F0 m 562 ls []) := by
  obtain ⟨hx, hb, hml, hown, hts⟩ := id S
  have ei1 : nI i + (1 : Int32) = nI (i + 1) := by rw [show (1 : Int32) = nI 1 from rfl, nI_add]
  have hin1 : vp_in (nI (i + 1)) L := vp_in_nI (by omega) (by omega)
  have ec1 : (nI (i + 1)).toNatClampNeg = i + 1 := nI_clamp (by omega)
  have ei2 : nI i + (2 : Int32) = nI (i + 2) := by rw [show (2 : Int32) = nI 2 from rfl, nI_add]
  have hin2 : vp_in (nI (i + 2)) L := vp_in_nI (by omega) (by omega)
  have ec2 : (nI (i + 2)).toNatClampNeg = i + 2 := nI_clamp (by omega)
  have ei3 : nI i + (3 : Int32) = nI (i + 3) := by rw [show (3 : Int32) = nI 3 from rfl, nI_add]
  have hin3 : vp_in (nI (i + 3)) L := vp_in_nI (by omega) (by omega)
  have ec3 : (nI (i + 3)).toNatClampNeg = i + 3 := nI_clamp (by omega)
  refine lv_aload_n hx hb dL_law_562 rfl (lv_at hl 1 rfl) ?_
  refine lv_aload_n hx hb dL_law_563 rfl (lv_at hl 0 rfl) ?_
  refine lv_iload_n hx hb dL_law_564 rfl (lv_at hl 3 rfl) ?_
  refine lv_iconst (v := (1 : Int32)) hx hb dL_law_565 kc_iconst_1 ?_
  refine lv_iadd hx hb dL_law_566 ?_
  rw [ei1]
  refine va_sld hx hb hX hbl hbA hS hin1 dL_law_567 ?_
  rw [ec1, ea1]
  refine cQi (As := [.int a1]) (rest := []) (q0 := 0) (ci := 5) S (c_X5_middleOf l D cI cN a (v 1 0) (v 2 0) (v 3 0) (v 4 0) (v 5 0) (v 6 0) (v 0) _ kx n a1 r0 h5) (cwV 1 hts gL_law_X5_middleOf rfl rfl rfl (by decide +kernel) ⟨Nat.le_of_ble_eq_true rfl, Nat.le_of_ble_eq_true rfl⟩) hK hP hS hA (P_sel [(true, (cxW a (v 0 0) (v 1 0) (v 2 0) (v 3 0) (v 4 0) (v 5 0) (v 6 0) (kx.1 7)), (cxW a (v 0 0) (v 1 0) (v 2 0) (v 3 0) (v 4 0) (v 5 0) (v 6 0) (kx.1 7))), (false, (hiW cI cN (v 5) w hi), (hiW cI cN (v 5) w hi)), (false, (txW cI (v 6) x), (txW cI (v 6) x)), (false, (nwW cI (v 1) o), (nwW cI (v 1) o)), (false, (nwW cI (v 2) sn), (nwW cI (v 2) sn)), (false, (rtW cI (v 4) r), (rtW cI (v 4) r)), (false, (nwW cI (v 3) tr), (nwW cI (v 3) tr)), (true, (nwW cI (v 0) n), (nwW cI (v 0) n)), (false, (mdW cI z g), (mdW cI z g))] hP) rfl rfl rfl hl.1 rfl (Nat.le_of_ble_eq_true rfl) dL_law_568 ⟨Nat.le_of_ble_eq_true rfl, Nat.le_of_ble_eq_true rfl⟩ (fun H locs hP hS => ?_)
  refine lv_aload_n hx hb dL_law_571 rfl (lv_at hl 2 rfl) ?_
  refine lv_aload_n hx hb dL_law_572 rfl (lv_at hl 0 rfl) ?_
  refine lv_iload_n hx hb dL_law_573 rfl (lv_at hl 3 rfl) ?_
  refine lv_iconst (v := (1 : Int32)) hx hb dL_law_574 kc_iconst_1 ?_
  refine lv_iadd hx hb dL_law_575 ?_
  rw [ei1]
  refine va_sld hx hb hX hbl hbA hS hin1 dL_law_576 ?_
  rw [ec1, ea1]
  refine cQi (As := [.int a1]) (rest := [.int r0]) (q0 := 115) (ci := 6) S (c_X6_middleOf l D cI cN z _ g a1 r0 h6) (cwV 1 hts gL_law_X6_middleOf rfl rfl rfl (by decide +kernel) ⟨Nat.le_of_ble_eq_true rfl, Nat.le_of_ble_eq_true rfl⟩) hK hP hS hA (P_sel [(false, (cxW a (v 0 0) (v 1 0) (v 2 0) (v 3 0) (v 4 0) (v 5 0) (v 6 0) (kx.1 7)), (cxW a (v 0 0) (v 1 0) (v 2 0) (v 3 0) (v 4 0) (v 5 0) (v 6 0) (kx.1 7))), (false, (hiW cI cN (v 5) w hi), (hiW cI cN (v 5) w hi)), (false, (txW cI (v 6) x), (txW cI (v 6) x)), (false, (nwW cI (v 1) o), (nwW cI (v 1) o)), (false, (nwW cI (v 2) sn), (nwW cI (v 2) sn)), (false, (rtW cI (v 4) r), (rtW cI (v 4) r)), (false, (nwW cI (v 3) tr), (nwW cI (v 3) tr)), (false, (nwW cI (v 0) n), (nwW cI (v 0) n)), (true, (mdW cI z g), (mdW cI z g))] hP) rfl rfl rfl hl.1 rfl (Nat.le_of_ble_eq_true rfl) dL_law_577 ⟨Nat.le_of_ble_eq_true rfl, Nat.le_of_ble_eq_true rfl⟩ (fun H locs hP hS => ?_)
  refine lv_icmp_eq (tgt := 924) hx hb dL_law_580 (by decide) (fun _ => ?_) (fun cne => absurd rfl cne)
  exact kk H locs ls hP hD hS hl
set_option maxRecDepth 100000 in
set_option maxHeartbeats 4000000 in
theorem lc_19 {p : Program} {l : Launch} {e : Env} {s : State} {m : MethodId} {below : List Frame} {meth : Method} {c : Code} {Q : State → Prop} {D : va_G} {cI cN : ClassId} {A : Nat → Prop} {b L : Nat} {xs : Nat → Int32} {a : Nat} {v w : Nat → Nat → Nat} {z : Nat → Nat} (S : CallFix p m c cL_law 4 s #[Value.ref b] wsL_law RL) (hK : KN D cI cN s) (hA : ∀ q : Nat, s.heap.size ≤ q → A q) (hX : va_X b L xs s s.heap) (hbl : b < s.heap.size) (hbA : ¬ A b) {i : Nat} (hi4 : i + 4 ≤ L) (hL : L ≤ 2048) {kx : OS} {hi : HS} {x o sn r tr n g : OS} {r0 : Int32} {a1 a2 : Int32} (ea1 : xs (i + 1) = a1) (ea2 : xs (i + 2) = a2) (h5 : fX5_onFirstLink kx n a1 a2 = r0) (h6 : fX6_onFirstLink g a1 a2 = some r0) (H : Heap) (locs : List Loc) (ls : Array Slot) (hP : va_P D vwCl ((cxW a (v 0 0) (v 1 0) (v 2 0) (v 3 0) (v 4 0) (v 5 0) (v 6 0) (kx.1 7)) ++ ((hiW cI cN (v 5) w hi) ++ ((txW cI (v 6) x) ++ ((nwW cI (v 1) o) ++ ((nwW cI (v 2) sn) ++ ((rtW cI (v 4) r) ++ ((nwW cI (v 3) tr) ++ ((nwW cI (v 0) n) ++ (mdW cI z g))))))))) H) (hD : va_D A ((cxW a (v 0 0) (v 1 0) (v 2 0) (v 3 0) (v 4 0) (v 5 0) (v 6 0) (kx.1 7)) ++ ((hiW cI cN (v 5) w hi) ++ ((txW cI (v 6) x) ++ ((nwW cI (v 1) o) ++ ((nwW cI (v 2) sn) ++ ((rtW cI (v 4) r) ++ ((nwW cI (v 3) tr) ++ ((nwW cI (v 0) n) ++ (mdW cI z g)))))))))) (hS : va_S A s.heap H locs) (hl : lv_has ls 4 [(0, .ref b), (1, .ref a), (2, .ref (z 0)), (3, .int (nI i))]) (kk : ∀ (H : Heap) (locs : List Loc) (ls : Array Slot), va_P D vwCl ((cxW a (v 0 0) (v 1 0) (v 2 0) (v 3 0) (v 4 0) (v 5 0) (v 6 0) (kx.1 7)) ++ ((hiW cI cN (v 5) w hi) ++ ((txW cI (v 6) x) ++ ((nwW cI (v 1) o) ++ ((nwW cI (v 2) sn) ++ ((rtW cI (v 4) r) ++ ((nwW cI (v 3) tr) ++ ((nwW cI (v 0) n) ++ (mdW cI z g))))))))) H → va_D A ((cxW a (v 0 0) (v 1 0) (v 2 0) (v 3 0) (v 4 0) (v 5 0) (v 6 0) (kx.1 7)) ++ ((hiW cI cN (v 5) w hi) ++ ((txW cI (v 6) x) ++ ((nwW cI (v 1) o) ++ ((nwW cI (v 2) sn) ++ ((rtW cI (v 4) r) ++ ((nwW cI (v 3) tr) ++ ((nwW cI (v 0) n) ++ (mdW cI z g))))))))) → va_S A s.heap H locs → lv_has ls 4 [(0, .ref b), (1, .ref a), (2, .ref (z 0)), (3, .int (nI i))] → W p l e room_1 s m #[Value.ref b] below meth c H locs 120 4135 Q (F0 m 924 ls [])) : W p l e room_1 s m #[Value.ref b] below meth c H locs 120 4135 Q (F0 m 585 ls []) := by
  obtain ⟨hx, hb, hml, hown, hts⟩ := id S
  have ei1 : nI i + (1 : Int32) = nI (i + 1) := by rw [show (1 : Int32) = nI 1 from rfl, nI_add]
  have hin1 : vp_in (nI (i + 1)) L := vp_in_nI (by omega) (by omega)
  have ec1 : (nI (i + 1)).toNatClampNeg = i + 1 := nI_clamp (by omega)
  have ei2 : nI i + (2 : Int32) = nI (i + 2) := by rw [show (2 : Int32) = nI 2 from rfl, nI_add]
  have hin2 : vp_in (nI (i + 2)) L := vp_in_nI (by omega) (by omega)
  have ec2 : (nI (i + 2)).toNatClampNeg = i + 2 := nI_clamp (by omega)
  have ei3 : nI i + (3 : Int32) = nI (i + 3) := by rw [show (3 : Int32) = nI 3 from rfl, nI_add]
  have hin3 : vp_in (nI (i + 3)) L := vp_in_nI (by omega) (by omega)
  have ec3 : (nI (i + 3)).toNatClampNeg = i + 3 := nI_clamp (by omega)
  refine lv_aload_n hx hb dL_law_585 rfl (lv_at hl 1 rfl) ?_
  refine lv_aload_n hx hb dL_law_586 rfl (lv_at hl 0 rfl) ?_
  refine lv_iload_n hx hb dL_law_587 rfl (lv_at hl 3 rfl) ?_
  refine lv_iconst (v := (1 : Int32)) hx hb dL_law_588 kc_iconst_1 ?_
  refine lv_iadd hx hb dL_law_589 ?_
  rw [ei1]
  refine va_sld hx hb hX hbl hbA hS hin1 dL_law_590 ?_
  rw [ec1, ea1]
  refine lv_aload_n hx hb dL_law_591 rfl (lv_at hl 0 rfl) ?_
  refine lv_iload_n hx hb dL_law_592 rfl (lv_at hl 3 rfl) ?_
  refine lv_iconst (v := (2 : Int32)) hx hb dL_law_593 kc_iconst_2 ?_
  refine lv_iadd hx hb dL_law_594 ?_
  rw [ei2]
  refine va_sld hx hb hX hbl hbA hS hin2 dL_law_595 ?_
  rw [ec2, ea2]
  refine cQi (As := [.int a1, .int a2]) (rest := []) (q0 := 0) (ci := 5) S (c_X5_onFirstLink l D cI cN a (v 1 0) (v 2 0) (v 3 0) (v 4 0) (v 5 0) (v 6 0) (v 0) _ kx n a1 a2 r0 h5) (cwV 2 hts gL_law_X5_onFirstLink rfl rfl rfl (by decide +kernel) ⟨Nat.le_of_ble_eq_true rfl, Nat.le_of_ble_eq_true rfl⟩) hK hP hS hA (P_sel [(true, (cxW a (v 0 0) (v 1 0) (v 2 0) (v 3 0) (v 4 0) (v 5 0) (v 6 0) (kx.1 7)), (cxW a (v 0 0) (v 1 0) (v 2 0) (v 3 0) (v 4 0) (v 5 0) (v 6 0) (kx.1 7))), (false, (hiW cI cN (v 5) w hi), (hiW cI cN (v 5) w hi)), (false, (txW cI (v 6) x), (txW cI (v 6) x)), (false, (nwW cI (v 1) o), (nwW cI (v 1) o)), (false, (nwW cI (v 2) sn), (nwW cI (v 2) sn)), (false, (rtW cI (v 4) r), (rtW cI (v 4) r)), (false, (nwW cI (v 3) tr), (nwW cI (v 3) tr)), (true, (nwW cI (v 0) n), (nwW cI (v 0) n)), (false, (mdW cI z g), (mdW cI z g))] hP) rfl rfl rfl hl.1 rfl (Nat.le_of_ble_eq_true rfl) dL_law_596 ⟨Nat.le_of_ble_eq_true rfl, Nat.le_of_ble_eq_true rfl⟩ (fun H locs hP hS => ?_)
  refine lv_aload_n hx hb dL_law_599 rfl (lv_at hl 2 rfl) ?_
  refine lv_aload_n hx hb dL_law_600 rfl (lv_at hl 0 rfl) ?_
  refine lv_iload_n hx hb dL_law_601 rfl (lv_at hl 3 rfl) ?_
  refine lv_iconst (v := (1 : Int32)) hx hb dL_law_602 kc_iconst_1 ?_
  refine lv_iadd hx hb dL_law_603 ?_
  rw [ei1]
  refine va_sld hx hb hX hbl hbA hS hin1 dL_law_604 ?_
  rw [ec1, ea1]
  refine lv_aload_n hx hb dL_law_605 rfl (lv_at hl 0 rfl) ?_
  refine lv_iload_n hx hb dL_law_606 rfl (lv_at hl 3 rfl) ?_
  refine lv_iconst (v := (2 : Int32)) hx hb dL_law_607 kc_iconst_2 ?_
  refine lv_iadd hx hb dL_law_608 ?_
  rw [ei2]
  refine va_sld hx hb hX hbl hbA hS hin2 dL_law_609 ?_
  rw [ec2, ea2]
  refine cQi (As := [.int a1, .int a2]) (rest := [.int r0]) (q0 := 115) (ci := 6) S (c_X6_onFirstLink l D cI cN z _ g a1 a2 r0 h6) (cwV 2 hts gL_law_X6_onFirstLink rfl rfl rfl (by decide +kernel) ⟨Nat.le_of_ble_eq_true rfl, Nat.le_of_ble_eq_true rfl⟩) hK hP hS hA (P_sel [(false, (cxW a (v 0 0) (v 1 0) (v 2 0) (v 3 0) (v 4 0) (v 5 0) (v 6 0) (kx.1 7)), (cxW a (v 0 0) (v 1 0) (v 2 0) (v 3 0) (v 4 0) (v 5 0) (v 6 0) (kx.1 7))), (false, (hiW cI cN (v 5) w hi), (hiW cI cN (v 5) w hi)), (false, (txW cI (v 6) x), (txW cI (v 6) x)), (false, (nwW cI (v 1) o), (nwW cI (v 1) o)), (false, (nwW cI (v 2) sn), (nwW cI (v 2) sn)), (false, (rtW cI (v 4) r), (rtW cI (v 4) r)), (false, (nwW cI (v 3) tr), (nwW cI (v 3) tr)), (false, (nwW cI (v 0) n), (nwW cI (v 0) n)), (true, (mdW cI z g), (mdW cI z g))] hP) rfl rfl rfl hl.1 rfl (Nat.le_of_ble_eq_true rfl) dL_law_610 ⟨Nat.le_of_ble_eq_true rfl, Nat.le_of_ble_eq_true rfl⟩ (fun H locs hP hS => ?_)
  refine lv_icmp_eq (tgt := 924) hx hb dL_law_613 (by decide) (fun _ => ?_) (fun cne => absurd rfl cne)
  exact kk H locs ls hP hD hS hl
set_option maxRecDepth 100000 in
set_option maxHeartbeats 4000000 in
theorem lc_20 {p : Program} {l : Launch} {e : Env} {s : State} {m : MethodId} {below : List Frame} {meth : Method} {c : Code} {Q : State → Prop} {D : va_G} {cI cN : ClassId} {A : Nat → Prop} {b L : Nat} {xs : Nat → Int32} {a : Nat} {v w : Nat → Nat → Nat} {z : Nat → Nat} (S : CallFix p m c cL_law 4 s #[Value.ref b] wsL_law RL) (hK : KN D cI cN s) (hA : ∀ q : Nat, s.heap.size ≤ q → A q) (hX : va_X b L xs s s.heap) (hbl : b < s.heap.size) (hbA : ¬ A b) {i : Nat} (hi4 : i + 4 ≤ L) (hL : L ≤ 2048) {kx : OS} {hi : HS} {x o sn r tr n g : OS} {r0 : Int32} {a1 a2 : Int32} (ea1 : xs (i + 1) = a1) (ea2 : xs (i + 2) = a2) (h5 : fX5_onLastLink kx n a1 a2 = r0) (h6 : fX6_onLastLink g a1 a2 = some r0) (H : Heap) (locs : List Loc) (ls : Array Slot) (hP : va_P D vwCl ((cxW a (v 0 0) (v 1 0) (v 2 0) (v 3 0) (v 4 0) (v 5 0) (v 6 0) (kx.1 7)) ++ ((hiW cI cN (v 5) w hi) ++ ((txW cI (v 6) x) ++ ((nwW cI (v 1) o) ++ ((nwW cI (v 2) sn) ++ ((rtW cI (v 4) r) ++ ((nwW cI (v 3) tr) ++ ((nwW cI (v 0) n) ++ (mdW cI z g))))))))) H) (hD : va_D A ((cxW a (v 0 0) (v 1 0) (v 2 0) (v 3 0) (v 4 0) (v 5 0) (v 6 0) (kx.1 7)) ++ ((hiW cI cN (v 5) w hi) ++ ((txW cI (v 6) x) ++ ((nwW cI (v 1) o) ++ ((nwW cI (v 2) sn) ++ ((rtW cI (v 4) r) ++ ((nwW cI (v 3) tr) ++ ((nwW cI (v 0) n) ++ (mdW cI z g)))))))))) (hS : va_S A s.heap H locs) (hl : lv_has ls 4 [(0, .ref b), (1, .ref a), (2, .ref (z 0)), (3, .int (nI i))]) (kk : ∀ (H : Heap) (locs : List Loc) (ls : Array Slot), va_P D vwCl ((cxW a (v 0 0) (v 1 0) (v 2 0) (v 3 0) (v 4 0) (v 5 0) (v 6 0) (kx.1 7)) ++ ((hiW cI cN (v 5) w hi) ++ ((txW cI (v 6) x) ++ ((nwW cI (v 1) o) ++ ((nwW cI (v 2) sn) ++ ((rtW cI (v 4) r) ++ ((nwW cI (v 3) tr) ++ ((nwW cI (v 0) n) ++ (mdW cI z g))))))))) H → va_D A ((cxW a (v 0 0) (v 1 0) (v 2 0) (v 3 0) (v 4 0) (v 5 0) (v 6 0) (kx.1 7)) ++ ((hiW cI cN (v 5) w hi) ++ ((txW cI (v 6) x) ++ ((nwW cI (v 1) o) ++ ((nwW cI (v 2) sn) ++ ((rtW cI (v 4) r) ++ ((nwW cI (v 3) tr) ++ ((nwW cI (v 0) n) ++ (mdW cI z g))))))))) → va_S A s.heap H locs → lv_has ls 4 [(0, .ref b), (1, .ref a), (2, .ref (z 0)), (3, .int (nI i))] → W p l e room_1 s m #[Value.ref b] below meth c H locs 120 4135 Q (F0 m 924 ls [])) : W p l e room_1 s m #[Value.ref b] below meth c H locs 120 4135 Q (F0 m 618 ls []) := by
  obtain ⟨hx, hb, hml, hown, hts⟩ := id S
  have ei1 : nI i + (1 : Int32) = nI (i + 1) := by rw [show (1 : Int32) = nI 1 from rfl, nI_add]
  have hin1 : vp_in (nI (i + 1)) L := vp_in_nI (by omega) (by omega)
  have ec1 : (nI (i + 1)).toNatClampNeg = i + 1 := nI_clamp (by omega)
  have ei2 : nI i + (2 : Int32) = nI (i + 2) := by rw [show (2 : Int32) = nI 2 from rfl, nI_add]
  have hin2 : vp_in (nI (i + 2)) L := vp_in_nI (by omega) (by omega)
  have ec2 : (nI (i + 2)).toNatClampNeg = i + 2 := nI_clamp (by omega)
  have ei3 : nI i + (3 : Int32) = nI (i + 3) := by rw [show (3 : Int32) = nI 3 from rfl, nI_add]
  have hin3 : vp_in (nI (i + 3)) L := vp_in_nI (by omega) (by omega)
  have ec3 : (nI (i + 3)).toNatClampNeg = i + 3 := nI_clamp (by omega)
  refine lv_aload_n hx hb dL_law_618 rfl (lv_at hl 1 rfl) ?_
  refine lv_aload_n hx hb dL_law_619 rfl (lv_at hl 0 rfl) ?_
  refine lv_iload_n hx hb dL_law_620 rfl (lv_at hl 3 rfl) ?_
  refine lv_iconst (v := (1 : Int32)) hx hb dL_law_621 kc_iconst_1 ?_
  refine lv_iadd hx hb dL_law_622 ?_
  rw [ei1]
  refine va_sld hx hb hX hbl hbA hS hin1 dL_law_623 ?_
  rw [ec1, ea1]
  refine lv_aload_n hx hb dL_law_624 rfl (lv_at hl 0 rfl) ?_
  refine lv_iload_n hx hb dL_law_625 rfl (lv_at hl 3 rfl) ?_
  refine lv_iconst (v := (2 : Int32)) hx hb dL_law_626 kc_iconst_2 ?_
  refine lv_iadd hx hb dL_law_627 ?_
  rw [ei2]
  refine va_sld hx hb hX hbl hbA hS hin2 dL_law_628 ?_
  rw [ec2, ea2]
  refine cQi (As := [.int a1, .int a2]) (rest := []) (q0 := 0) (ci := 5) S (c_X5_onLastLink l D cI cN a (v 1 0) (v 2 0) (v 3 0) (v 4 0) (v 5 0) (v 6 0) (v 0) _ kx n a1 a2 r0 h5) (cwV 2 hts gL_law_X5_onLastLink rfl rfl rfl (by decide +kernel) ⟨Nat.le_of_ble_eq_true rfl, Nat.le_of_ble_eq_true rfl⟩) hK hP hS hA (P_sel [(true, (cxW a (v 0 0) (v 1 0) (v 2 0) (v 3 0) (v 4 0) (v 5 0) (v 6 0) (kx.1 7)), (cxW a (v 0 0) (v 1 0) (v 2 0) (v 3 0) (v 4 0) (v 5 0) (v 6 0) (kx.1 7))), (false, (hiW cI cN (v 5) w hi), (hiW cI cN (v 5) w hi)), (false, (txW cI (v 6) x), (txW cI (v 6) x)), (false, (nwW cI (v 1) o), (nwW cI (v 1) o)), (false, (nwW cI (v 2) sn), (nwW cI (v 2) sn)), (false, (rtW cI (v 4) r), (rtW cI (v 4) r)), (false, (nwW cI (v 3) tr), (nwW cI (v 3) tr)), (true, (nwW cI (v 0) n), (nwW cI (v 0) n)), (false, (mdW cI z g), (mdW cI z g))] hP) rfl rfl rfl hl.1 rfl (Nat.le_of_ble_eq_true rfl) dL_law_629 ⟨Nat.le_of_ble_eq_true rfl, Nat.le_of_ble_eq_true rfl⟩ (fun H locs hP hS => ?_)
  refine lv_aload_n hx hb dL_law_632 rfl (lv_at hl 2 rfl) ?_
  refine lv_aload_n hx hb dL_law_633 rfl (lv_at hl 0 rfl) ?_
  refine lv_iload_n hx hb dL_law_634 rfl (lv_at hl 3 rfl) ?_
  refine lv_iconst (v := (1 : Int32)) hx hb dL_law_635 kc_iconst_1 ?_
  refine lv_iadd hx hb dL_law_636 ?_
  rw [ei1]
  refine va_sld hx hb hX hbl hbA hS hin1 dL_law_637 ?_
  rw [ec1, ea1]
  refine lv_aload_n hx hb dL_law_638 rfl (lv_at hl 0 rfl) ?_
  refine lv_iload_n hx hb dL_law_639 rfl (lv_at hl 3 rfl) ?_
  refine lv_iconst (v := (2 : Int32)) hx hb dL_law_640 kc_iconst_2 ?_
  refine lv_iadd hx hb dL_law_641 ?_
  rw [ei2]
  refine va_sld hx hb hX hbl hbA hS hin2 dL_law_642 ?_
  rw [ec2, ea2]
  refine cQi (As := [.int a1, .int a2]) (rest := [.int r0]) (q0 := 115) (ci := 6) S (c_X6_onLastLink l D cI cN z _ g a1 a2 r0 h6) (cwV 2 hts gL_law_X6_onLastLink rfl rfl rfl (by decide +kernel) ⟨Nat.le_of_ble_eq_true rfl, Nat.le_of_ble_eq_true rfl⟩) hK hP hS hA (P_sel [(false, (cxW a (v 0 0) (v 1 0) (v 2 0) (v 3 0) (v 4 0) (v 5 0) (v 6 0) (kx.1 7)), (cxW a (v 0 0) (v 1 0) (v 2 0) (v 3 0) (v 4 0) (v 5 0) (v 6 0) (kx.1 7))), (false, (hiW cI cN (v 5) w hi), (hiW cI cN (v 5) w hi)), (false, (txW cI (v 6) x), (txW cI (v 6) x)), (false, (nwW cI (v 1) o), (nwW cI (v 1) o)), (false, (nwW cI (v 2) sn), (nwW cI (v 2) sn)), (false, (rtW cI (v 4) r), (rtW cI (v 4) r)), (false, (nwW cI (v 3) tr), (nwW cI (v 3) tr)), (false, (nwW cI (v 0) n), (nwW cI (v 0) n)), (true, (mdW cI z g), (mdW cI z g))] hP) rfl rfl rfl hl.1 rfl (Nat.le_of_ble_eq_true rfl) dL_law_643 ⟨Nat.le_of_ble_eq_true rfl, Nat.le_of_ble_eq_true rfl⟩ (fun H locs hP hS => ?_)
  refine lv_icmp_eq (tgt := 924) hx hb dL_law_646 (by decide) (fun _ => ?_) (fun cne => absurd rfl cne)
  exact kk H locs ls hP hD hS hl
set_option maxRecDepth 100000 in
set_option maxHeartbeats 4000000 in
theorem lc_21 {p : Program} {l : Launch} {e : Env} {s : State} {m : MethodId} {below : List Frame} {meth : Method} {c : Code} {Q : State → Prop} {D : va_G} {cI cN : ClassId} {A : Nat → Prop} {b L : Nat} {xs : Nat → Int32} {a : Nat} {v w : Nat → Nat → Nat} {z : Nat → Nat} (S : CallFix p m c cL_law 4 s #[Value.ref b] wsL_law RL) (hK : KN D cI cN s) (hA : ∀ q : Nat, s.heap.size ≤ q → A q) (hX : va_X b L xs s s.heap) (hbl : b < s.heap.size) (hbA : ¬ A b) {i : Nat} (hi4 : i + 4 ≤ L) (hL : L ≤ 2048) {kx : OS} {hi : HS} {x o sn r tr n g : OS} {r0 : Int32} {a1 : Int32} (ea1 : xs (i + 1) = a1) (h5 : fX5_load kx n a1 = some r0) (h6 : fX6_load g a1 = some r0) (H : Heap) (locs : List Loc) (ls : Array Slot) (hP : va_P D vwCl ((cxW a (v 0 0) (v 1 0) (v 2 0) (v 3 0) (v 4 0) (v 5 0) (v 6 0) (kx.1 7)) ++ ((hiW cI cN (v 5) w hi) ++ ((txW cI (v 6) x) ++ ((nwW cI (v 1) o) ++ ((nwW cI (v 2) sn) ++ ((rtW cI (v 4) r) ++ ((nwW cI (v 3) tr) ++ ((nwW cI (v 0) n) ++ (mdW cI z g))))))))) H) (hD : va_D A ((cxW a (v 0 0) (v 1 0) (v 2 0) (v 3 0) (v 4 0) (v 5 0) (v 6 0) (kx.1 7)) ++ ((hiW cI cN (v 5) w hi) ++ ((txW cI (v 6) x) ++ ((nwW cI (v 1) o) ++ ((nwW cI (v 2) sn) ++ ((rtW cI (v 4) r) ++ ((nwW cI (v 3) tr) ++ ((nwW cI (v 0) n) ++ (mdW cI z g)))))))))) (hS : va_S A s.heap H locs) (hl : lv_has ls 4 [(0, .ref b), (1, .ref a), (2, .ref (z 0)), (3, .int (nI i))]) (kk : ∀ (H : Heap) (locs : List Loc) (ls : Array Slot), va_P D vwCl ((cxW a (v 0 0) (v 1 0) (v 2 0) (v 3 0) (v 4 0) (v 5 0) (v 6 0) (kx.1 7)) ++ ((hiW cI cN (v 5) w hi) ++ ((txW cI (v 6) x) ++ ((nwW cI (v 1) o) ++ ((nwW cI (v 2) sn) ++ ((rtW cI (v 4) r) ++ ((nwW cI (v 3) tr) ++ ((nwW cI (v 0) n) ++ (mdW cI z g))))))))) H → va_D A ((cxW a (v 0 0) (v 1 0) (v 2 0) (v 3 0) (v 4 0) (v 5 0) (v 6 0) (kx.1 7)) ++ ((hiW cI cN (v 5) w hi) ++ ((txW cI (v 6) x) ++ ((nwW cI (v 1) o) ++ ((nwW cI (v 2) sn) ++ ((rtW cI (v 4) r) ++ ((nwW cI (v 3) tr) ++ ((nwW cI (v 0) n) ++ (mdW cI z g))))))))) → va_S A s.heap H locs → lv_has ls 4 [(0, .ref b), (1, .ref a), (2, .ref (z 0)), (3, .int (nI i))] → W p l e room_1 s m #[Value.ref b] below meth c H locs 120 4135 Q (F0 m 924 ls [])) : W p l e room_1 s m #[Value.ref b] below meth c H locs 120 4135 Q (F0 m 651 ls []) := by
  obtain ⟨hx, hb, hml, hown, hts⟩ := id S
  have ei1 : nI i + (1 : Int32) = nI (i + 1) := by rw [show (1 : Int32) = nI 1 from rfl, nI_add]
  have hin1 : vp_in (nI (i + 1)) L := vp_in_nI (by omega) (by omega)
  have ec1 : (nI (i + 1)).toNatClampNeg = i + 1 := nI_clamp (by omega)
  have ei2 : nI i + (2 : Int32) = nI (i + 2) := by rw [show (2 : Int32) = nI 2 from rfl, nI_add]
  have hin2 : vp_in (nI (i + 2)) L := vp_in_nI (by omega) (by omega)
  have ec2 : (nI (i + 2)).toNatClampNeg = i + 2 := nI_clamp (by omega)
  have ei3 : nI i + (3 : Int32) = nI (i + 3) := by rw [show (3 : Int32) = nI 3 from rfl, nI_add]
  have hin3 : vp_in (nI (i + 3)) L := vp_in_nI (by omega) (by omega)
  have ec3 : (nI (i + 3)).toNatClampNeg = i + 3 := nI_clamp (by omega)
  refine lv_aload_n hx hb dL_law_651 rfl (lv_at hl 1 rfl) ?_
  refine lv_aload_n hx hb dL_law_652 rfl (lv_at hl 0 rfl) ?_
  refine lv_iload_n hx hb dL_law_653 rfl (lv_at hl 3 rfl) ?_
  refine lv_iconst (v := (1 : Int32)) hx hb dL_law_654 kc_iconst_1 ?_
  refine lv_iadd hx hb dL_law_655 ?_
  rw [ei1]
  refine va_sld hx hb hX hbl hbA hS hin1 dL_law_656 ?_
  rw [ec1, ea1]
  refine cQi (As := [.int a1]) (rest := []) (q0 := 0) (ci := 5) S (c_X5_load l D cI cN a (v 1 0) (v 2 0) (v 3 0) (v 4 0) (v 5 0) (v 6 0) (v 0) _ kx n a1 r0 h5) (cwV 1 hts gL_law_X5_load rfl rfl rfl (by decide +kernel) ⟨Nat.le_of_ble_eq_true rfl, Nat.le_of_ble_eq_true rfl⟩) hK hP hS hA (P_sel [(true, (cxW a (v 0 0) (v 1 0) (v 2 0) (v 3 0) (v 4 0) (v 5 0) (v 6 0) (kx.1 7)), (cxW a (v 0 0) (v 1 0) (v 2 0) (v 3 0) (v 4 0) (v 5 0) (v 6 0) (kx.1 7))), (false, (hiW cI cN (v 5) w hi), (hiW cI cN (v 5) w hi)), (false, (txW cI (v 6) x), (txW cI (v 6) x)), (false, (nwW cI (v 1) o), (nwW cI (v 1) o)), (false, (nwW cI (v 2) sn), (nwW cI (v 2) sn)), (false, (rtW cI (v 4) r), (rtW cI (v 4) r)), (false, (nwW cI (v 3) tr), (nwW cI (v 3) tr)), (true, (nwW cI (v 0) n), (nwW cI (v 0) n)), (false, (mdW cI z g), (mdW cI z g))] hP) rfl rfl rfl hl.1 rfl (Nat.le_of_ble_eq_true rfl) dL_law_657 ⟨Nat.le_of_ble_eq_true rfl, Nat.le_of_ble_eq_true rfl⟩ (fun H locs hP hS => ?_)
  refine lv_aload_n hx hb dL_law_660 rfl (lv_at hl 2 rfl) ?_
  refine lv_aload_n hx hb dL_law_661 rfl (lv_at hl 0 rfl) ?_
  refine lv_iload_n hx hb dL_law_662 rfl (lv_at hl 3 rfl) ?_
  refine lv_iconst (v := (1 : Int32)) hx hb dL_law_663 kc_iconst_1 ?_
  refine lv_iadd hx hb dL_law_664 ?_
  rw [ei1]
  refine va_sld hx hb hX hbl hbA hS hin1 dL_law_665 ?_
  rw [ec1, ea1]
  refine cQi (As := [.int a1]) (rest := [.int r0]) (q0 := 115) (ci := 6) S (c_X6_load l D cI cN z _ g a1 r0 h6) (cwV 1 hts gL_law_X6_load rfl rfl rfl (by decide +kernel) ⟨Nat.le_of_ble_eq_true rfl, Nat.le_of_ble_eq_true rfl⟩) hK hP hS hA (P_sel [(false, (cxW a (v 0 0) (v 1 0) (v 2 0) (v 3 0) (v 4 0) (v 5 0) (v 6 0) (kx.1 7)), (cxW a (v 0 0) (v 1 0) (v 2 0) (v 3 0) (v 4 0) (v 5 0) (v 6 0) (kx.1 7))), (false, (hiW cI cN (v 5) w hi), (hiW cI cN (v 5) w hi)), (false, (txW cI (v 6) x), (txW cI (v 6) x)), (false, (nwW cI (v 1) o), (nwW cI (v 1) o)), (false, (nwW cI (v 2) sn), (nwW cI (v 2) sn)), (false, (rtW cI (v 4) r), (rtW cI (v 4) r)), (false, (nwW cI (v 3) tr), (nwW cI (v 3) tr)), (false, (nwW cI (v 0) n), (nwW cI (v 0) n)), (true, (mdW cI z g), (mdW cI z g))] hP) rfl rfl rfl hl.1 rfl (Nat.le_of_ble_eq_true rfl) dL_law_666 ⟨Nat.le_of_ble_eq_true rfl, Nat.le_of_ble_eq_true rfl⟩ (fun H locs hP hS => ?_)
  refine lv_icmp_eq (tgt := 924) hx hb dL_law_669 (by decide) (fun _ => ?_) (fun cne => absurd rfl cne)
  exact kk H locs ls hP hD hS hl
set_option maxRecDepth 100000 in
set_option maxHeartbeats 4000000 in
theorem lc_22 {p : Program} {l : Launch} {e : Env} {s : State} {m : MethodId} {below : List Frame} {meth : Method} {c : Code} {Q : State → Prop} {D : va_G} {cI cN : ClassId} {A : Nat → Prop} {b L : Nat} {xs : Nat → Int32} {a : Nat} {v w : Nat → Nat → Nat} {z : Nat → Nat} (S : CallFix p m c cL_law 4 s #[Value.ref b] wsL_law RL) (hK : KN D cI cN s) (hA : ∀ q : Nat, s.heap.size ≤ q → A q) (hX : va_X b L xs s s.heap) (hbl : b < s.heap.size) (hbA : ¬ A b) {i : Nat} (hi4 : i + 4 ≤ L) (hL : L ≤ 2048) {kx : OS} {hi : HS} {x o sn r tr n g : OS} {r0 : Int32} {a1 : Int32} (ea1 : xs (i + 1) = a1) (h5 : fX5_freeForFirst kx n a1 = some r0) (h6 : fX6_freeForFirst g a1 = some r0) (H : Heap) (locs : List Loc) (ls : Array Slot) (hP : va_P D vwCl ((cxW a (v 0 0) (v 1 0) (v 2 0) (v 3 0) (v 4 0) (v 5 0) (v 6 0) (kx.1 7)) ++ ((hiW cI cN (v 5) w hi) ++ ((txW cI (v 6) x) ++ ((nwW cI (v 1) o) ++ ((nwW cI (v 2) sn) ++ ((rtW cI (v 4) r) ++ ((nwW cI (v 3) tr) ++ ((nwW cI (v 0) n) ++ (mdW cI z g))))))))) H) (hD : va_D A ((cxW a (v 0 0) (v 1 0) (v 2 0) (v 3 0) (v 4 0) (v 5 0) (v 6 0) (kx.1 7)) ++ ((hiW cI cN (v 5) w hi) ++ ((txW cI (v 6) x) ++ ((nwW cI (v 1) o) ++ ((nwW cI (v 2) sn) ++ ((rtW cI (v 4) r) ++ ((nwW cI (v 3) tr) ++ ((nwW cI (v 0) n) ++ (mdW cI z g)))))))))) (hS : va_S A s.heap H locs) (hl : lv_has ls 4 [(0, .ref b), (1, .ref a), (2, .ref (z 0)), (3, .int (nI i))]) (kk : ∀ (H : Heap) (locs : List Loc) (ls : Array Slot), va_P D vwCl ((cxW a (v 0 0) (v 1 0) (v 2 0) (v 3 0) (v 4 0) (v 5 0) (v 6 0) (kx.1 7)) ++ ((hiW cI cN (v 5) w hi) ++ ((txW cI (v 6) x) ++ ((nwW cI (v 1) o) ++ ((nwW cI (v 2) sn) ++ ((rtW cI (v 4) r) ++ ((nwW cI (v 3) tr) ++ ((nwW cI (v 0) n) ++ (mdW cI z g))))))))) H → va_D A ((cxW a (v 0 0) (v 1 0) (v 2 0) (v 3 0) (v 4 0) (v 5 0) (v 6 0) (kx.1 7)) ++ ((hiW cI cN (v 5) w hi) ++ ((txW cI (v 6) x) ++ ((nwW cI (v 1) o) ++ ((nwW cI (v 2) sn) ++ ((rtW cI (v 4) r) ++ ((nwW cI (v 3) tr) ++ ((nwW cI (v 0) n) ++ (mdW cI z g))))))))) → va_S A s.heap H locs → lv_has ls 4 [(0, .ref b), (1, .ref a), (2, .ref (z 0)), (3, .int (nI i))] → W p l e room_1 s m #[Value.ref b] below meth c H locs 120 4135 Q (F0 m 924 ls [])) : W p l e room_1 s m #[Value.ref b] below meth c H locs 120 4135 Q (F0 m 674 ls []) := by
  obtain ⟨hx, hb, hml, hown, hts⟩ := id S
  have ei1 : nI i + (1 : Int32) = nI (i + 1) := by rw [show (1 : Int32) = nI 1 from rfl, nI_add]
  have hin1 : vp_in (nI (i + 1)) L := vp_in_nI (by omega) (by omega)
  have ec1 : (nI (i + 1)).toNatClampNeg = i + 1 := nI_clamp (by omega)
  have ei2 : nI i + (2 : Int32) = nI (i + 2) := by rw [show (2 : Int32) = nI 2 from rfl, nI_add]
  have hin2 : vp_in (nI (i + 2)) L := vp_in_nI (by omega) (by omega)
  have ec2 : (nI (i + 2)).toNatClampNeg = i + 2 := nI_clamp (by omega)
  have ei3 : nI i + (3 : Int32) = nI (i + 3) := by rw [show (3 : Int32) = nI 3 from rfl, nI_add]
  have hin3 : vp_in (nI (i + 3)) L := vp_in_nI (by omega) (by omega)
  have ec3 : (nI (i + 3)).toNatClampNeg = i + 3 := nI_clamp (by omega)
  refine lv_aload_n hx hb dL_law_674 rfl (lv_at hl 1 rfl) ?_
  refine lv_aload_n hx hb dL_law_675 rfl (lv_at hl 0 rfl) ?_
  refine lv_iload_n hx hb dL_law_676 rfl (lv_at hl 3 rfl) ?_
  refine lv_iconst (v := (1 : Int32)) hx hb dL_law_677 kc_iconst_1 ?_
  refine lv_iadd hx hb dL_law_678 ?_
  rw [ei1]
  refine va_sld hx hb hX hbl hbA hS hin1 dL_law_679 ?_
  rw [ec1, ea1]
  refine cQi (As := [.int a1]) (rest := []) (q0 := 0) (ci := 5) S (c_X5_freeForFirst l D cI cN a (v 1 0) (v 2 0) (v 3 0) (v 4 0) (v 5 0) (v 6 0) (v 0) _ kx n a1 r0 h5) (cwV 1 hts gL_law_X5_freeForFirst rfl rfl rfl (by decide +kernel) ⟨Nat.le_of_ble_eq_true rfl, Nat.le_of_ble_eq_true rfl⟩) hK hP hS hA (P_sel [(true, (cxW a (v 0 0) (v 1 0) (v 2 0) (v 3 0) (v 4 0) (v 5 0) (v 6 0) (kx.1 7)), (cxW a (v 0 0) (v 1 0) (v 2 0) (v 3 0) (v 4 0) (v 5 0) (v 6 0) (kx.1 7))), (false, (hiW cI cN (v 5) w hi), (hiW cI cN (v 5) w hi)), (false, (txW cI (v 6) x), (txW cI (v 6) x)), (false, (nwW cI (v 1) o), (nwW cI (v 1) o)), (false, (nwW cI (v 2) sn), (nwW cI (v 2) sn)), (false, (rtW cI (v 4) r), (rtW cI (v 4) r)), (false, (nwW cI (v 3) tr), (nwW cI (v 3) tr)), (true, (nwW cI (v 0) n), (nwW cI (v 0) n)), (false, (mdW cI z g), (mdW cI z g))] hP) rfl rfl rfl hl.1 rfl (Nat.le_of_ble_eq_true rfl) dL_law_680 ⟨Nat.le_of_ble_eq_true rfl, Nat.le_of_ble_eq_true rfl⟩ (fun H locs hP hS => ?_)
  refine lv_aload_n hx hb dL_law_683 rfl (lv_at hl 2 rfl) ?_
  refine lv_aload_n hx hb dL_law_684 rfl (lv_at hl 0 rfl) ?_
  refine lv_iload_n hx hb dL_law_685 rfl (lv_at hl 3 rfl) ?_
  refine lv_iconst (v := (1 : Int32)) hx hb dL_law_686 kc_iconst_1 ?_
  refine lv_iadd hx hb dL_law_687 ?_
  rw [ei1]
  refine va_sld hx hb hX hbl hbA hS hin1 dL_law_688 ?_
  rw [ec1, ea1]
  refine cQi (As := [.int a1]) (rest := [.int r0]) (q0 := 115) (ci := 6) S (c_X6_freeForFirst l D cI cN z _ g a1 r0 h6) (cwV 1 hts gL_law_X6_freeForFirst rfl rfl rfl (by decide +kernel) ⟨Nat.le_of_ble_eq_true rfl, Nat.le_of_ble_eq_true rfl⟩) hK hP hS hA (P_sel [(false, (cxW a (v 0 0) (v 1 0) (v 2 0) (v 3 0) (v 4 0) (v 5 0) (v 6 0) (kx.1 7)), (cxW a (v 0 0) (v 1 0) (v 2 0) (v 3 0) (v 4 0) (v 5 0) (v 6 0) (kx.1 7))), (false, (hiW cI cN (v 5) w hi), (hiW cI cN (v 5) w hi)), (false, (txW cI (v 6) x), (txW cI (v 6) x)), (false, (nwW cI (v 1) o), (nwW cI (v 1) o)), (false, (nwW cI (v 2) sn), (nwW cI (v 2) sn)), (false, (rtW cI (v 4) r), (rtW cI (v 4) r)), (false, (nwW cI (v 3) tr), (nwW cI (v 3) tr)), (false, (nwW cI (v 0) n), (nwW cI (v 0) n)), (true, (mdW cI z g), (mdW cI z g))] hP) rfl rfl rfl hl.1 rfl (Nat.le_of_ble_eq_true rfl) dL_law_689 ⟨Nat.le_of_ble_eq_true rfl, Nat.le_of_ble_eq_true rfl⟩ (fun H locs hP hS => ?_)
  refine lv_icmp_eq (tgt := 924) hx hb dL_law_692 (by decide) (fun _ => ?_) (fun cne => absurd rfl cne)
  exact kk H locs ls hP hD hS hl
set_option maxRecDepth 100000 in
set_option maxHeartbeats 4000000 in
theorem lc_23 {p : Program} {l : Launch} {e : Env} {s : State} {m : MethodId} {below : List Frame} {meth : Method} {c : Code} {Q : State → Prop} {D : va_G} {cI cN : ClassId} {A : Nat → Prop} {b L : Nat} {xs : Nat → Int32} {a : Nat} {v w : Nat → Nat → Nat} {z : Nat → Nat} (S : CallFix p m c cL_law 4 s #[Value.ref b] wsL_law RL) (hK : KN D cI cN s) (hA : ∀ q : Nat, s.heap.size ≤ q → A q) (hX : va_X b L xs s s.heap) (hbl : b < s.heap.size) (hbA : ¬ A b) {i : Nat} (hi4 : i + 4 ≤ L) (hL : L ≤ 2048) {kx : OS} {hi : HS} {x o sn r tr n g : OS} {r0 : Int32} {a1 : Int32} (ea1 : xs (i + 1) = a1) (h5 : fX5_freeForLast kx n a1 = some r0) (h6 : fX6_freeForLast g a1 = some r0) (H : Heap) (locs : List Loc) (ls : Array Slot) (hP : va_P D vwCl ((cxW a (v 0 0) (v 1 0) (v 2 0) (v 3 0) (v 4 0) (v 5 0) (v 6 0) (kx.1 7)) ++ ((hiW cI cN (v 5) w hi) ++ ((txW cI (v 6) x) ++ ((nwW cI (v 1) o) ++ ((nwW cI (v 2) sn) ++ ((rtW cI (v 4) r) ++ ((nwW cI (v 3) tr) ++ ((nwW cI (v 0) n) ++ (mdW cI z g))))))))) H) (hD : va_D A ((cxW a (v 0 0) (v 1 0) (v 2 0) (v 3 0) (v 4 0) (v 5 0) (v 6 0) (kx.1 7)) ++ ((hiW cI cN (v 5) w hi) ++ ((txW cI (v 6) x) ++ ((nwW cI (v 1) o) ++ ((nwW cI (v 2) sn) ++ ((rtW cI (v 4) r) ++ ((nwW cI (v 3) tr) ++ ((nwW cI (v 0) n) ++ (mdW cI z g)))))))))) (hS : va_S A s.heap H locs) (hl : lv_has ls 4 [(0, .ref b), (1, .ref a), (2, .ref (z 0)), (3, .int (nI i))]) (kk : ∀ (H : Heap) (locs : List Loc) (ls : Array Slot), va_P D vwCl ((cxW a (v 0 0) (v 1 0) (v 2 0) (v 3 0) (v 4 0) (v 5 0) (v 6 0) (kx.1 7)) ++ ((hiW cI cN (v 5) w hi) ++ ((txW cI (v 6) x) ++ ((nwW cI (v 1) o) ++ ((nwW cI (v 2) sn) ++ ((rtW cI (v 4) r) ++ ((nwW cI (v 3) tr) ++ ((nwW cI (v 0) n) ++ (mdW cI z g))))))))) H → va_D A ((cxW a (v 0 0) (v 1 0) (v 2 0) (v 3 0) (v 4 0) (v 5 0) (v 6 0) (kx.1 7)) ++ ((hiW cI cN (v 5) w hi) ++ ((txW cI (v 6) x) ++ ((nwW cI (v 1) o) ++ ((nwW cI (v 2) sn) ++ ((rtW cI (v 4) r) ++ ((nwW cI (v 3) tr) ++ ((nwW cI (v 0) n) ++ (mdW cI z g))))))))) → va_S A s.heap H locs → lv_has ls 4 [(0, .ref b), (1, .ref a), (2, .ref (z 0)), (3, .int (nI i))] → W p l e room_1 s m #[Value.ref b] below meth c H locs 120 4135 Q (F0 m 924 ls [])) : W p l e room_1 s m #[Value.ref b] below meth c H locs 120 4135 Q (F0 m 697 ls []) := by
  obtain ⟨hx, hb, hml, hown, hts⟩ := id S
  have ei1 : nI i + (1 : Int32) = nI (i + 1) := by rw [show (1 : Int32) = nI 1 from rfl, nI_add]
  have hin1 : vp_in (nI (i + 1)) L := vp_in_nI (by omega) (by omega)
  have ec1 : (nI (i + 1)).toNatClampNeg = i + 1 := nI_clamp (by omega)
  have ei2 : nI i + (2 : Int32) = nI (i + 2) := by rw [show (2 : Int32) = nI 2 from rfl, nI_add]
  have hin2 : vp_in (nI (i + 2)) L := vp_in_nI (by omega) (by omega)
  have ec2 : (nI (i + 2)).toNatClampNeg = i + 2 := nI_clamp (by omega)
  have ei3 : nI i + (3 : Int32) = nI (i + 3) := by rw [show (3 : Int32) = nI 3 from rfl, nI_add]
  have hin3 : vp_in (nI (i + 3)) L := vp_in_nI (by omega) (by omega)
  have ec3 : (nI (i + 3)).toNatClampNeg = i + 3 := nI_clamp (by omega)
  refine lv_aload_n hx hb dL_law_697 rfl (lv_at hl 1 rfl) ?_
  refine lv_aload_n hx hb dL_law_698 rfl (lv_at hl 0 rfl) ?_
  refine lv_iload_n hx hb dL_law_699 rfl (lv_at hl 3 rfl) ?_
  refine lv_iconst (v := (1 : Int32)) hx hb dL_law_700 kc_iconst_1 ?_
  refine lv_iadd hx hb dL_law_701 ?_
  rw [ei1]
  refine va_sld hx hb hX hbl hbA hS hin1 dL_law_702 ?_
  rw [ec1, ea1]
  refine cQi (As := [.int a1]) (rest := []) (q0 := 0) (ci := 5) S (c_X5_freeForLast l D cI cN a (v 1 0) (v 2 0) (v 3 0) (v 4 0) (v 5 0) (v 6 0) (v 0) _ kx n a1 r0 h5) (cwV 1 hts gL_law_X5_freeForLast rfl rfl rfl (by decide +kernel) ⟨Nat.le_of_ble_eq_true rfl, Nat.le_of_ble_eq_true rfl⟩) hK hP hS hA (P_sel [(true, (cxW a (v 0 0) (v 1 0) (v 2 0) (v 3 0) (v 4 0) (v 5 0) (v 6 0) (kx.1 7)), (cxW a (v 0 0) (v 1 0) (v 2 0) (v 3 0) (v 4 0) (v 5 0) (v 6 0) (kx.1 7))), (false, (hiW cI cN (v 5) w hi), (hiW cI cN (v 5) w hi)), (false, (txW cI (v 6) x), (txW cI (v 6) x)), (false, (nwW cI (v 1) o), (nwW cI (v 1) o)), (false, (nwW cI (v 2) sn), (nwW cI (v 2) sn)), (false, (rtW cI (v 4) r), (rtW cI (v 4) r)), (false, (nwW cI (v 3) tr), (nwW cI (v 3) tr)), (true, (nwW cI (v 0) n), (nwW cI (v 0) n)), (false, (mdW cI z g), (mdW cI z g))] hP) rfl rfl rfl hl.1 rfl (Nat.le_of_ble_eq_true rfl) dL_law_703 ⟨Nat.le_of_ble_eq_true rfl, Nat.le_of_ble_eq_true rfl⟩ (fun H locs hP hS => ?_)
  refine lv_aload_n hx hb dL_law_706 rfl (lv_at hl 2 rfl) ?_
  refine lv_aload_n hx hb dL_law_707 rfl (lv_at hl 0 rfl) ?_
  refine lv_iload_n hx hb dL_law_708 rfl (lv_at hl 3 rfl) ?_
  refine lv_iconst (v := (1 : Int32)) hx hb dL_law_709 kc_iconst_1 ?_
  refine lv_iadd hx hb dL_law_710 ?_
  rw [ei1]
  refine va_sld hx hb hX hbl hbA hS hin1 dL_law_711 ?_
  rw [ec1, ea1]
  refine cQi (As := [.int a1]) (rest := [.int r0]) (q0 := 115) (ci := 6) S (c_X6_freeForLast l D cI cN z _ g a1 r0 h6) (cwV 1 hts gL_law_X6_freeForLast rfl rfl rfl (by decide +kernel) ⟨Nat.le_of_ble_eq_true rfl, Nat.le_of_ble_eq_true rfl⟩) hK hP hS hA (P_sel [(false, (cxW a (v 0 0) (v 1 0) (v 2 0) (v 3 0) (v 4 0) (v 5 0) (v 6 0) (kx.1 7)), (cxW a (v 0 0) (v 1 0) (v 2 0) (v 3 0) (v 4 0) (v 5 0) (v 6 0) (kx.1 7))), (false, (hiW cI cN (v 5) w hi), (hiW cI cN (v 5) w hi)), (false, (txW cI (v 6) x), (txW cI (v 6) x)), (false, (nwW cI (v 1) o), (nwW cI (v 1) o)), (false, (nwW cI (v 2) sn), (nwW cI (v 2) sn)), (false, (rtW cI (v 4) r), (rtW cI (v 4) r)), (false, (nwW cI (v 3) tr), (nwW cI (v 3) tr)), (false, (nwW cI (v 0) n), (nwW cI (v 0) n)), (true, (mdW cI z g), (mdW cI z g))] hP) rfl rfl rfl hl.1 rfl (Nat.le_of_ble_eq_true rfl) dL_law_712 ⟨Nat.le_of_ble_eq_true rfl, Nat.le_of_ble_eq_true rfl⟩ (fun H locs hP hS => ?_)
  refine lv_icmp_eq (tgt := 924) hx hb dL_law_715 (by decide) (fun _ => ?_) (fun cne => absurd rfl cne)
  exact kk H locs ls hP hD hS hl
set_option maxRecDepth 100000 in
set_option maxHeartbeats 4000000 in
theorem lc_24 {p : Program} {l : Launch} {e : Env} {s : State} {m : MethodId} {below : List Frame} {meth : Method} {c : Code} {Q : State → Prop} {D : va_G} {cI cN : ClassId} {A : Nat → Prop} {b L : Nat} {xs : Nat → Int32} {a : Nat} {v w : Nat → Nat → Nat} {z : Nat → Nat} (S : CallFix p m c cL_law 4 s #[Value.ref b] wsL_law RL) (hK : KN D cI cN s) (hA : ∀ q : Nat, s.heap.size ≤ q → A q) (hX : va_X b L xs s s.heap) (hbl : b < s.heap.size) (hbA : ¬ A b) {i : Nat} (hi4 : i + 4 ≤ L) (hL : L ≤ 2048) {kx : OS} {hi : HS} {x o sn r tr n g : OS} {r0 : Int32} (h5 : fX5_inService kx n = r0) (h6 : fX6_inService g = some r0) (H : Heap) (locs : List Loc) (ls : Array Slot) (hP : va_P D vwCl ((cxW a (v 0 0) (v 1 0) (v 2 0) (v 3 0) (v 4 0) (v 5 0) (v 6 0) (kx.1 7)) ++ ((hiW cI cN (v 5) w hi) ++ ((txW cI (v 6) x) ++ ((nwW cI (v 1) o) ++ ((nwW cI (v 2) sn) ++ ((rtW cI (v 4) r) ++ ((nwW cI (v 3) tr) ++ ((nwW cI (v 0) n) ++ (mdW cI z g))))))))) H) (hD : va_D A ((cxW a (v 0 0) (v 1 0) (v 2 0) (v 3 0) (v 4 0) (v 5 0) (v 6 0) (kx.1 7)) ++ ((hiW cI cN (v 5) w hi) ++ ((txW cI (v 6) x) ++ ((nwW cI (v 1) o) ++ ((nwW cI (v 2) sn) ++ ((rtW cI (v 4) r) ++ ((nwW cI (v 3) tr) ++ ((nwW cI (v 0) n) ++ (mdW cI z g)))))))))) (hS : va_S A s.heap H locs) (hl : lv_has ls 4 [(0, .ref b), (1, .ref a), (2, .ref (z 0)), (3, .int (nI i))]) (kk : ∀ (H : Heap) (locs : List Loc) (ls : Array Slot), va_P D vwCl ((cxW a (v 0 0) (v 1 0) (v 2 0) (v 3 0) (v 4 0) (v 5 0) (v 6 0) (kx.1 7)) ++ ((hiW cI cN (v 5) w hi) ++ ((txW cI (v 6) x) ++ ((nwW cI (v 1) o) ++ ((nwW cI (v 2) sn) ++ ((rtW cI (v 4) r) ++ ((nwW cI (v 3) tr) ++ ((nwW cI (v 0) n) ++ (mdW cI z g))))))))) H → va_D A ((cxW a (v 0 0) (v 1 0) (v 2 0) (v 3 0) (v 4 0) (v 5 0) (v 6 0) (kx.1 7)) ++ ((hiW cI cN (v 5) w hi) ++ ((txW cI (v 6) x) ++ ((nwW cI (v 1) o) ++ ((nwW cI (v 2) sn) ++ ((rtW cI (v 4) r) ++ ((nwW cI (v 3) tr) ++ ((nwW cI (v 0) n) ++ (mdW cI z g))))))))) → va_S A s.heap H locs → lv_has ls 4 [(0, .ref b), (1, .ref a), (2, .ref (z 0)), (3, .int (nI i))] → W p l e room_1 s m #[Value.ref b] below meth c H locs 120 4135 Q (F0 m 924 ls [])) : W p l e room_1 s m #[Value.ref b] below meth c H locs 120 4135 Q (F0 m 720 ls []) := by
  obtain ⟨hx, hb, hml, hown, hts⟩ := id S
  have ei1 : nI i + (1 : Int32) = nI (i + 1) := by rw [show (1 : Int32) = nI 1 from rfl, nI_add]
  have hin1 : vp_in (nI (i + 1)) L := vp_in_nI (by omega) (by omega)
  have ec1 : (nI (i + 1)).toNatClampNeg = i + 1 := nI_clamp (by omega)
  have ei2 : nI i + (2 : Int32) = nI (i + 2) := by rw [show (2 : Int32) = nI 2 from rfl, nI_add]
  have hin2 : vp_in (nI (i + 2)) L := vp_in_nI (by omega) (by omega)
  have ec2 : (nI (i + 2)).toNatClampNeg = i + 2 := nI_clamp (by omega)
  have ei3 : nI i + (3 : Int32) = nI (i + 3) := by rw [show (3 : Int32) = nI 3 from rfl, nI_add]
  have hin3 : vp_in (nI (i + 3)) L := vp_in_nI (by omega) (by omega)
  have ec3 : (nI (i + 3)).toNatClampNeg = i + 3 := nI_clamp (by omega)
  refine lv_aload_n hx hb dL_law_720 rfl (lv_at hl 1 rfl) ?_
  refine cQi (As := []) (rest := []) (q0 := 0) (ci := 5) S (c_X5_inService l D cI cN a (v 1 0) (v 2 0) (v 3 0) (v 4 0) (v 5 0) (v 6 0) (v 0) _ kx n  r0 h5) (cwV 0 hts gL_law_X5_inService rfl rfl rfl (by decide +kernel) ⟨Nat.le_of_ble_eq_true rfl, Nat.le_of_ble_eq_true rfl⟩) hK hP hS hA (P_sel [(true, (cxW a (v 0 0) (v 1 0) (v 2 0) (v 3 0) (v 4 0) (v 5 0) (v 6 0) (kx.1 7)), (cxW a (v 0 0) (v 1 0) (v 2 0) (v 3 0) (v 4 0) (v 5 0) (v 6 0) (kx.1 7))), (false, (hiW cI cN (v 5) w hi), (hiW cI cN (v 5) w hi)), (false, (txW cI (v 6) x), (txW cI (v 6) x)), (false, (nwW cI (v 1) o), (nwW cI (v 1) o)), (false, (nwW cI (v 2) sn), (nwW cI (v 2) sn)), (false, (rtW cI (v 4) r), (rtW cI (v 4) r)), (false, (nwW cI (v 3) tr), (nwW cI (v 3) tr)), (true, (nwW cI (v 0) n), (nwW cI (v 0) n)), (false, (mdW cI z g), (mdW cI z g))] hP) rfl rfl rfl hl.1 rfl (Nat.le_of_ble_eq_true rfl) dL_law_721 ⟨Nat.le_of_ble_eq_true rfl, Nat.le_of_ble_eq_true rfl⟩ (fun H locs hP hS => ?_)
  refine lv_aload_n hx hb dL_law_724 rfl (lv_at hl 2 rfl) ?_
  refine cQi (As := []) (rest := [.int r0]) (q0 := 115) (ci := 6) S (c_X6_inService l D cI cN z _ g  r0 h6) (cwV 0 hts gL_law_X6_inService rfl rfl rfl (by decide +kernel) ⟨Nat.le_of_ble_eq_true rfl, Nat.le_of_ble_eq_true rfl⟩) hK hP hS hA (P_sel [(false, (cxW a (v 0 0) (v 1 0) (v 2 0) (v 3 0) (v 4 0) (v 5 0) (v 6 0) (kx.1 7)), (cxW a (v 0 0) (v 1 0) (v 2 0) (v 3 0) (v 4 0) (v 5 0) (v 6 0) (kx.1 7))), (false, (hiW cI cN (v 5) w hi), (hiW cI cN (v 5) w hi)), (false, (txW cI (v 6) x), (txW cI (v 6) x)), (false, (nwW cI (v 1) o), (nwW cI (v 1) o)), (false, (nwW cI (v 2) sn), (nwW cI (v 2) sn)), (false, (rtW cI (v 4) r), (rtW cI (v 4) r)), (false, (nwW cI (v 3) tr), (nwW cI (v 3) tr)), (false, (nwW cI (v 0) n), (nwW cI (v 0) n)), (true, (mdW cI z g), (mdW cI z g))] hP) rfl rfl rfl hl.1 rfl (Nat.le_of_ble_eq_true rfl) dL_law_725 ⟨Nat.le_of_ble_eq_true rfl, Nat.le_of_ble_eq_true rfl⟩ (fun H locs hP hS => ?_)
  refine lv_icmp_eq (tgt := 924) hx hb dL_law_728 (by decide) (fun _ => ?_) (fun cne => absurd rfl cne)
  exact kk H locs ls hP hD hS hl
set_option maxRecDepth 100000 in
set_option maxHeartbeats 4000000 in
theorem lc_25 {p : Program} {l : Launch} {e : Env} {s : State} {m : MethodId} {below : List Frame} {meth : Method} {c : Code} {Q : State → Prop} {D : va_G} {cI cN : ClassId} {A : Nat → Prop} {b L : Nat} {xs : Nat → Int32} {a : Nat} {v w : Nat → Nat → Nat} {z : Nat → Nat} (S : CallFix p m c cL_law 4 s #[Value.ref b] wsL_law RL) (hK : KN D cI cN s) (hA : ∀ q : Nat, s.heap.size ≤ q → A q) (hX : va_X b L xs s s.heap) (hbl : b < s.heap.size) (hbA : ¬ A b) {i : Nat} (hi4 : i + 4 ≤ L) (hL : L ≤ 2048) {kx : OS} {hi : HS} {x o sn r tr n g : OS} {r0 : Int32} {a1 : Int32} (ea1 : xs (i + 1) = a1) (h5 : fX5_total kx hi x n a1 = some r0) (h6 : fX6_total g a1 = some r0) (H : Heap) (locs : List Loc) (ls : Array Slot) (hP : va_P D vwCl ((cxW a (v 0 0) (v 1 0) (v 2 0) (v 3 0) (v 4 0) (v 5 0) (v 6 0) (kx.1 7)) ++ ((hiW cI cN (v 5) w hi) ++ ((txW cI (v 6) x) ++ ((nwW cI (v 1) o) ++ ((nwW cI (v 2) sn) ++ ((rtW cI (v 4) r) ++ ((nwW cI (v 3) tr) ++ ((nwW cI (v 0) n) ++ (mdW cI z g))))))))) H) (hD : va_D A ((cxW a (v 0 0) (v 1 0) (v 2 0) (v 3 0) (v 4 0) (v 5 0) (v 6 0) (kx.1 7)) ++ ((hiW cI cN (v 5) w hi) ++ ((txW cI (v 6) x) ++ ((nwW cI (v 1) o) ++ ((nwW cI (v 2) sn) ++ ((rtW cI (v 4) r) ++ ((nwW cI (v 3) tr) ++ ((nwW cI (v 0) n) ++ (mdW cI z g)))))))))) (hS : va_S A s.heap H locs) (hl : lv_has ls 4 [(0, .ref b), (1, .ref a), (2, .ref (z 0)), (3, .int (nI i))]) (kk : ∀ (H : Heap) (locs : List Loc) (ls : Array Slot), va_P D vwCl ((cxW a (v 0 0) (v 1 0) (v 2 0) (v 3 0) (v 4 0) (v 5 0) (v 6 0) (kx.1 7)) ++ ((hiW cI cN (v 5) w hi) ++ ((txW cI (v 6) x) ++ ((nwW cI (v 1) o) ++ ((nwW cI (v 2) sn) ++ ((rtW cI (v 4) r) ++ ((nwW cI (v 3) tr) ++ ((nwW cI (v 0) n) ++ (mdW cI z g))))))))) H → va_D A ((cxW a (v 0 0) (v 1 0) (v 2 0) (v 3 0) (v 4 0) (v 5 0) (v 6 0) (kx.1 7)) ++ ((hiW cI cN (v 5) w hi) ++ ((txW cI (v 6) x) ++ ((nwW cI (v 1) o) ++ ((nwW cI (v 2) sn) ++ ((rtW cI (v 4) r) ++ ((nwW cI (v 3) tr) ++ ((nwW cI (v 0) n) ++ (mdW cI z g))))))))) → va_S A s.heap H locs → lv_has ls 4 [(0, .ref b), (1, .ref a), (2, .ref (z 0)), (3, .int (nI i))] → W p l e room_1 s m #[Value.ref b] below meth c H locs 120 4135 Q (F0 m 924 ls [])) : W p l e room_1 s m #[Value.ref b] below meth c H locs 120 4135 Q (F0 m 733 ls []) := by
  obtain ⟨hx, hb, hml, hown, hts⟩ := id S
  have ei1 : nI i + (1 : Int32) = nI (i + 1) := by rw [show (1 : Int32) = nI 1 from rfl, nI_add]
  have hin1 : vp_in (nI (i + 1)) L := vp_in_nI (by omega) (by omega)
  have ec1 : (nI (i + 1)).toNatClampNeg = i + 1 := nI_clamp (by omega)
  have ei2 : nI i + (2 : Int32) = nI (i + 2) := by rw [show (2 : Int32) = nI 2 from rfl, nI_add]
  have hin2 : vp_in (nI (i + 2)) L := vp_in_nI (by omega) (by omega)
  have ec2 : (nI (i + 2)).toNatClampNeg = i + 2 := nI_clamp (by omega)
  have ei3 : nI i + (3 : Int32) = nI (i + 3) := by rw [show (3 : Int32) = nI 3 from rfl, nI_add]
  have hin3 : vp_in (nI (i + 3)) L := vp_in_nI (by omega) (by omega)
  have ec3 : (nI (i + 3)).toNatClampNeg = i + 3 := nI_clamp (by omega)
  refine lv_aload_n hx hb dL_law_733 rfl (lv_at hl 1 rfl) ?_
  refine lv_aload_n hx hb dL_law_734 rfl (lv_at hl 0 rfl) ?_
  refine lv_iload_n hx hb dL_law_735 rfl (lv_at hl 3 rfl) ?_
  refine lv_iconst (v := (1 : Int32)) hx hb dL_law_736 kc_iconst_1 ?_
  refine lv_iadd hx hb dL_law_737 ?_
  rw [ei1]
  refine va_sld hx hb hX hbl hbA hS hin1 dL_law_738 ?_
  rw [ec1, ea1]
  refine cQi (As := [.int a1]) (rest := []) (q0 := 0) (ci := 5) S (c_X5_total l D cI cN a (v 1 0) (v 2 0) (v 3 0) (v 4 0) (v 5) w (v 6) (v 0) _ kx hi x n a1 r0 h5) (cwV 1 hts gL_law_X5_total rfl rfl rfl (by decide +kernel) ⟨Nat.le_of_ble_eq_true rfl, Nat.le_of_ble_eq_true rfl⟩) hK hP hS hA (P_sel [(true, (cxW a (v 0 0) (v 1 0) (v 2 0) (v 3 0) (v 4 0) (v 5 0) (v 6 0) (kx.1 7)), (cxW a (v 0 0) (v 1 0) (v 2 0) (v 3 0) (v 4 0) (v 5 0) (v 6 0) (kx.1 7))), (true, (hiW cI cN (v 5) w hi), (hiW cI cN (v 5) w hi)), (true, (txW cI (v 6) x), (txW cI (v 6) x)), (false, (nwW cI (v 1) o), (nwW cI (v 1) o)), (false, (nwW cI (v 2) sn), (nwW cI (v 2) sn)), (false, (rtW cI (v 4) r), (rtW cI (v 4) r)), (false, (nwW cI (v 3) tr), (nwW cI (v 3) tr)), (true, (nwW cI (v 0) n), (nwW cI (v 0) n)), (false, (mdW cI z g), (mdW cI z g))] hP) rfl rfl rfl hl.1 rfl (Nat.le_of_ble_eq_true rfl) dL_law_739 ⟨Nat.le_of_ble_eq_true rfl, Nat.le_of_ble_eq_true rfl⟩ (fun H locs hP hS => ?_)
  refine lv_aload_n hx hb dL_law_742 rfl (lv_at hl 2 rfl) ?_
  refine lv_aload_n hx hb dL_law_743 rfl (lv_at hl 0 rfl) ?_
  refine lv_iload_n hx hb dL_law_744 rfl (lv_at hl 3 rfl) ?_
  refine lv_iconst (v := (1 : Int32)) hx hb dL_law_745 kc_iconst_1 ?_
  refine lv_iadd hx hb dL_law_746 ?_
  rw [ei1]
  refine va_sld hx hb hX hbl hbA hS hin1 dL_law_747 ?_
  rw [ec1, ea1]
  refine cQi (As := [.int a1]) (rest := [.int r0]) (q0 := 115) (ci := 6) S (c_X6_total l D cI cN z _ g a1 r0 h6) (cwV 1 hts gL_law_X6_total rfl rfl rfl (by decide +kernel) ⟨Nat.le_of_ble_eq_true rfl, Nat.le_of_ble_eq_true rfl⟩) hK hP hS hA (P_sel [(false, (cxW a (v 0 0) (v 1 0) (v 2 0) (v 3 0) (v 4 0) (v 5 0) (v 6 0) (kx.1 7)), (cxW a (v 0 0) (v 1 0) (v 2 0) (v 3 0) (v 4 0) (v 5 0) (v 6 0) (kx.1 7))), (false, (hiW cI cN (v 5) w hi), (hiW cI cN (v 5) w hi)), (false, (txW cI (v 6) x), (txW cI (v 6) x)), (false, (nwW cI (v 1) o), (nwW cI (v 1) o)), (false, (nwW cI (v 2) sn), (nwW cI (v 2) sn)), (false, (rtW cI (v 4) r), (rtW cI (v 4) r)), (false, (nwW cI (v 3) tr), (nwW cI (v 3) tr)), (false, (nwW cI (v 0) n), (nwW cI (v 0) n)), (true, (mdW cI z g), (mdW cI z g))] hP) rfl rfl rfl hl.1 rfl (Nat.le_of_ble_eq_true rfl) dL_law_748 ⟨Nat.le_of_ble_eq_true rfl, Nat.le_of_ble_eq_true rfl⟩ (fun H locs hP hS => ?_)
  refine lv_icmp_eq (tgt := 924) hx hb dL_law_751 (by decide) (fun _ => ?_) (fun cne => absurd rfl cne)
  exact kk H locs ls hP hD hS hl
set_option maxRecDepth 100000 in
set_option maxHeartbeats 4000000 in
theorem lc_26 {p : Program} {l : Launch} {e : Env} {s : State} {m : MethodId} {below : List Frame} {meth : Method} {c : Code} {Q : State → Prop} {D : va_G} {cI cN : ClassId} {A : Nat → Prop} {b L : Nat} {xs : Nat → Int32} {a : Nat} {v w : Nat → Nat → Nat} {z : Nat → Nat} (S : CallFix p m c cL_law 4 s #[Value.ref b] wsL_law RL) (hK : KN D cI cN s) (hA : ∀ q : Nat, s.heap.size ≤ q → A q) (hX : va_X b L xs s s.heap) (hbl : b < s.heap.size) (hbA : ¬ A b) {i : Nat} (hi4 : i + 4 ≤ L) (hL : L ≤ 2048) {kx : OS} {hi : HS} {x o sn r tr n g : OS} {r' : OS} {g' : OS} {r0 : Int32} {a1 a2 : Int32} (ea1 : xs (i + 1) = a1) (ea2 : xs (i + 2) = a2) (h5 : fX5_wouldMove kx r n a1 a2 = some (r0, r')) (h6 : fX6_wouldMove g a1 a2 = some (r0, g')) (H : Heap) (locs : List Loc) (ls : Array Slot) (hP : va_P D vwCl ((cxW a (v 0 0) (v 1 0) (v 2 0) (v 3 0) (v 4 0) (v 5 0) (v 6 0) (kx.1 7)) ++ ((hiW cI cN (v 5) w hi) ++ ((txW cI (v 6) x) ++ ((nwW cI (v 1) o) ++ ((nwW cI (v 2) sn) ++ ((rtW cI (v 4) r) ++ ((nwW cI (v 3) tr) ++ ((nwW cI (v 0) n) ++ (mdW cI z g))))))))) H) (hD : va_D A ((cxW a (v 0 0) (v 1 0) (v 2 0) (v 3 0) (v 4 0) (v 5 0) (v 6 0) (kx.1 7)) ++ ((hiW cI cN (v 5) w hi) ++ ((txW cI (v 6) x) ++ ((nwW cI (v 1) o) ++ ((nwW cI (v 2) sn) ++ ((rtW cI (v 4) r) ++ ((nwW cI (v 3) tr) ++ ((nwW cI (v 0) n) ++ (mdW cI z g)))))))))) (hS : va_S A s.heap H locs) (hl : lv_has ls 4 [(0, .ref b), (1, .ref a), (2, .ref (z 0)), (3, .int (nI i))]) (kk : ∀ (H : Heap) (locs : List Loc) (ls : Array Slot), va_P D vwCl ((cxW a (v 0 0) (v 1 0) (v 2 0) (v 3 0) (v 4 0) (v 5 0) (v 6 0) (kx.1 7)) ++ ((hiW cI cN (v 5) w hi) ++ ((txW cI (v 6) x) ++ ((nwW cI (v 1) o) ++ ((nwW cI (v 2) sn) ++ ((rtW cI (v 4) r') ++ ((nwW cI (v 3) tr) ++ ((nwW cI (v 0) n) ++ (mdW cI z g'))))))))) H → va_D A ((cxW a (v 0 0) (v 1 0) (v 2 0) (v 3 0) (v 4 0) (v 5 0) (v 6 0) (kx.1 7)) ++ ((hiW cI cN (v 5) w hi) ++ ((txW cI (v 6) x) ++ ((nwW cI (v 1) o) ++ ((nwW cI (v 2) sn) ++ ((rtW cI (v 4) r') ++ ((nwW cI (v 3) tr) ++ ((nwW cI (v 0) n) ++ (mdW cI z g'))))))))) → va_S A s.heap H locs → lv_has ls 4 [(0, .ref b), (1, .ref a), (2, .ref (z 0)), (3, .int (nI i))] → W p l e room_1 s m #[Value.ref b] below meth c H locs 120 4135 Q (F0 m 924 ls [])) : W p l e room_1 s m #[Value.ref b] below meth c H locs 120 4135 Q (F0 m 756 ls []) := by
  obtain ⟨hx, hb, hml, hown, hts⟩ := id S
  have ei1 : nI i + (1 : Int32) = nI (i + 1) := by rw [show (1 : Int32) = nI 1 from rfl, nI_add]
  have hin1 : vp_in (nI (i + 1)) L := vp_in_nI (by omega) (by omega)
  have ec1 : (nI (i + 1)).toNatClampNeg = i + 1 := nI_clamp (by omega)
  have ei2 : nI i + (2 : Int32) = nI (i + 2) := by rw [show (2 : Int32) = nI 2 from rfl, nI_add]
  have hin2 : vp_in (nI (i + 2)) L := vp_in_nI (by omega) (by omega)
  have ec2 : (nI (i + 2)).toNatClampNeg = i + 2 := nI_clamp (by omega)
  have ei3 : nI i + (3 : Int32) = nI (i + 3) := by rw [show (3 : Int32) = nI 3 from rfl, nI_add]
  have hin3 : vp_in (nI (i + 3)) L := vp_in_nI (by omega) (by omega)
  have ec3 : (nI (i + 3)).toNatClampNeg = i + 3 := nI_clamp (by omega)
  refine lv_aload_n hx hb dL_law_756 rfl (lv_at hl 1 rfl) ?_
  refine lv_aload_n hx hb dL_law_757 rfl (lv_at hl 0 rfl) ?_
  refine lv_iload_n hx hb dL_law_758 rfl (lv_at hl 3 rfl) ?_
  refine lv_iconst (v := (1 : Int32)) hx hb dL_law_759 kc_iconst_1 ?_
  refine lv_iadd hx hb dL_law_760 ?_
  rw [ei1]
  refine va_sld hx hb hX hbl hbA hS hin1 dL_law_761 ?_
  rw [ec1, ea1]
  refine lv_aload_n hx hb dL_law_762 rfl (lv_at hl 0 rfl) ?_
  refine lv_iload_n hx hb dL_law_763 rfl (lv_at hl 3 rfl) ?_
  refine lv_iconst (v := (2 : Int32)) hx hb dL_law_764 kc_iconst_2 ?_
  refine lv_iadd hx hb dL_law_765 ?_
  rw [ei2]
  refine va_sld hx hb hX hbl hbA hS hin2 dL_law_766 ?_
  rw [ec2, ea2]
  refine cBi (As := [.int a1, .int a2]) (rest := []) (q0 := 0) (ci := 5) [(true, (cxW a (v 0 0) (v 1 0) (v 2 0) (v 3 0) (v 4 0) (v 5 0) (v 6 0) (kx.1 7)), (cxW a (v 0 0) (v 1 0) (v 2 0) (v 3 0) (v 4 0) (v 5 0) (v 6 0) (kx.1 7))), (false, (hiW cI cN (v 5) w hi), (hiW cI cN (v 5) w hi)), (false, (txW cI (v 6) x), (txW cI (v 6) x)), (false, (nwW cI (v 1) o), (nwW cI (v 1) o)), (false, (nwW cI (v 2) sn), (nwW cI (v 2) sn)), (true, (rtW cI (v 4) r), (rtW cI (v 4) r')), (false, (nwW cI (v 3) tr), (nwW cI (v 3) tr)), (true, (nwW cI (v 0) n), (nwW cI (v 0) n)), (false, (mdW cI z g), (mdW cI z g))] ⟨ad_cex, (fun h => Bool.noConfusion h), rfl, (fun _ => rfl), rfl, (fun _ => rfl), rfl, (fun _ => rfl), rfl, (fun _ => rfl), ad_rtr, (fun h => Bool.noConfusion h), rfl, (fun _ => rfl), ad_net, (fun h => Bool.noConfusion h), rfl, (fun _ => rfl), trivial⟩ S (c_X5_wouldMove l D cI cN a (v 1 0) (v 2 0) (v 3 0) (v 5 0) (v 6 0) (v 4) (v 0) _ kx r n a1 a2 r0 r' h5) (cwV 2 hts gL_law_X5_wouldMove rfl rfl rfl (by decide +kernel) ⟨Nat.le_of_ble_eq_true rfl, Nat.le_of_ble_eq_true rfl⟩) hK hP hD hS hA rfl rfl rfl hl.1 rfl (Nat.le_of_ble_eq_true rfl) dL_law_767 ⟨Nat.le_of_ble_eq_true rfl, Nat.le_of_ble_eq_true rfl⟩ (fun H locs hP hD hS => ?_)
  refine lv_aload_n hx hb dL_law_770 rfl (lv_at hl 2 rfl) ?_
  refine lv_aload_n hx hb dL_law_771 rfl (lv_at hl 0 rfl) ?_
  refine lv_iload_n hx hb dL_law_772 rfl (lv_at hl 3 rfl) ?_
  refine lv_iconst (v := (1 : Int32)) hx hb dL_law_773 kc_iconst_1 ?_
  refine lv_iadd hx hb dL_law_774 ?_
  rw [ei1]
  refine va_sld hx hb hX hbl hbA hS hin1 dL_law_775 ?_
  rw [ec1, ea1]
  refine lv_aload_n hx hb dL_law_776 rfl (lv_at hl 0 rfl) ?_
  refine lv_iload_n hx hb dL_law_777 rfl (lv_at hl 3 rfl) ?_
  refine lv_iconst (v := (2 : Int32)) hx hb dL_law_778 kc_iconst_2 ?_
  refine lv_iadd hx hb dL_law_779 ?_
  rw [ei2]
  refine va_sld hx hb hX hbl hbA hS hin2 dL_law_780 ?_
  rw [ec2, ea2]
  refine cBi (As := [.int a1, .int a2]) (rest := [.int r0]) (q0 := 115) (ci := 6) [(false, (cxW a (v 0 0) (v 1 0) (v 2 0) (v 3 0) (v 4 0) (v 5 0) (v 6 0) (kx.1 7)), (cxW a (v 0 0) (v 1 0) (v 2 0) (v 3 0) (v 4 0) (v 5 0) (v 6 0) (kx.1 7))), (false, (hiW cI cN (v 5) w hi), (hiW cI cN (v 5) w hi)), (false, (txW cI (v 6) x), (txW cI (v 6) x)), (false, (nwW cI (v 1) o), (nwW cI (v 1) o)), (false, (nwW cI (v 2) sn), (nwW cI (v 2) sn)), (false, (rtW cI (v 4) r'), (rtW cI (v 4) r')), (false, (nwW cI (v 3) tr), (nwW cI (v 3) tr)), (false, (nwW cI (v 0) n), (nwW cI (v 0) n)), (true, (mdW cI z g), (mdW cI z g'))] ⟨rfl, (fun _ => rfl), rfl, (fun _ => rfl), rfl, (fun _ => rfl), rfl, (fun _ => rfl), rfl, (fun _ => rfl), rfl, (fun _ => rfl), rfl, (fun _ => rfl), rfl, (fun _ => rfl), ad_mod, (fun h => Bool.noConfusion h), trivial⟩ S (c_X6_wouldMove l D cI cN z _ g a1 a2 r0 g' h6) (cwV 2 hts gL_law_X6_wouldMove rfl rfl rfl (by decide +kernel) ⟨Nat.le_of_ble_eq_true rfl, Nat.le_of_ble_eq_true rfl⟩) hK hP hD hS hA rfl rfl rfl hl.1 rfl (Nat.le_of_ble_eq_true rfl) dL_law_781 ⟨Nat.le_of_ble_eq_true rfl, Nat.le_of_ble_eq_true rfl⟩ (fun H locs hP hD hS => ?_)
  refine lv_icmp_eq (tgt := 924) hx hb dL_law_784 (by decide) (fun _ => ?_) (fun cne => absurd rfl cne)
  exact kk H locs ls hP hD hS hl
set_option maxRecDepth 100000 in
set_option maxHeartbeats 4000000 in
theorem lc_27 {p : Program} {l : Launch} {e : Env} {s : State} {m : MethodId} {below : List Frame} {meth : Method} {c : Code} {Q : State → Prop} {D : va_G} {cI cN : ClassId} {A : Nat → Prop} {b L : Nat} {xs : Nat → Int32} {a : Nat} {v w : Nat → Nat → Nat} {z : Nat → Nat} (S : CallFix p m c cL_law 4 s #[Value.ref b] wsL_law RL) (hK : KN D cI cN s) (hA : ∀ q : Nat, s.heap.size ≤ q → A q) (hX : va_X b L xs s s.heap) (hbl : b < s.heap.size) (hbA : ¬ A b) {i : Nat} (hi4 : i + 4 ≤ L) (hL : L ≤ 2048) {kx : OS} {hi : HS} {x o sn r tr n g : OS} {r' : OS} {g' : OS} {r0 : Int32} {a1 a2 a3 : Int32} (ea1 : xs (i + 1) = a1) (ea2 : xs (i + 2) = a2) (ea3 : xs (i + 3) = a3) (h5 : fX5_chainCall kx r n a1 a2 a3 = some (r0, r')) (h6 : fX6_chainCall g a1 a2 a3 = some (r0, g')) (H : Heap) (locs : List Loc) (ls : Array Slot) (hP : va_P D vwCl ((cxW a (v 0 0) (v 1 0) (v 2 0) (v 3 0) (v 4 0) (v 5 0) (v 6 0) (kx.1 7)) ++ ((hiW cI cN (v 5) w hi) ++ ((txW cI (v 6) x) ++ ((nwW cI (v 1) o) ++ ((nwW cI (v 2) sn) ++ ((rtW cI (v 4) r) ++ ((nwW cI (v 3) tr) ++ ((nwW cI (v 0) n) ++ (mdW cI z g))))))))) H) (hD : va_D A ((cxW a (v 0 0) (v 1 0) (v 2 0) (v 3 0) (v 4 0) (v 5 0) (v 6 0) (kx.1 7)) ++ ((hiW cI cN (v 5) w hi) ++ ((txW cI (v 6) x) ++ ((nwW cI (v 1) o) ++ ((nwW cI (v 2) sn) ++ ((rtW cI (v 4) r) ++ ((nwW cI (v 3) tr) ++ ((nwW cI (v 0) n) ++ (mdW cI z g)))))))))) (hS : va_S A s.heap H locs) (hl : lv_has ls 4 [(0, .ref b), (1, .ref a), (2, .ref (z 0)), (3, .int (nI i))]) (kk : ∀ (H : Heap) (locs : List Loc) (ls : Array Slot), va_P D vwCl ((cxW a (v 0 0) (v 1 0) (v 2 0) (v 3 0) (v 4 0) (v 5 0) (v 6 0) (kx.1 7)) ++ ((hiW cI cN (v 5) w hi) ++ ((txW cI (v 6) x) ++ ((nwW cI (v 1) o) ++ ((nwW cI (v 2) sn) ++ ((rtW cI (v 4) r') ++ ((nwW cI (v 3) tr) ++ ((nwW cI (v 0) n) ++ (mdW cI z g'))))))))) H → va_D A ((cxW a (v 0 0) (v 1 0) (v 2 0) (v 3 0) (v 4 0) (v 5 0) (v 6 0) (kx.1 7)) ++ ((hiW cI cN (v 5) w hi) ++ ((txW cI (v 6) x) ++ ((nwW cI (v 1) o) ++ ((nwW cI (v 2) sn) ++ ((rtW cI (v 4) r') ++ ((nwW cI (v 3) tr) ++ ((nwW cI (v 0) n) ++ (mdW cI z g'))))))))) → va_S A s.heap H locs → lv_has ls 4 [(0, .ref b), (1, .ref a), (2, .ref (z 0)), (3, .int (nI i))] → W p l e room_1 s m #[Value.ref b] below meth c H locs 120 4135 Q (F0 m 924 ls [])) : W p l e room_1 s m #[Value.ref b] below meth c H locs 120 4135 Q (F0 m 789 ls []) := by
  obtain ⟨hx, hb, hml, hown, hts⟩ := id S
  have ei1 : nI i + (1 : Int32) = nI (i + 1) := by rw [show (1 : Int32) = nI 1 from rfl, nI_add]
  have hin1 : vp_in (nI (i + 1)) L := vp_in_nI (by omega) (by omega)
  have ec1 : (nI (i + 1)).toNatClampNeg = i + 1 := nI_clamp (by omega)
  have ei2 : nI i + (2 : Int32) = nI (i + 2) := by rw [show (2 : Int32) = nI 2 from rfl, nI_add]
  have hin2 : vp_in (nI (i + 2)) L := vp_in_nI (by omega) (by omega)
  have ec2 : (nI (i + 2)).toNatClampNeg = i + 2 := nI_clamp (by omega)
  have ei3 : nI i + (3 : Int32) = nI (i + 3) := by rw [show (3 : Int32) = nI 3 from rfl, nI_add]
  have hin3 : vp_in (nI (i + 3)) L := vp_in_nI (by omega) (by omega)
  have ec3 : (nI (i + 3)).toNatClampNeg = i + 3 := nI_clamp (by omega)
  refine lv_aload_n hx hb dL_law_789 rfl (lv_at hl 1 rfl) ?_
  refine lv_aload_n hx hb dL_law_790 rfl (lv_at hl 0 rfl) ?_
  refine lv_iload_n hx hb dL_law_791 rfl (lv_at hl 3 rfl) ?_
  refine lv_iconst (v := (1 : Int32)) hx hb dL_law_792 kc_iconst_1 ?_
  refine lv_iadd hx hb dL_law_793 ?_
  rw [ei1]
  refine va_sld hx hb hX hbl hbA hS hin1 dL_law_794 ?_
  rw [ec1, ea1]
  refine lv_aload_n hx hb dL_law_795 rfl (lv_at hl 0 rfl) ?_
  refine lv_iload_n hx hb dL_law_796 rfl (lv_at hl 3 rfl) ?_
  refine lv_iconst (v := (2 : Int32)) hx hb dL_law_797 kc_iconst_2 ?_
  refine lv_iadd hx hb dL_law_798 ?_
  rw [ei2]
  refine va_sld hx hb hX hbl hbA hS hin2 dL_law_799 ?_
  rw [ec2, ea2]
  refine lv_aload_n hx hb dL_law_800 rfl (lv_at hl 0 rfl) ?_
  refine lv_iload_n hx hb dL_law_801 rfl (lv_at hl 3 rfl) ?_
  refine lv_iconst (v := (3 : Int32)) hx hb dL_law_802 kc_iconst_3 ?_
  refine lv_iadd hx hb dL_law_803 ?_
  rw [ei3]
  refine va_sld hx hb hX hbl hbA hS hin3 dL_law_804 ?_
  rw [ec3, ea3]
  refine cBi (As := [.int a1, .int a2, .int a3]) (rest := []) (q0 := 0) (ci := 5) [(true, (cxW a (v 0 0) (v 1 0) (v 2 0) (v 3 0) (v 4 0) (v 5 0) (v 6 0) (kx.1 7)), (cxW a (v 0 0) (v 1 0) (v 2 0) (v 3 0) (v 4 0) (v 5 0) (v 6 0) (kx.1 7))), (false, (hiW cI cN (v 5) w hi), (hiW cI cN (v 5) w hi)), (false, (txW cI (v 6) x), (txW cI (v 6) x)), (false, (nwW cI (v 1) o), (nwW cI (v 1) o)), (false, (nwW cI (v 2) sn), (nwW cI (v 2) sn)), (true, (rtW cI (v 4) r), (rtW cI (v 4) r')), (false, (nwW cI (v 3) tr), (nwW cI (v 3) tr)), (true, (nwW cI (v 0) n), (nwW cI (v 0) n)), (false, (mdW cI z g), (mdW cI z g))] ⟨ad_cex, (fun h => Bool.noConfusion h), rfl, (fun _ => rfl), rfl, (fun _ => rfl), rfl, (fun _ => rfl), rfl, (fun _ => rfl), ad_rtr, (fun h => Bool.noConfusion h), rfl, (fun _ => rfl), ad_net, (fun h => Bool.noConfusion h), rfl, (fun _ => rfl), trivial⟩ S (c_X5_chainCall l D cI cN a (v 1 0) (v 2 0) (v 3 0) (v 5 0) (v 6 0) (v 4) (v 0) _ kx r n a1 a2 a3 r0 r' h5) (cwV 3 hts gL_law_X5_chainCall rfl rfl rfl (by decide +kernel) ⟨Nat.le_of_ble_eq_true rfl, Nat.le_of_ble_eq_true rfl⟩) hK hP hD hS hA rfl rfl rfl hl.1 rfl (Nat.le_of_ble_eq_true rfl) dL_law_805 ⟨Nat.le_of_ble_eq_true rfl, Nat.le_of_ble_eq_true rfl⟩ (fun H locs hP hD hS => ?_)
  refine lv_aload_n hx hb dL_law_808 rfl (lv_at hl 2 rfl) ?_
  refine lv_aload_n hx hb dL_law_809 rfl (lv_at hl 0 rfl) ?_
  refine lv_iload_n hx hb dL_law_810 rfl (lv_at hl 3 rfl) ?_
  refine lv_iconst (v := (1 : Int32)) hx hb dL_law_811 kc_iconst_1 ?_
  refine lv_iadd hx hb dL_law_812 ?_
  rw [ei1]
  refine va_sld hx hb hX hbl hbA hS hin1 dL_law_813 ?_
  rw [ec1, ea1]
  refine lv_aload_n hx hb dL_law_814 rfl (lv_at hl 0 rfl) ?_
  refine lv_iload_n hx hb dL_law_815 rfl (lv_at hl 3 rfl) ?_
  refine lv_iconst (v := (2 : Int32)) hx hb dL_law_816 kc_iconst_2 ?_
  refine lv_iadd hx hb dL_law_817 ?_
  rw [ei2]
  refine va_sld hx hb hX hbl hbA hS hin2 dL_law_818 ?_
  rw [ec2, ea2]
  refine lv_aload_n hx hb dL_law_819 rfl (lv_at hl 0 rfl) ?_
  refine lv_iload_n hx hb dL_law_820 rfl (lv_at hl 3 rfl) ?_
  refine lv_iconst (v := (3 : Int32)) hx hb dL_law_821 kc_iconst_3 ?_
  refine lv_iadd hx hb dL_law_822 ?_
  rw [ei3]
  refine va_sld hx hb hX hbl hbA hS hin3 dL_law_823 ?_
  rw [ec3, ea3]
  refine cBi (As := [.int a1, .int a2, .int a3]) (rest := [.int r0]) (q0 := 115) (ci := 6) [(false, (cxW a (v 0 0) (v 1 0) (v 2 0) (v 3 0) (v 4 0) (v 5 0) (v 6 0) (kx.1 7)), (cxW a (v 0 0) (v 1 0) (v 2 0) (v 3 0) (v 4 0) (v 5 0) (v 6 0) (kx.1 7))), (false, (hiW cI cN (v 5) w hi), (hiW cI cN (v 5) w hi)), (false, (txW cI (v 6) x), (txW cI (v 6) x)), (false, (nwW cI (v 1) o), (nwW cI (v 1) o)), (false, (nwW cI (v 2) sn), (nwW cI (v 2) sn)), (false, (rtW cI (v 4) r'), (rtW cI (v 4) r')), (false, (nwW cI (v 3) tr), (nwW cI (v 3) tr)), (false, (nwW cI (v 0) n), (nwW cI (v 0) n)), (true, (mdW cI z g), (mdW cI z g'))] ⟨rfl, (fun _ => rfl), rfl, (fun _ => rfl), rfl, (fun _ => rfl), rfl, (fun _ => rfl), rfl, (fun _ => rfl), rfl, (fun _ => rfl), rfl, (fun _ => rfl), rfl, (fun _ => rfl), ad_mod, (fun h => Bool.noConfusion h), trivial⟩ S (c_X6_chainCall l D cI cN z _ g a1 a2 a3 r0 g' h6) (cwV 3 hts gL_law_X6_chainCall rfl rfl rfl (by decide +kernel) ⟨Nat.le_of_ble_eq_true rfl, Nat.le_of_ble_eq_true rfl⟩) hK hP hD hS hA rfl rfl rfl hl.1 rfl (Nat.le_of_ble_eq_true rfl) dL_law_824 ⟨Nat.le_of_ble_eq_true rfl, Nat.le_of_ble_eq_true rfl⟩ (fun H locs hP hD hS => ?_)
  refine lv_icmp_eq (tgt := 924) hx hb dL_law_827 (by decide) (fun _ => ?_) (fun cne => absurd rfl cne)
  exact kk H locs ls hP hD hS hl
set_option maxRecDepth 100000 in
set_option maxHeartbeats 4000000 in
theorem lc_28 {p : Program} {l : Launch} {e : Env} {s : State} {m : MethodId} {below : List Frame} {meth : Method} {c : Code} {Q : State → Prop} {D : va_G} {cI cN : ClassId} {A : Nat → Prop} {b L : Nat} {xs : Nat → Int32} {a : Nat} {v w : Nat → Nat → Nat} {z : Nat → Nat} (S : CallFix p m c cL_law 4 s #[Value.ref b] wsL_law RL) (hK : KN D cI cN s) (hA : ∀ q : Nat, s.heap.size ≤ q → A q) (hX : va_X b L xs s s.heap) (hbl : b < s.heap.size) (hbA : ¬ A b) {i : Nat} (hi4 : i + 4 ≤ L) (hL : L ≤ 2048) {kx : OS} {hi : HS} {x o sn r tr n g : OS} {r0 : Int32} {a1 a2 : Int32} (ea1 : xs (i + 1) = a1) (ea2 : xs (i + 2) = a2) (h5 : fX5_reason kx n a1 a2 = some r0) (h6 : fX6_reason g a1 a2 = some r0) (H : Heap) (locs : List Loc) (ls : Array Slot) (hP : va_P D vwCl ((cxW a (v 0 0) (v 1 0) (v 2 0) (v 3 0) (v 4 0) (v 5 0) (v 6 0) (kx.1 7)) ++ ((hiW cI cN (v 5) w hi) ++ ((txW cI (v 6) x) ++ ((nwW cI (v 1) o) ++ ((nwW cI (v 2) sn) ++ ((rtW cI (v 4) r) ++ ((nwW cI (v 3) tr) ++ ((nwW cI (v 0) n) ++ (mdW cI z g))))))))) H) (hD : va_D A ((cxW a (v 0 0) (v 1 0) (v 2 0) (v 3 0) (v 4 0) (v 5 0) (v 6 0) (kx.1 7)) ++ ((hiW cI cN (v 5) w hi) ++ ((txW cI (v 6) x) ++ ((nwW cI (v 1) o) ++ ((nwW cI (v 2) sn) ++ ((rtW cI (v 4) r) ++ ((nwW cI (v 3) tr) ++ ((nwW cI (v 0) n) ++ (mdW cI z g)))))))))) (hS : va_S A s.heap H locs) (hl : lv_has ls 4 [(0, .ref b), (1, .ref a), (2, .ref (z 0)), (3, .int (nI i))]) (kk : ∀ (H : Heap) (locs : List Loc) (ls : Array Slot), va_P D vwCl ((cxW a (v 0 0) (v 1 0) (v 2 0) (v 3 0) (v 4 0) (v 5 0) (v 6 0) (kx.1 7)) ++ ((hiW cI cN (v 5) w hi) ++ ((txW cI (v 6) x) ++ ((nwW cI (v 1) o) ++ ((nwW cI (v 2) sn) ++ ((rtW cI (v 4) r) ++ ((nwW cI (v 3) tr) ++ ((nwW cI (v 0) n) ++ (mdW cI z g))))))))) H → va_D A ((cxW a (v 0 0) (v 1 0) (v 2 0) (v 3 0) (v 4 0) (v 5 0) (v 6 0) (kx.1 7)) ++ ((hiW cI cN (v 5) w hi) ++ ((txW cI (v 6) x) ++ ((nwW cI (v 1) o) ++ ((nwW cI (v 2) sn) ++ ((rtW cI (v 4) r) ++ ((nwW cI (v 3) tr) ++ ((nwW cI (v 0) n) ++ (mdW cI z g))))))))) → va_S A s.heap H locs → lv_has ls 4 [(0, .ref b), (1, .ref a), (2, .ref (z 0)), (3, .int (nI i))] → W p l e room_1 s m #[Value.ref b] below meth c H locs 120 4135 Q (F0 m 924 ls [])) : W p l e room_1 s m #[Value.ref b] below meth c H locs 120 4135 Q (F0 m 832 ls []) := by
  obtain ⟨hx, hb, hml, hown, hts⟩ := id S
  have ei1 : nI i + (1 : Int32) = nI (i + 1) := by rw [show (1 : Int32) = nI 1 from rfl, nI_add]
  have hin1 : vp_in (nI (i + 1)) L := vp_in_nI (by omega) (by omega)
  have ec1 : (nI (i + 1)).toNatClampNeg = i + 1 := nI_clamp (by omega)
  have ei2 : nI i + (2 : Int32) = nI (i + 2) := by rw [show (2 : Int32) = nI 2 from rfl, nI_add]
  have hin2 : vp_in (nI (i + 2)) L := vp_in_nI (by omega) (by omega)
  have ec2 : (nI (i + 2)).toNatClampNeg = i + 2 := nI_clamp (by omega)
  have ei3 : nI i + (3 : Int32) = nI (i + 3) := by rw [show (3 : Int32) = nI 3 from rfl, nI_add]
  have hin3 : vp_in (nI (i + 3)) L := vp_in_nI (by omega) (by omega)
  have ec3 : (nI (i + 3)).toNatClampNeg = i + 3 := nI_clamp (by omega)
  refine lv_aload_n hx hb dL_law_832 rfl (lv_at hl 1 rfl) ?_
  refine lv_aload_n hx hb dL_law_833 rfl (lv_at hl 0 rfl) ?_
  refine lv_iload_n hx hb dL_law_834 rfl (lv_at hl 3 rfl) ?_
  refine lv_iconst (v := (1 : Int32)) hx hb dL_law_835 kc_iconst_1 ?_
  refine lv_iadd hx hb dL_law_836 ?_
  rw [ei1]
  refine va_sld hx hb hX hbl hbA hS hin1 dL_law_837 ?_
  rw [ec1, ea1]
  refine lv_aload_n hx hb dL_law_838 rfl (lv_at hl 0 rfl) ?_
  refine lv_iload_n hx hb dL_law_839 rfl (lv_at hl 3 rfl) ?_
  refine lv_iconst (v := (2 : Int32)) hx hb dL_law_840 kc_iconst_2 ?_
  refine lv_iadd hx hb dL_law_841 ?_
  rw [ei2]
  refine va_sld hx hb hX hbl hbA hS hin2 dL_law_842 ?_
  rw [ec2, ea2]
  refine cQi (As := [.int a1, .int a2]) (rest := []) (q0 := 0) (ci := 5) S (c_X5_reason l D cI cN a (v 1 0) (v 2 0) (v 3 0) (v 4 0) (v 5 0) (v 6 0) (v 0) _ kx n a1 a2 r0 h5) (cwV 2 hts gL_law_X5_reason rfl rfl rfl (by decide +kernel) ⟨Nat.le_of_ble_eq_true rfl, Nat.le_of_ble_eq_true rfl⟩) hK hP hS hA (P_sel [(true, (cxW a (v 0 0) (v 1 0) (v 2 0) (v 3 0) (v 4 0) (v 5 0) (v 6 0) (kx.1 7)), (cxW a (v 0 0) (v 1 0) (v 2 0) (v 3 0) (v 4 0) (v 5 0) (v 6 0) (kx.1 7))), (false, (hiW cI cN (v 5) w hi), (hiW cI cN (v 5) w hi)), (false, (txW cI (v 6) x), (txW cI (v 6) x)), (false, (nwW cI (v 1) o), (nwW cI (v 1) o)), (false, (nwW cI (v 2) sn), (nwW cI (v 2) sn)), (false, (rtW cI (v 4) r), (rtW cI (v 4) r)), (false, (nwW cI (v 3) tr), (nwW cI (v 3) tr)), (true, (nwW cI (v 0) n), (nwW cI (v 0) n)), (false, (mdW cI z g), (mdW cI z g))] hP) rfl rfl rfl hl.1 rfl (Nat.le_of_ble_eq_true rfl) dL_law_843 ⟨Nat.le_of_ble_eq_true rfl, Nat.le_of_ble_eq_true rfl⟩ (fun H locs hP hS => ?_)
  refine lv_aload_n hx hb dL_law_846 rfl (lv_at hl 2 rfl) ?_
  refine lv_aload_n hx hb dL_law_847 rfl (lv_at hl 0 rfl) ?_
  refine lv_iload_n hx hb dL_law_848 rfl (lv_at hl 3 rfl) ?_
  refine lv_iconst (v := (1 : Int32)) hx hb dL_law_849 kc_iconst_1 ?_
  refine lv_iadd hx hb dL_law_850 ?_
  rw [ei1]
  refine va_sld hx hb hX hbl hbA hS hin1 dL_law_851 ?_
  rw [ec1, ea1]
  refine lv_aload_n hx hb dL_law_852 rfl (lv_at hl 0 rfl) ?_
  refine lv_iload_n hx hb dL_law_853 rfl (lv_at hl 3 rfl) ?_
  refine lv_iconst (v := (2 : Int32)) hx hb dL_law_854 kc_iconst_2 ?_
  refine lv_iadd hx hb dL_law_855 ?_
  rw [ei2]
  refine va_sld hx hb hX hbl hbA hS hin2 dL_law_856 ?_
  rw [ec2, ea2]
  refine cQi (As := [.int a1, .int a2]) (rest := [.int r0]) (q0 := 115) (ci := 6) S (c_X6_reason l D cI cN z _ g a1 a2 r0 h6) (cwV 2 hts gL_law_X6_reason rfl rfl rfl (by decide +kernel) ⟨Nat.le_of_ble_eq_true rfl, Nat.le_of_ble_eq_true rfl⟩) hK hP hS hA (P_sel [(false, (cxW a (v 0 0) (v 1 0) (v 2 0) (v 3 0) (v 4 0) (v 5 0) (v 6 0) (kx.1 7)), (cxW a (v 0 0) (v 1 0) (v 2 0) (v 3 0) (v 4 0) (v 5 0) (v 6 0) (kx.1 7))), (false, (hiW cI cN (v 5) w hi), (hiW cI cN (v 5) w hi)), (false, (txW cI (v 6) x), (txW cI (v 6) x)), (false, (nwW cI (v 1) o), (nwW cI (v 1) o)), (false, (nwW cI (v 2) sn), (nwW cI (v 2) sn)), (false, (rtW cI (v 4) r), (rtW cI (v 4) r)), (false, (nwW cI (v 3) tr), (nwW cI (v 3) tr)), (false, (nwW cI (v 0) n), (nwW cI (v 0) n)), (true, (mdW cI z g), (mdW cI z g))] hP) rfl rfl rfl hl.1 rfl (Nat.le_of_ble_eq_true rfl) dL_law_857 ⟨Nat.le_of_ble_eq_true rfl, Nat.le_of_ble_eq_true rfl⟩ (fun H locs hP hS => ?_)
  refine lv_icmp_eq (tgt := 924) hx hb dL_law_860 (by decide) (fun _ => ?_) (fun cne => absurd rfl cne)
  exact kk H locs ls hP hD hS hl
set_option maxRecDepth 100000 in
set_option maxHeartbeats 4000000 in
theorem lc_29 {p : Program} {l : Launch} {e : Env} {s : State} {m : MethodId} {below : List Frame} {meth : Method} {c : Code} {Q : State → Prop} {D : va_G} {cI cN : ClassId} {A : Nat → Prop} {b L : Nat} {xs : Nat → Int32} {a : Nat} {v w : Nat → Nat → Nat} {z : Nat → Nat} (S : CallFix p m c cL_law 4 s #[Value.ref b] wsL_law RL) (hK : KN D cI cN s) (hA : ∀ q : Nat, s.heap.size ≤ q → A q) (hX : va_X b L xs s s.heap) (hbl : b < s.heap.size) (hbA : ¬ A b) {i : Nat} (hi4 : i + 4 ≤ L) (hL : L ≤ 2048) {kx : OS} {hi : HS} {x o sn r tr n g : OS} {r0 : Int32} (h5 : fX5_leastMiddles kx n = some r0) (h6 : fX6_leastMiddles g = some r0) (H : Heap) (locs : List Loc) (ls : Array Slot) (hP : va_P D vwCl ((cxW a (v 0 0) (v 1 0) (v 2 0) (v 3 0) (v 4 0) (v 5 0) (v 6 0) (kx.1 7)) ++ ((hiW cI cN (v 5) w hi) ++ ((txW cI (v 6) x) ++ ((nwW cI (v 1) o) ++ ((nwW cI (v 2) sn) ++ ((rtW cI (v 4) r) ++ ((nwW cI (v 3) tr) ++ ((nwW cI (v 0) n) ++ (mdW cI z g))))))))) H) (hD : va_D A ((cxW a (v 0 0) (v 1 0) (v 2 0) (v 3 0) (v 4 0) (v 5 0) (v 6 0) (kx.1 7)) ++ ((hiW cI cN (v 5) w hi) ++ ((txW cI (v 6) x) ++ ((nwW cI (v 1) o) ++ ((nwW cI (v 2) sn) ++ ((rtW cI (v 4) r) ++ ((nwW cI (v 3) tr) ++ ((nwW cI (v 0) n) ++ (mdW cI z g)))))))))) (hS : va_S A s.heap H locs) (hl : lv_has ls 4 [(0, .ref b), (1, .ref a), (2, .ref (z 0)), (3, .int (nI i))]) (kk : ∀ (H : Heap) (locs : List Loc) (ls : Array Slot), va_P D vwCl ((cxW a (v 0 0) (v 1 0) (v 2 0) (v 3 0) (v 4 0) (v 5 0) (v 6 0) (kx.1 7)) ++ ((hiW cI cN (v 5) w hi) ++ ((txW cI (v 6) x) ++ ((nwW cI (v 1) o) ++ ((nwW cI (v 2) sn) ++ ((rtW cI (v 4) r) ++ ((nwW cI (v 3) tr) ++ ((nwW cI (v 0) n) ++ (mdW cI z g))))))))) H → va_D A ((cxW a (v 0 0) (v 1 0) (v 2 0) (v 3 0) (v 4 0) (v 5 0) (v 6 0) (kx.1 7)) ++ ((hiW cI cN (v 5) w hi) ++ ((txW cI (v 6) x) ++ ((nwW cI (v 1) o) ++ ((nwW cI (v 2) sn) ++ ((rtW cI (v 4) r) ++ ((nwW cI (v 3) tr) ++ ((nwW cI (v 0) n) ++ (mdW cI z g))))))))) → va_S A s.heap H locs → lv_has ls 4 [(0, .ref b), (1, .ref a), (2, .ref (z 0)), (3, .int (nI i))] → W p l e room_1 s m #[Value.ref b] below meth c H locs 120 4135 Q (F0 m 924 ls [])) : W p l e room_1 s m #[Value.ref b] below meth c H locs 120 4135 Q (F0 m 865 ls []) := by
  obtain ⟨hx, hb, hml, hown, hts⟩ := id S
  have ei1 : nI i + (1 : Int32) = nI (i + 1) := by rw [show (1 : Int32) = nI 1 from rfl, nI_add]
  have hin1 : vp_in (nI (i + 1)) L := vp_in_nI (by omega) (by omega)
  have ec1 : (nI (i + 1)).toNatClampNeg = i + 1 := nI_clamp (by omega)
  have ei2 : nI i + (2 : Int32) = nI (i + 2) := by rw [show (2 : Int32) = nI 2 from rfl, nI_add]
  have hin2 : vp_in (nI (i + 2)) L := vp_in_nI (by omega) (by omega)
  have ec2 : (nI (i + 2)).toNatClampNeg = i + 2 := nI_clamp (by omega)
  have ei3 : nI i + (3 : Int32) = nI (i + 3) := by rw [show (3 : Int32) = nI 3 from rfl, nI_add]
  have hin3 : vp_in (nI (i + 3)) L := vp_in_nI (by omega) (by omega)
  have ec3 : (nI (i + 3)).toNatClampNeg = i + 3 := nI_clamp (by omega)
  refine lv_aload_n hx hb dL_law_865 rfl (lv_at hl 1 rfl) ?_
  refine cQi (As := []) (rest := []) (q0 := 0) (ci := 5) S (c_X5_leastMiddles l D cI cN a (v 1 0) (v 2 0) (v 3 0) (v 4 0) (v 5 0) (v 6 0) (v 0) _ kx n  r0 h5) (cwV 0 hts gL_law_X5_leastMiddles rfl rfl rfl (by decide +kernel) ⟨Nat.le_of_ble_eq_true rfl, Nat.le_of_ble_eq_true rfl⟩) hK hP hS hA (P_sel [(true, (cxW a (v 0 0) (v 1 0) (v 2 0) (v 3 0) (v 4 0) (v 5 0) (v 6 0) (kx.1 7)), (cxW a (v 0 0) (v 1 0) (v 2 0) (v 3 0) (v 4 0) (v 5 0) (v 6 0) (kx.1 7))), (false, (hiW cI cN (v 5) w hi), (hiW cI cN (v 5) w hi)), (false, (txW cI (v 6) x), (txW cI (v 6) x)), (false, (nwW cI (v 1) o), (nwW cI (v 1) o)), (false, (nwW cI (v 2) sn), (nwW cI (v 2) sn)), (false, (rtW cI (v 4) r), (rtW cI (v 4) r)), (false, (nwW cI (v 3) tr), (nwW cI (v 3) tr)), (true, (nwW cI (v 0) n), (nwW cI (v 0) n)), (false, (mdW cI z g), (mdW cI z g))] hP) rfl rfl rfl hl.1 rfl (Nat.le_of_ble_eq_true rfl) dL_law_866 ⟨Nat.le_of_ble_eq_true rfl, Nat.le_of_ble_eq_true rfl⟩ (fun H locs hP hS => ?_)
  refine lv_aload_n hx hb dL_law_869 rfl (lv_at hl 2 rfl) ?_
  refine cQi (As := []) (rest := [.int r0]) (q0 := 115) (ci := 6) S (c_X6_leastMiddles l D cI cN z _ g  r0 h6) (cwV 0 hts gL_law_X6_leastMiddles rfl rfl rfl (by decide +kernel) ⟨Nat.le_of_ble_eq_true rfl, Nat.le_of_ble_eq_true rfl⟩) hK hP hS hA (P_sel [(false, (cxW a (v 0 0) (v 1 0) (v 2 0) (v 3 0) (v 4 0) (v 5 0) (v 6 0) (kx.1 7)), (cxW a (v 0 0) (v 1 0) (v 2 0) (v 3 0) (v 4 0) (v 5 0) (v 6 0) (kx.1 7))), (false, (hiW cI cN (v 5) w hi), (hiW cI cN (v 5) w hi)), (false, (txW cI (v 6) x), (txW cI (v 6) x)), (false, (nwW cI (v 1) o), (nwW cI (v 1) o)), (false, (nwW cI (v 2) sn), (nwW cI (v 2) sn)), (false, (rtW cI (v 4) r), (rtW cI (v 4) r)), (false, (nwW cI (v 3) tr), (nwW cI (v 3) tr)), (false, (nwW cI (v 0) n), (nwW cI (v 0) n)), (true, (mdW cI z g), (mdW cI z g))] hP) rfl rfl rfl hl.1 rfl (Nat.le_of_ble_eq_true rfl) dL_law_870 ⟨Nat.le_of_ble_eq_true rfl, Nat.le_of_ble_eq_true rfl⟩ (fun H locs hP hS => ?_)
  refine lv_icmp_eq (tgt := 924) hx hb dL_law_873 (by decide) (fun _ => ?_) (fun cne => absurd rfl cne)
  exact kk H locs ls hP hD hS hl
set_option maxRecDepth 100000 in
set_option maxHeartbeats 4000000 in
theorem lc_30 {p : Program} {l : Launch} {e : Env} {s : State} {m : MethodId} {below : List Frame} {meth : Method} {c : Code} {Q : State → Prop} {D : va_G} {cI cN : ClassId} {A : Nat → Prop} {b L : Nat} {xs : Nat → Int32} {a : Nat} {v w : Nat → Nat → Nat} {z : Nat → Nat} (S : CallFix p m c cL_law 4 s #[Value.ref b] wsL_law RL) (hK : KN D cI cN s) (hA : ∀ q : Nat, s.heap.size ≤ q → A q) (hX : va_X b L xs s s.heap) (hbl : b < s.heap.size) (hbA : ¬ A b) {i : Nat} (hi4 : i + 4 ≤ L) (hL : L ≤ 2048) {kx : OS} {hi : HS} {x o sn r tr n g : OS} {r' : OS} {tr' : OS} {g' : OS} {r0 : Int32} {a1 : Int32} (ea1 : xs (i + 1) = a1) (h5 : fX5_wouldDrop kx r tr n a1 = some (r0, r', tr')) (h6 : fX6_wouldDrop g a1 = some (r0, g')) (H : Heap) (locs : List Loc) (ls : Array Slot) (hP : va_P D vwCl ((cxW a (v 0 0) (v 1 0) (v 2 0) (v 3 0) (v 4 0) (v 5 0) (v 6 0) (kx.1 7)) ++ ((hiW cI cN (v 5) w hi) ++ ((txW cI (v 6) x) ++ ((nwW cI (v 1) o) ++ ((nwW cI (v 2) sn) ++ ((rtW cI (v 4) r) ++ ((nwW cI (v 3) tr) ++ ((nwW cI (v 0) n) ++ (mdW cI z g))))))))) H) (hD : va_D A ((cxW a (v 0 0) (v 1 0) (v 2 0) (v 3 0) (v 4 0) (v 5 0) (v 6 0) (kx.1 7)) ++ ((hiW cI cN (v 5) w hi) ++ ((txW cI (v 6) x) ++ ((nwW cI (v 1) o) ++ ((nwW cI (v 2) sn) ++ ((rtW cI (v 4) r) ++ ((nwW cI (v 3) tr) ++ ((nwW cI (v 0) n) ++ (mdW cI z g)))))))))) (hS : va_S A s.heap H locs) (hl : lv_has ls 4 [(0, .ref b), (1, .ref a), (2, .ref (z 0)), (3, .int (nI i))]) (kk : ∀ (H : Heap) (locs : List Loc) (ls : Array Slot), va_P D vwCl ((cxW a (v 0 0) (v 1 0) (v 2 0) (v 3 0) (v 4 0) (v 5 0) (v 6 0) (kx.1 7)) ++ ((hiW cI cN (v 5) w hi) ++ ((txW cI (v 6) x) ++ ((nwW cI (v 1) o) ++ ((nwW cI (v 2) sn) ++ ((rtW cI (v 4) r') ++ ((nwW cI (v 3) tr') ++ ((nwW cI (v 0) n) ++ (mdW cI z g'))))))))) H → va_D A ((cxW a (v 0 0) (v 1 0) (v 2 0) (v 3 0) (v 4 0) (v 5 0) (v 6 0) (kx.1 7)) ++ ((hiW cI cN (v 5) w hi) ++ ((txW cI (v 6) x) ++ ((nwW cI (v 1) o) ++ ((nwW cI (v 2) sn) ++ ((rtW cI (v 4) r') ++ ((nwW cI (v 3) tr') ++ ((nwW cI (v 0) n) ++ (mdW cI z g'))))))))) → va_S A s.heap H locs → lv_has ls 4 [(0, .ref b), (1, .ref a), (2, .ref (z 0)), (3, .int (nI i))] → W p l e room_1 s m #[Value.ref b] below meth c H locs 120 4135 Q (F0 m 924 ls [])) : W p l e room_1 s m #[Value.ref b] below meth c H locs 120 4135 Q (F0 m 878 ls []) := by
  obtain ⟨hx, hb, hml, hown, hts⟩ := id S
  have ei1 : nI i + (1 : Int32) = nI (i + 1) := by rw [show (1 : Int32) = nI 1 from rfl, nI_add]
  have hin1 : vp_in (nI (i + 1)) L := vp_in_nI (by omega) (by omega)
  have ec1 : (nI (i + 1)).toNatClampNeg = i + 1 := nI_clamp (by omega)
  have ei2 : nI i + (2 : Int32) = nI (i + 2) := by rw [show (2 : Int32) = nI 2 from rfl, nI_add]
  have hin2 : vp_in (nI (i + 2)) L := vp_in_nI (by omega) (by omega)
  have ec2 : (nI (i + 2)).toNatClampNeg = i + 2 := nI_clamp (by omega)
  have ei3 : nI i + (3 : Int32) = nI (i + 3) := by rw [show (3 : Int32) = nI 3 from rfl, nI_add]
  have hin3 : vp_in (nI (i + 3)) L := vp_in_nI (by omega) (by omega)
  have ec3 : (nI (i + 3)).toNatClampNeg = i + 3 := nI_clamp (by omega)
  refine lv_aload_n hx hb dL_law_878 rfl (lv_at hl 1 rfl) ?_
  refine lv_aload_n hx hb dL_law_879 rfl (lv_at hl 0 rfl) ?_
  refine lv_iload_n hx hb dL_law_880 rfl (lv_at hl 3 rfl) ?_
  refine lv_iconst (v := (1 : Int32)) hx hb dL_law_881 kc_iconst_1 ?_
  refine lv_iadd hx hb dL_law_882 ?_
  rw [ei1]
  refine va_sld hx hb hX hbl hbA hS hin1 dL_law_883 ?_
  rw [ec1, ea1]
  refine cBi (As := [.int a1]) (rest := []) (q0 := 0) (ci := 5) [(true, (cxW a (v 0 0) (v 1 0) (v 2 0) (v 3 0) (v 4 0) (v 5 0) (v 6 0) (kx.1 7)), (cxW a (v 0 0) (v 1 0) (v 2 0) (v 3 0) (v 4 0) (v 5 0) (v 6 0) (kx.1 7))), (false, (hiW cI cN (v 5) w hi), (hiW cI cN (v 5) w hi)), (false, (txW cI (v 6) x), (txW cI (v 6) x)), (false, (nwW cI (v 1) o), (nwW cI (v 1) o)), (false, (nwW cI (v 2) sn), (nwW cI (v 2) sn)), (true, (rtW cI (v 4) r), (rtW cI (v 4) r')), (true, (nwW cI (v 3) tr), (nwW cI (v 3) tr')), (true, (nwW cI (v 0) n), (nwW cI (v 0) n)), (false, (mdW cI z g), (mdW cI z g))] ⟨ad_cex, (fun h => Bool.noConfusion h), rfl, (fun _ => rfl), rfl, (fun _ => rfl), rfl, (fun _ => rfl), rfl, (fun _ => rfl), ad_rtr, (fun h => Bool.noConfusion h), ad_net, (fun h => Bool.noConfusion h), ad_net, (fun h => Bool.noConfusion h), rfl, (fun _ => rfl), trivial⟩ S (c_X5_wouldDrop l D cI cN a (v 1 0) (v 2 0) (v 5 0) (v 6 0) (v 4) (v 3) (v 0) _ kx r tr n a1 r0 r' tr' h5) (cwV 1 hts gL_law_X5_wouldDrop rfl rfl rfl (by decide +kernel) ⟨Nat.le_of_ble_eq_true rfl, Nat.le_of_ble_eq_true rfl⟩) hK hP hD hS hA rfl rfl rfl hl.1 rfl (Nat.le_of_ble_eq_true rfl) dL_law_884 ⟨Nat.le_of_ble_eq_true rfl, Nat.le_of_ble_eq_true rfl⟩ (fun H locs hP hD hS => ?_)
  refine lv_aload_n hx hb dL_law_887 rfl (lv_at hl 2 rfl) ?_
  refine lv_aload_n hx hb dL_law_888 rfl (lv_at hl 0 rfl) ?_
  refine lv_iload_n hx hb dL_law_889 rfl (lv_at hl 3 rfl) ?_
  refine lv_iconst (v := (1 : Int32)) hx hb dL_law_890 kc_iconst_1 ?_
  refine lv_iadd hx hb dL_law_891 ?_
  rw [ei1]
  refine va_sld hx hb hX hbl hbA hS hin1 dL_law_892 ?_
  rw [ec1, ea1]
  refine cBi (As := [.int a1]) (rest := [.int r0]) (q0 := 115) (ci := 6) [(false, (cxW a (v 0 0) (v 1 0) (v 2 0) (v 3 0) (v 4 0) (v 5 0) (v 6 0) (kx.1 7)), (cxW a (v 0 0) (v 1 0) (v 2 0) (v 3 0) (v 4 0) (v 5 0) (v 6 0) (kx.1 7))), (false, (hiW cI cN (v 5) w hi), (hiW cI cN (v 5) w hi)), (false, (txW cI (v 6) x), (txW cI (v 6) x)), (false, (nwW cI (v 1) o), (nwW cI (v 1) o)), (false, (nwW cI (v 2) sn), (nwW cI (v 2) sn)), (false, (rtW cI (v 4) r'), (rtW cI (v 4) r')), (false, (nwW cI (v 3) tr'), (nwW cI (v 3) tr')), (false, (nwW cI (v 0) n), (nwW cI (v 0) n)), (true, (mdW cI z g), (mdW cI z g'))] ⟨rfl, (fun _ => rfl), rfl, (fun _ => rfl), rfl, (fun _ => rfl), rfl, (fun _ => rfl), rfl, (fun _ => rfl), rfl, (fun _ => rfl), rfl, (fun _ => rfl), rfl, (fun _ => rfl), ad_mod, (fun h => Bool.noConfusion h), trivial⟩ S (c_X6_wouldDrop l D cI cN z _ g a1 r0 g' h6) (cwV 1 hts gL_law_X6_wouldDrop rfl rfl rfl (by decide +kernel) ⟨Nat.le_of_ble_eq_true rfl, Nat.le_of_ble_eq_true rfl⟩) hK hP hD hS hA rfl rfl rfl hl.1 rfl (Nat.le_of_ble_eq_true rfl) dL_law_893 ⟨Nat.le_of_ble_eq_true rfl, Nat.le_of_ble_eq_true rfl⟩ (fun H locs hP hD hS => ?_)
  refine lv_icmp_eq (tgt := 924) hx hb dL_law_896 (by decide) (fun _ => ?_) (fun cne => absurd rfl cne)
  exact kk H locs ls hP hD hS hl
set_option maxRecDepth 100000 in
set_option maxHeartbeats 4000000 in
theorem lc_31 {p : Program} {l : Launch} {e : Env} {s : State} {m : MethodId} {below : List Frame} {meth : Method} {c : Code} {Q : State → Prop} {D : va_G} {cI cN : ClassId} {A : Nat → Prop} {b L : Nat} {xs : Nat → Int32} {a : Nat} {v w : Nat → Nat → Nat} {z : Nat → Nat} (S : CallFix p m c cL_law 4 s #[Value.ref b] wsL_law RL) (hK : KN D cI cN s) (hA : ∀ q : Nat, s.heap.size ≤ q → A q) (hX : va_X b L xs s s.heap) (hbl : b < s.heap.size) (hbA : ¬ A b) {i : Nat} (hi4 : i + 4 ≤ L) (hL : L ≤ 2048) {kx : OS} {hi : HS} {x o sn r tr n g : OS} {r0 : Int32} {a1 : Int32} (ea1 : xs (i + 1) = a1) (h5 : fX5_reachable kx n a1 = some r0) (h6 : fX6_reachable g a1 = some r0) (H : Heap) (locs : List Loc) (ls : Array Slot) (hP : va_P D vwCl ((cxW a (v 0 0) (v 1 0) (v 2 0) (v 3 0) (v 4 0) (v 5 0) (v 6 0) (kx.1 7)) ++ ((hiW cI cN (v 5) w hi) ++ ((txW cI (v 6) x) ++ ((nwW cI (v 1) o) ++ ((nwW cI (v 2) sn) ++ ((rtW cI (v 4) r) ++ ((nwW cI (v 3) tr) ++ ((nwW cI (v 0) n) ++ (mdW cI z g))))))))) H) (hD : va_D A ((cxW a (v 0 0) (v 1 0) (v 2 0) (v 3 0) (v 4 0) (v 5 0) (v 6 0) (kx.1 7)) ++ ((hiW cI cN (v 5) w hi) ++ ((txW cI (v 6) x) ++ ((nwW cI (v 1) o) ++ ((nwW cI (v 2) sn) ++ ((rtW cI (v 4) r) ++ ((nwW cI (v 3) tr) ++ ((nwW cI (v 0) n) ++ (mdW cI z g)))))))))) (hS : va_S A s.heap H locs) (hl : lv_has ls 4 [(0, .ref b), (1, .ref a), (2, .ref (z 0)), (3, .int (nI i))]) (kk : ∀ (H : Heap) (locs : List Loc) (ls : Array Slot), va_P D vwCl ((cxW a (v 0 0) (v 1 0) (v 2 0) (v 3 0) (v 4 0) (v 5 0) (v 6 0) (kx.1 7)) ++ ((hiW cI cN (v 5) w hi) ++ ((txW cI (v 6) x) ++ ((nwW cI (v 1) o) ++ ((nwW cI (v 2) sn) ++ ((rtW cI (v 4) r) ++ ((nwW cI (v 3) tr) ++ ((nwW cI (v 0) n) ++ (mdW cI z g))))))))) H → va_D A ((cxW a (v 0 0) (v 1 0) (v 2 0) (v 3 0) (v 4 0) (v 5 0) (v 6 0) (kx.1 7)) ++ ((hiW cI cN (v 5) w hi) ++ ((txW cI (v 6) x) ++ ((nwW cI (v 1) o) ++ ((nwW cI (v 2) sn) ++ ((rtW cI (v 4) r) ++ ((nwW cI (v 3) tr) ++ ((nwW cI (v 0) n) ++ (mdW cI z g))))))))) → va_S A s.heap H locs → lv_has ls 4 [(0, .ref b), (1, .ref a), (2, .ref (z 0)), (3, .int (nI i))] → W p l e room_1 s m #[Value.ref b] below meth c H locs 120 4135 Q (F0 m 924 ls [])) : W p l e room_1 s m #[Value.ref b] below meth c H locs 120 4135 Q (F0 m 901 ls []) := by
  obtain ⟨hx, hb, hml, hown, hts⟩ := id S
  have ei1 : nI i + (1 : Int32) = nI (i + 1) := by rw [show (1 : Int32) = nI 1 from rfl, nI_add]
  have hin1 : vp_in (nI (i + 1)) L := vp_in_nI (by omega) (by omega)
  have ec1 : (nI (i + 1)).toNatClampNeg = i + 1 := nI_clamp (by omega)
  have ei2 : nI i + (2 : Int32) = nI (i + 2) := by rw [show (2 : Int32) = nI 2 from rfl, nI_add]
  have hin2 : vp_in (nI (i + 2)) L := vp_in_nI (by omega) (by omega)
  have ec2 : (nI (i + 2)).toNatClampNeg = i + 2 := nI_clamp (by omega)
  have ei3 : nI i + (3 : Int32) = nI (i + 3) := by rw [show (3 : Int32) = nI 3 from rfl, nI_add]
  have hin3 : vp_in (nI (i + 3)) L := vp_in_nI (by omega) (by omega)
  have ec3 : (nI (i + 3)).toNatClampNeg = i + 3 := nI_clamp (by omega)
  refine lv_aload_n hx hb dL_law_901 rfl (lv_at hl 1 rfl) ?_
  refine lv_aload_n hx hb dL_law_902 rfl (lv_at hl 0 rfl) ?_
  refine lv_iload_n hx hb dL_law_903 rfl (lv_at hl 3 rfl) ?_
  refine lv_iconst (v := (1 : Int32)) hx hb dL_law_904 kc_iconst_1 ?_
  refine lv_iadd hx hb dL_law_905 ?_
  rw [ei1]
  refine va_sld hx hb hX hbl hbA hS hin1 dL_law_906 ?_
  rw [ec1, ea1]
  refine cQi (As := [.int a1]) (rest := []) (q0 := 0) (ci := 5) S (c_X5_reachable l D cI cN a (v 1 0) (v 2 0) (v 3 0) (v 4 0) (v 5 0) (v 6 0) (v 0) _ kx n a1 r0 h5) (cwV 1 hts gL_law_X5_reachable rfl rfl rfl (by decide +kernel) ⟨Nat.le_of_ble_eq_true rfl, Nat.le_of_ble_eq_true rfl⟩) hK hP hS hA (P_sel [(true, (cxW a (v 0 0) (v 1 0) (v 2 0) (v 3 0) (v 4 0) (v 5 0) (v 6 0) (kx.1 7)), (cxW a (v 0 0) (v 1 0) (v 2 0) (v 3 0) (v 4 0) (v 5 0) (v 6 0) (kx.1 7))), (false, (hiW cI cN (v 5) w hi), (hiW cI cN (v 5) w hi)), (false, (txW cI (v 6) x), (txW cI (v 6) x)), (false, (nwW cI (v 1) o), (nwW cI (v 1) o)), (false, (nwW cI (v 2) sn), (nwW cI (v 2) sn)), (false, (rtW cI (v 4) r), (rtW cI (v 4) r)), (false, (nwW cI (v 3) tr), (nwW cI (v 3) tr)), (true, (nwW cI (v 0) n), (nwW cI (v 0) n)), (false, (mdW cI z g), (mdW cI z g))] hP) rfl rfl rfl hl.1 rfl (Nat.le_of_ble_eq_true rfl) dL_law_907 ⟨Nat.le_of_ble_eq_true rfl, Nat.le_of_ble_eq_true rfl⟩ (fun H locs hP hS => ?_)
  refine lv_aload_n hx hb dL_law_910 rfl (lv_at hl 2 rfl) ?_
  refine lv_aload_n hx hb dL_law_911 rfl (lv_at hl 0 rfl) ?_
  refine lv_iload_n hx hb dL_law_912 rfl (lv_at hl 3 rfl) ?_
  refine lv_iconst (v := (1 : Int32)) hx hb dL_law_913 kc_iconst_1 ?_
  refine lv_iadd hx hb dL_law_914 ?_
  rw [ei1]
  refine va_sld hx hb hX hbl hbA hS hin1 dL_law_915 ?_
  rw [ec1, ea1]
  refine cQi (As := [.int a1]) (rest := [.int r0]) (q0 := 115) (ci := 6) S (c_X6_reachable l D cI cN z _ g a1 r0 h6) (cwV 1 hts gL_law_X6_reachable rfl rfl rfl (by decide +kernel) ⟨Nat.le_of_ble_eq_true rfl, Nat.le_of_ble_eq_true rfl⟩) hK hP hS hA (P_sel [(false, (cxW a (v 0 0) (v 1 0) (v 2 0) (v 3 0) (v 4 0) (v 5 0) (v 6 0) (kx.1 7)), (cxW a (v 0 0) (v 1 0) (v 2 0) (v 3 0) (v 4 0) (v 5 0) (v 6 0) (kx.1 7))), (false, (hiW cI cN (v 5) w hi), (hiW cI cN (v 5) w hi)), (false, (txW cI (v 6) x), (txW cI (v 6) x)), (false, (nwW cI (v 1) o), (nwW cI (v 1) o)), (false, (nwW cI (v 2) sn), (nwW cI (v 2) sn)), (false, (rtW cI (v 4) r), (rtW cI (v 4) r)), (false, (nwW cI (v 3) tr), (nwW cI (v 3) tr)), (false, (nwW cI (v 0) n), (nwW cI (v 0) n)), (true, (mdW cI z g), (mdW cI z g))] hP) rfl rfl rfl hl.1 rfl (Nat.le_of_ble_eq_true rfl) dL_law_916 ⟨Nat.le_of_ble_eq_true rfl, Nat.le_of_ble_eq_true rfl⟩ (fun H locs hP hS => ?_)
  refine lv_icmp_eq (tgt := 924) hx hb dL_law_919 (by decide) (fun _ => ?_) (fun cne => absurd rfl cne)
  exact kk H locs ls hP hD hS hl
