abbrev rm_L_holds : Room := { frames := 4, cells := 0, slots := 0, locals := 87 }
set_option maxRecDepth 100000 in
set_option maxHeartbeats 4000000 in
theorem w_L_holds_192 {p : Program} {l : Launch} {e : Env} {s : State} {m : MethodId} {args : Array Value} {below : List Frame} {meth : Method} {c : Code} {Q : State → Prop} {D : va_G} {cI cN : ClassId} {ka a1 a2 a3 a4 : Nat} {h : Nat → Nat} {hq : Nat → Nat → Nat} {u : Nat → Nat} {q : Nat → Nat} (S : CallFix p m c cL_holds 12 s args wsL_holds RL) (hK : KN D cI cN s) {kx : OS} {hi : HS} {x : OS} {n : OS} {x1 : Int32} {x2 : Int32} {x4 : Int32} {x7 : Int32} : ∀ (k : Nat) (x3 : Int32) (x5 : Int32) (x6 : Int32) (x8 : Int32) (out : Int32 × Int32 × Int32), fL_holds_192 kx hi x n x1 x2 x4 x7 k x3 x5 x6 x8 = some out → ∀ (H : Heap) (locs : List Loc) (ls : Array Slot), va_P D vwCl ((cxW ka (q 0) a1 a2 a3 a4 (h 0) (u 0) (kx.1 7)) ++ ((hiW cI cN h hq hi) ++ ((txW cI u x) ++ (nwW cI q n)))) H → va_S (nwA s.heap.size) s.heap H locs → lv_has ls 12 [(0, .ref ka), (1, .int x1), (2, .int x2), (3, .int x3), (4, .int x4), (5, .int x5), (6, .int x6), (7, .int x7), (8, .int x8)] → (∀ (H : Heap) (locs : List Loc) (ls : Array Slot), va_P D vwCl ((cxW ka (q 0) a1 a2 a3 a4 (h 0) (u 0) (kx.1 7)) ++ ((hiW cI cN h hq hi) ++ ((txW cI u x) ++ (nwW cI q n)))) H → va_S (nwA s.heap.size) s.heap H locs → lv_has ls 12 [(0, .ref ka), (1, .int x1), (2, .int x2), (3, .int out.1), (4, .int x4), (5, .int out.2.1), (6, .int out.2.2), (7, .int x7)] → W p l e (headSpec wsL_holds rm_L_holds).room s m args below meth c H locs 0 0 Q (F0 m 366 ls [])) → W p l e (headSpec wsL_holds rm_L_holds).room s m args below meth c H locs 0 0 Q (F0 m 192 ls []) := by
  obtain ⟨hx, hb, hml, hown, hts⟩ := id S
  have hA : ∀ q : Nat, s.heap.size ≤ q → nwA s.heap.size q := fun _ h => h
  intro k
  induction k with
  | zero => intro x3 x5 x6 x8 out hf; rw [fL_holds_192_z] at hf; cases hf
  | succ k ih =>
    intro x3 x5 x6 x8 out hf H locs ls hP hS hl kont
    rw [fL_holds_192_s] at hf
    refine lv_iload hx hb dL_holds_192 (lv_at hl 8 rfl) ?_
    refine lv_aload_n hx hb dL_holds_194 rfl (lv_at hl 0 rfl) ?_
    refine lv_iconst (v := (0 : Int32)) hx hb dL_holds_195 kc_iconst_0 ?_
    obtain ⟨v140, hv140, hf⟩ := it_b hf
    refine cQi (As := [.int (0 : Int32)]) (rest := [.int x8]) (q0 := 0) (ci := 5) S (c_X5_total l D cI cN ka a1 a2 a3 a4 h hq u q _ kx hi x n (0 : Int32) v140 hv140) (cwV 1 hts gL_holds_X5_total rfl rfl rfl (by decide +kernel) ⟨Nat.le_of_ble_eq_true rfl, Nat.le_of_ble_eq_true rfl⟩) hK hP hS hA hP rfl rfl rfl hl.1 rfl (Nat.le_of_ble_eq_true rfl) dL_holds_196 ⟨Nat.zero_le _, Nat.zero_le _⟩ (fun H locs hP hS => ?_)
    refine lv_icmp_ge (tgt := 366) hx hb dL_holds_199 (by decide) (fun c141 => ?_) (fun c141 => ?_)
    · have hf := it_t hf c141
      have e0 := Option.some.inj hf
      subst e0
      exact kont H locs ls hP hS (lv_sub hl [0, 1, 2, 3, 4, 5, 6, 7] rfl)
    · have hf := it_f hf c141
      refine lv_aload_n hx hb dL_holds_202 rfl (lv_at hl 0 rfl) ?_
      refine cQi (As := []) (rest := []) (q0 := 0) (ci := 5) S (c_X5_inService l D cI cN ka a1 a2 a3 a4 (h 0) (u 0) q _ kx n (fX5_inService kx n) rfl) (cwV 0 hts gL_holds_X5_inService rfl rfl rfl (by decide +kernel) ⟨Nat.le_of_ble_eq_true rfl, Nat.le_of_ble_eq_true rfl⟩) hK hP hS hA (P_sel [(true, (cxW ka (q 0) a1 a2 a3 a4 (h 0) (u 0) (kx.1 7)), (cxW ka (q 0) a1 a2 a3 a4 (h 0) (u 0) (kx.1 7))), (false, (hiW cI cN h hq hi), (hiW cI cN h hq hi)), (false, (txW cI u x), (txW cI u x)), (true, (nwW cI q n), (nwW cI q n))] hP) rfl rfl rfl hl.1 rfl (Nat.le_of_ble_eq_true rfl) dL_holds_203 ⟨Nat.zero_le _, Nat.zero_le _⟩ (fun H locs hP hS => ?_)
      refine lv_iload hx hb dL_holds_206 (lv_at hl 7 rfl) ?_
      refine lv_ishr hx hb dL_holds_208 ?_
      refine lv_iconst (v := (1 : Int32)) hx hb dL_holds_209 kc_iconst_1 ?_
      refine lv_iand hx hb dL_holds_210 ?_
      refine lv_iconst (v := (1 : Int32)) hx hb dL_holds_211 kc_iconst_1 ?_
      obtain ⟨v143, hg, hf⟩ := it_j hf
      have hj : ∀ (H : Heap) (locs : List Loc) (ls : Array Slot), va_P D vwCl ((cxW ka (q 0) a1 a2 a3 a4 (h 0) (u 0) (kx.1 7)) ++ ((hiW cI cN h hq hi) ++ ((txW cI u x) ++ (nwW cI q n)))) H → va_S (nwA s.heap.size) s.heap H locs → lv_has ls 12 [(0, .ref ka), (1, .int x1), (2, .int x2), (3, .int x3), (4, .int x4), (5, .int x5), (6, .int x6), (7, .int x7), (8, .int x8)] → W p l e (headSpec wsL_holds rm_L_holds).room s m args below meth c H locs 0 0 Q (F0 m 220 ls [.int v143]) := by
        intro H locs ls hP hS hl
        refine lv_istore (lv' := [(9, .int v143), (0, .ref ka), (1, .int x1), (2, .int x2), (3, .int x3), (4, .int x4), (5, .int x5), (6, .int x6), (7, .int x7), (8, .int x8)]) hx hb dL_holds_220 hl (by decide) rfl (fun ls hl => ?_)
        refine lv_aload_n hx hb dL_holds_222 rfl (lv_at hl 1 rfl) ?_
        refine lv_iload hx hb dL_holds_223 (lv_at hl 9 rfl) ?_
        refine lv_iload hx hb dL_holds_225 (lv_at hl 8 rfl) ?_
        refine cQi (As := [.int x8, .int x7]) (rest := []) (q0 := 0) (ci := 5) S (c_X5_onFirstLink l D cI cN ka a1 a2 a3 a4 (h 0) (u 0) q _ kx n x8 x7 (fX5_onFirstLink kx n x8 x7) rfl) (cwV 2 hts gL_holds_X5_onFirstLink rfl rfl rfl (by decide +kernel) ⟨Nat.le_of_ble_eq_true rfl, Nat.le_of_ble_eq_true rfl⟩) hK hP hS hA (P_sel [(true, (cxW ka (q 0) a1 a2 a3 a4 (h 0) (u 0) (kx.1 7)), (cxW ka (q 0) a1 a2 a3 a4 (h 0) (u 0) (kx.1 7))), (false, (hiW cI cN h hq hi), (hiW cI cN h hq hi)), (false, (txW cI u x), (txW cI u x)), (true, (nwW cI q n), (nwW cI q n))] hP) rfl rfl rfl hl.1 rfl (Nat.le_of_ble_eq_true rfl) dL_holds_227 ⟨Nat.zero_le _, Nat.zero_le _⟩ (fun H locs hP hS => ?_)
        refine lv_bipush (v := (-6 : Int32)) hx hb dL_holds_230 kc_bipush_m6 ?_
        obtain ⟨v145, hg, hf⟩ := it_j hf
        have hj : ∀ (H : Heap) (locs : List Loc) (ls : Array Slot), va_P D vwCl ((cxW ka (q 0) a1 a2 a3 a4 (h 0) (u 0) (kx.1 7)) ++ ((hiW cI cN h hq hi) ++ ((txW cI u x) ++ (nwW cI q n)))) H → va_S (nwA s.heap.size) s.heap H locs → lv_has ls 12 [(0, .ref ka), (1, .int x1), (2, .int x2), (3, .int x3), (4, .int x4), (5, .int x5), (6, .int x6), (7, .int x7), (8, .int x8), (9, .int v143)] → W p l e (headSpec wsL_holds rm_L_holds).room s m args below meth c H locs 0 0 Q (F0 m 240 ls [.int v145]) := by
          intro H locs ls hP hS hl
          refine lv_istore (lv' := [(10, .int v145), (0, .ref ka), (1, .int x1), (2, .int x2), (3, .int x3), (4, .int x4), (5, .int x5), (6, .int x6), (7, .int x7), (8, .int x8), (9, .int v143)]) hx hb dL_holds_240 hl (by decide) rfl (fun ls hl => ?_)
          refine lv_aload_n hx hb dL_holds_242 rfl (lv_at hl 1 rfl) ?_
          refine lv_iload hx hb dL_holds_243 (lv_at hl 8 rfl) ?_
          refine lv_iload hx hb dL_holds_245 (lv_at hl 9 rfl) ?_
          refine cQi (As := [.int x7, .int x8]) (rest := []) (q0 := 0) (ci := 5) S (c_X5_onLastLink l D cI cN ka a1 a2 a3 a4 (h 0) (u 0) q _ kx n x7 x8 (fX5_onLastLink kx n x7 x8) rfl) (cwV 2 hts gL_holds_X5_onLastLink rfl rfl rfl (by decide +kernel) ⟨Nat.le_of_ble_eq_true rfl, Nat.le_of_ble_eq_true rfl⟩) hK hP hS hA (P_sel [(true, (cxW ka (q 0) a1 a2 a3 a4 (h 0) (u 0) (kx.1 7)), (cxW ka (q 0) a1 a2 a3 a4 (h 0) (u 0) (kx.1 7))), (false, (hiW cI cN h hq hi), (hiW cI cN h hq hi)), (false, (txW cI u x), (txW cI u x)), (true, (nwW cI q n), (nwW cI q n))] hP) rfl rfl rfl hl.1 rfl (Nat.le_of_ble_eq_true rfl) dL_holds_247 ⟨Nat.zero_le _, Nat.zero_le _⟩ (fun H locs hP hS => ?_)
          refine lv_bipush (v := (-6 : Int32)) hx hb dL_holds_250 kc_bipush_m6 ?_
          obtain ⟨v147, hg, hf⟩ := it_j hf
          have hj : ∀ (H : Heap) (locs : List Loc) (ls : Array Slot), va_P D vwCl ((cxW ka (q 0) a1 a2 a3 a4 (h 0) (u 0) (kx.1 7)) ++ ((hiW cI cN h hq hi) ++ ((txW cI u x) ++ (nwW cI q n)))) H → va_S (nwA s.heap.size) s.heap H locs → lv_has ls 12 [(0, .ref ka), (1, .int x1), (2, .int x2), (3, .int x3), (4, .int x4), (5, .int x5), (6, .int x6), (7, .int x7), (8, .int x8), (9, .int v143), (10, .int v145)] → W p l e (headSpec wsL_holds rm_L_holds).room s m args below meth c H locs 0 0 Q (F0 m 260 ls [.int v147]) := by
            intro H locs ls hP hS hl
            refine lv_istore (lv' := [(11, .int v147), (0, .ref ka), (1, .int x1), (2, .int x2), (3, .int x3), (4, .int x4), (5, .int x5), (6, .int x6), (7, .int x7), (8, .int x8), (9, .int v143), (10, .int v145)]) hx hb dL_holds_260 hl (by decide) rfl (fun ls hl => ?_)
            refine lv_iload hx hb dL_holds_262 (lv_at hl 6 rfl) ?_
            refine lv_iload hx hb dL_holds_264 (lv_at hl 11 rfl) ?_
            obtain ⟨v149, hg, hf⟩ := it_j hf
            have hj : ∀ (H : Heap) (locs : List Loc) (ls : Array Slot), va_P D vwCl ((cxW ka (q 0) a1 a2 a3 a4 (h 0) (u 0) (kx.1 7)) ++ ((hiW cI cN h hq hi) ++ ((txW cI u x) ++ (nwW cI q n)))) H → va_S (nwA s.heap.size) s.heap H locs → lv_has ls 12 [(0, .ref ka), (1, .int x1), (2, .int x2), (3, .int x3), (4, .int x4), (6, .int x6), (7, .int x7), (8, .int x8), (9, .int v143), (10, .int v145), (11, .int v147)] → W p l e (headSpec wsL_holds rm_L_holds).room s m args below meth c H locs 0 0 Q (F0 m 274 ls [.int v149, .int x5]) := by
              intro H locs ls hP hS hl
              refine lv_iadd hx hb dL_holds_274 ?_
              refine lv_istore (lv' := [(5, .int (x5 + v149)), (0, .ref ka), (1, .int x1), (2, .int x2), (3, .int x3), (4, .int x4), (6, .int x6), (7, .int x7), (8, .int x8), (9, .int v143), (10, .int v145), (11, .int v147)]) hx hb dL_holds_275 hl (by decide) rfl (fun ls hl => ?_)
              refine lv_iload hx hb dL_holds_277 (lv_at hl 6 rfl) ?_
              refine lv_iload hx hb dL_holds_279 (lv_at hl 11 rfl) ?_
              obtain ⟨v151, hg, hf⟩ := it_j hf
              have hj : ∀ (H : Heap) (locs : List Loc) (ls : Array Slot), va_P D vwCl ((cxW ka (q 0) a1 a2 a3 a4 (h 0) (u 0) (kx.1 7)) ++ ((hiW cI cN h hq hi) ++ ((txW cI u x) ++ (nwW cI q n)))) H → va_S (nwA s.heap.size) s.heap H locs → lv_has ls 12 [(0, .ref ka), (1, .int x1), (2, .int x2), (3, .int x3), (4, .int x4), (5, .int (x5 + v149)), (7, .int x7), (8, .int x8), (9, .int v143), (10, .int v145), (11, .int v147)] → W p l e (headSpec wsL_holds rm_L_holds).room s m args below meth c H locs 0 0 Q (F0 m 289 ls [.int v151, .int x6]) := by
                intro H locs ls hP hS hl
                refine lv_iadd hx hb dL_holds_289 ?_
                refine lv_istore (lv' := [(6, .int (x6 + v151)), (0, .ref ka), (1, .int x1), (2, .int x2), (3, .int x3), (4, .int x4), (5, .int (x5 + v149)), (7, .int x7), (8, .int x8), (9, .int v143), (10, .int v145), (11, .int v147)]) hx hb dL_holds_290 hl (by decide) rfl (fun ls hl => ?_)
                refine lv_iload_n hx hb dL_holds_292 rfl (lv_at hl 4 rfl) ?_
                refine lv_if_eq (tgt := 358) hx hb dL_holds_293 (by decide) (fun c152 => ?_) (fun c152 => ?_)
                · have hf := it_t hf c152
                  refine lv_iconst (v := (0 : Int32)) hx hb dL_holds_358 kc_iconst_0 ?_
                  refine lv_istore_n (lv' := [(3, .int (0 : Int32)), (6, .int (x6 + v151)), (0, .ref ka), (1, .int x1), (2, .int x2), (4, .int x4), (5, .int (x5 + v149)), (7, .int x7), (8, .int x8), (9, .int v143), (10, .int v145), (11, .int v147)]) hx hb dL_holds_359 rfl hl (by decide) rfl (fun ls hl => ?_)
                  refine lv_iinc (v := (x8 + (1 : Int32))) (lv' := [(8, .int (x8 + (1 : Int32))), (3, .int (0 : Int32)), (6, .int (x6 + v151)), (0, .ref ka), (1, .int x1), (2, .int x2), (4, .int x4), (5, .int (x5 + v149)), (7, .int x7), (9, .int v143), (10, .int v145), (11, .int v147)]) hx hb dL_holds_360 hl (k := 8) rfl rfl (by decide) rfl (fun ls hl => ?_)
                  refine lv_goto (tgt := 192) hx hb dL_holds_363 (by decide) ?_
                  exact ih _ _ _ _ _ hf H locs ls hP hS (lv_sub hl [3, 4, 5, 1, 6, 7, 2, 8, 0] rfl) kont
                · have hf := it_f hf c152
                  refine lv_aload_n hx hb dL_holds_296 rfl (lv_at hl 1 rfl) ?_
                  refine lv_iload hx hb dL_holds_297 (lv_at hl 8 rfl) ?_
                  obtain ⟨v153, hv153, hf⟩ := it_b hf
                  refine cQi (As := [.int x8]) (rest := []) (q0 := 0) (ci := 5) S (c_X5_freeForFirst l D cI cN ka a1 a2 a3 a4 (h 0) (u 0) q _ kx n x8 v153 hv153) (cwV 1 hts gL_holds_X5_freeForFirst rfl rfl rfl (by decide +kernel) ⟨Nat.le_of_ble_eq_true rfl, Nat.le_of_ble_eq_true rfl⟩) hK hP hS hA (P_sel [(true, (cxW ka (q 0) a1 a2 a3 a4 (h 0) (u 0) (kx.1 7)), (cxW ka (q 0) a1 a2 a3 a4 (h 0) (u 0) (kx.1 7))), (false, (hiW cI cN h hq hi), (hiW cI cN h hq hi)), (false, (txW cI u x), (txW cI u x)), (true, (nwW cI q n), (nwW cI q n))] hP) rfl rfl rfl hl.1 rfl (Nat.le_of_ble_eq_true rfl) dL_holds_299 ⟨Nat.zero_le _, Nat.zero_le _⟩ (fun H locs hP hS => ?_)
                  refine lv_iload hx hb dL_holds_302 (lv_at hl 7 rfl) ?_
                  refine lv_ishr hx hb dL_holds_304 ?_
                  refine lv_iconst (v := (1 : Int32)) hx hb dL_holds_305 kc_iconst_1 ?_
                  refine lv_iand hx hb dL_holds_306 ?_
                  refine lv_iload hx hb dL_holds_307 (lv_at hl 9 rfl) ?_
                  obtain ⟨v156, hg, hf⟩ := it_j hf
                  have hj : ∀ (H : Heap) (locs : List Loc) (ls : Array Slot), va_P D vwCl ((cxW ka (q 0) a1 a2 a3 a4 (h 0) (u 0) (kx.1 7)) ++ ((hiW cI cN h hq hi) ++ ((txW cI u x) ++ (nwW cI q n)))) H → va_S (nwA s.heap.size) s.heap H locs → lv_has ls 12 [(0, .ref ka), (1, .int x1), (2, .int x2), (4, .int x4), (5, .int (x5 + v149)), (6, .int (x6 + v151)), (7, .int x7), (8, .int x8), (9, .int v143), (11, .int v147)] → W p l e (headSpec wsL_holds rm_L_holds).room s m args below meth c H locs 0 0 Q (F0 m 322 ls [.int v156, .int ((v153 >>> (x7 &&& 31)) &&& (1 : Int32))]) := by
                    intro H locs ls hP hS hl
                    refine lv_icmp_ne (tgt := 358) hx hb dL_holds_322 (by decide) (fun c157 => ?_) (fun c157 => ?_)
                    · have hf := it_f hf c157
                      refine lv_iconst (v := (0 : Int32)) hx hb dL_holds_358 kc_iconst_0 ?_
                      refine lv_istore_n (lv' := [(3, .int (0 : Int32)), (0, .ref ka), (1, .int x1), (2, .int x2), (4, .int x4), (5, .int (x5 + v149)), (6, .int (x6 + v151)), (7, .int x7), (8, .int x8), (9, .int v143), (11, .int v147)]) hx hb dL_holds_359 rfl hl (by decide) rfl (fun ls hl => ?_)
                      refine lv_iinc (v := (x8 + (1 : Int32))) (lv' := [(8, .int (x8 + (1 : Int32))), (3, .int (0 : Int32)), (0, .ref ka), (1, .int x1), (2, .int x2), (4, .int x4), (5, .int (x5 + v149)), (6, .int (x6 + v151)), (7, .int x7), (9, .int v143), (11, .int v147)]) hx hb dL_holds_360 hl (k := 8) rfl rfl (by decide) rfl (fun ls hl => ?_)
                      refine lv_goto (tgt := 192) hx hb dL_holds_363 (by decide) ?_
                      exact ih _ _ _ _ _ hf H locs ls hP hS (lv_sub hl [2, 3, 4, 1, 5, 6, 7, 8, 0] rfl) kont
                    · have hf := it_t hf c157
                      refine lv_aload_n hx hb dL_holds_325 rfl (lv_at hl 0 rfl) ?_
                      refine lv_iload hx hb dL_holds_326 (lv_at hl 7 rfl) ?_
                      obtain ⟨v158, hv158, hf⟩ := it_b hf
                      refine cQi (As := [.int x8]) (rest := []) (q0 := 0) (ci := 5) S (c_X5_freeForLast l D cI cN ka a1 a2 a3 a4 (h 0) (u 0) q _ kx n x8 v158 hv158) (cwV 1 hts gL_holds_X5_freeForLast rfl rfl rfl (by decide +kernel) ⟨Nat.le_of_ble_eq_true rfl, Nat.le_of_ble_eq_true rfl⟩) hK hP hS hA (P_sel [(true, (cxW ka (q 0) a1 a2 a3 a4 (h 0) (u 0) (kx.1 7)), (cxW ka (q 0) a1 a2 a3 a4 (h 0) (u 0) (kx.1 7))), (false, (hiW cI cN h hq hi), (hiW cI cN h hq hi)), (false, (txW cI u x), (txW cI u x)), (true, (nwW cI q n), (nwW cI q n))] hP) rfl rfl rfl hl.1 rfl (Nat.le_of_ble_eq_true rfl) dL_holds_328 ⟨Nat.zero_le _, Nat.zero_le _⟩ (fun H locs hP hS => ?_)
                      refine lv_iload hx hb dL_holds_331 (lv_at hl 6 rfl) ?_
                      refine lv_ishr hx hb dL_holds_333 ?_
                      refine lv_iconst (v := (1 : Int32)) hx hb dL_holds_334 kc_iconst_1 ?_
                      refine lv_iand hx hb dL_holds_335 ?_
                      refine lv_iload hx hb dL_holds_336 (lv_at hl 8 rfl) ?_
                      obtain ⟨v161, hg, hf⟩ := it_j hf
                      have hj : ∀ (H : Heap) (locs : List Loc) (ls : Array Slot), va_P D vwCl ((cxW ka (q 0) a1 a2 a3 a4 (h 0) (u 0) (kx.1 7)) ++ ((hiW cI cN h hq hi) ++ ((txW cI u x) ++ (nwW cI q n)))) H → va_S (nwA s.heap.size) s.heap H locs → lv_has ls 12 [(0, .ref ka), (1, .int x1), (2, .int x2), (4, .int x4), (5, .int (x5 + v149)), (6, .int (x6 + v151)), (7, .int x7), (8, .int x8)] → W p l e (headSpec wsL_holds rm_L_holds).room s m args below meth c H locs 0 0 Q (F0 m 351 ls [.int v161, .int ((v158 >>> (x7 &&& 31)) &&& (1 : Int32))]) := by
                        intro H locs ls hP hS hl
                        refine lv_icmp_ne (tgt := 358) hx hb dL_holds_351 (by decide) (fun c162 => ?_) (fun c162 => ?_)
                        · have hf := it_f hf c162
                          refine lv_iconst (v := (0 : Int32)) hx hb dL_holds_358 kc_iconst_0 ?_
                          refine lv_istore_n (lv' := [(3, .int (0 : Int32)), (0, .ref ka), (1, .int x1), (2, .int x2), (4, .int x4), (5, .int (x5 + v149)), (6, .int (x6 + v151)), (7, .int x7), (8, .int x8)]) hx hb dL_holds_359 rfl hl (by decide) rfl (fun ls hl => ?_)
                          refine lv_iinc (v := (x8 + (1 : Int32))) (lv' := [(8, .int (x8 + (1 : Int32))), (3, .int (0 : Int32)), (0, .ref ka), (1, .int x1), (2, .int x2), (4, .int x4), (5, .int (x5 + v149)), (6, .int (x6 + v151)), (7, .int x7)]) hx hb dL_holds_360 hl (k := 8) rfl rfl (by decide) rfl (fun ls hl => ?_)
                          refine lv_goto (tgt := 192) hx hb dL_holds_363 (by decide) ?_
                          exact ih _ _ _ _ _ hf H locs ls hP hS (lv_sub hl [2, 3, 4, 1, 5, 6, 7, 8, 0] rfl) kont
                        · have hf := it_t hf c162
                          refine lv_iconst (v := (1 : Int32)) hx hb dL_holds_354 kc_iconst_1 ?_
                          refine lv_goto (tgt := 359) hx hb dL_holds_355 (by decide) ?_
                          refine lv_istore_n (lv' := [(3, .int (1 : Int32)), (0, .ref ka), (1, .int x1), (2, .int x2), (4, .int x4), (5, .int (x5 + v149)), (6, .int (x6 + v151)), (7, .int x7), (8, .int x8)]) hx hb dL_holds_359 rfl hl (by decide) rfl (fun ls hl => ?_)
                          refine lv_iinc (v := (x8 + (1 : Int32))) (lv' := [(8, .int (x8 + (1 : Int32))), (3, .int (1 : Int32)), (0, .ref ka), (1, .int x1), (2, .int x2), (4, .int x4), (5, .int (x5 + v149)), (6, .int (x6 + v151)), (7, .int x7)]) hx hb dL_holds_360 hl (k := 8) rfl rfl (by decide) rfl (fun ls hl => ?_)
                          refine lv_goto (tgt := 192) hx hb dL_holds_363 (by decide) ?_
                          exact ih _ _ _ _ _ hf H locs ls hP hS (lv_sub hl [2, 3, 4, 1, 5, 6, 7, 8, 0] rfl) kont
                      have hf := hg
                      refine lv_if_eq (tgt := 350) hx hb dL_holds_338 (by decide) (fun c159 => ?_) (fun c159 => ?_)
                      · have hf := it_t hf c159
                        refine lv_iconst (v := (0 : Int32)) hx hb dL_holds_350 kc_iconst_0 ?_
                        have e0 := hf
                        subst e0
                        exact hj H locs ls hP hS (lv_sub hl [0, 1, 2, 3, 4, 5, 6, 7] rfl)
                      · have hf := it_f hf c159
                        refine lv_iload hx hb dL_holds_341 (lv_at hl 9 rfl) ?_
                        refine lv_if_eq (tgt := 350) hx hb dL_holds_343 (by decide) (fun c160 => ?_) (fun c160 => ?_)
                        · have hf := it_t hf c160
                          refine lv_iconst (v := (0 : Int32)) hx hb dL_holds_350 kc_iconst_0 ?_
                          have e0 := hf
                          subst e0
                          exact hj H locs ls hP hS (lv_sub hl [0, 1, 2, 3, 4, 5, 6, 7] rfl)
                        · have hf := it_f hf c160
                          refine lv_iconst (v := (1 : Int32)) hx hb dL_holds_346 kc_iconst_1 ?_
                          refine lv_goto (tgt := 351) hx hb dL_holds_347 (by decide) ?_
                          have e0 := hf
                          subst e0
                          exact hj H locs ls hP hS (lv_sub hl [0, 1, 2, 3, 4, 5, 6, 7] rfl)
                  have hf := hg
                  refine lv_if_eq (tgt := 321) hx hb dL_holds_309 (by decide) (fun c154 => ?_) (fun c154 => ?_)
                  · have hf := it_t hf c154
                    refine lv_iconst (v := (0 : Int32)) hx hb dL_holds_321 kc_iconst_0 ?_
                    have e0 := hf
                    subst e0
                    exact hj H locs ls hP hS (lv_sub hl [1, 2, 3, 5, 6, 0, 7, 8, 9, 11] rfl)
                  · have hf := it_f hf c154
                    refine lv_iload hx hb dL_holds_312 (lv_at hl 10 rfl) ?_
                    refine lv_if_eq (tgt := 321) hx hb dL_holds_314 (by decide) (fun c155 => ?_) (fun c155 => ?_)
                    · have hf := it_t hf c155
                      refine lv_iconst (v := (0 : Int32)) hx hb dL_holds_321 kc_iconst_0 ?_
                      have e0 := hf
                      subst e0
                      exact hj H locs ls hP hS (lv_sub hl [1, 2, 3, 5, 6, 0, 7, 8, 9, 11] rfl)
                    · have hf := it_f hf c155
                      refine lv_iconst (v := (1 : Int32)) hx hb dL_holds_317 kc_iconst_1 ?_
                      refine lv_goto (tgt := 322) hx hb dL_holds_318 (by decide) ?_
                      have e0 := hf
                      subst e0
                      exact hj H locs ls hP hS (lv_sub hl [1, 2, 3, 5, 6, 0, 7, 8, 9, 11] rfl)
              have hf := hg
              refine lv_if_eq (tgt := 288) hx hb dL_holds_281 (by decide) (fun c150 => ?_) (fun c150 => ?_)
              · have hf := it_t hf c150
                refine lv_iconst (v := (1 : Int32)) hx hb dL_holds_288 kc_iconst_1 ?_
                have e0 := hf
                subst e0
                exact hj H locs ls hP hS (lv_sub hl [1, 2, 3, 4, 5, 0, 7, 8, 9, 10, 11] rfl)
              · have hf := it_f hf c150
                refine lv_iconst (v := (0 : Int32)) hx hb dL_holds_284 kc_iconst_0 ?_
                refine lv_goto (tgt := 289) hx hb dL_holds_285 (by decide) ?_
                have e0 := hf
                subst e0
                exact hj H locs ls hP hS (lv_sub hl [1, 2, 3, 4, 5, 0, 7, 8, 9, 10, 11] rfl)
            have hf := hg
            refine lv_if_eq (tgt := 273) hx hb dL_holds_266 (by decide) (fun c148 => ?_) (fun c148 => ?_)
            · have hf := it_t hf c148
              refine lv_iconst (v := (1 : Int32)) hx hb dL_holds_273 kc_iconst_1 ?_
              have e0 := hf
              subst e0
              exact hj H locs ls hP hS (lv_sub hl [1, 2, 3, 4, 5, 7, 8, 9, 10, 11, 0] rfl)
            · have hf := it_f hf c148
              refine lv_iconst (v := (0 : Int32)) hx hb dL_holds_269 kc_iconst_0 ?_
              refine lv_goto (tgt := 274) hx hb dL_holds_270 (by decide) ?_
              have e0 := hf
              subst e0
              exact hj H locs ls hP hS (lv_sub hl [1, 2, 3, 4, 5, 7, 8, 9, 10, 11, 0] rfl)
          have hf := hg
          refine lv_icmp_ne (tgt := 259) hx hb dL_holds_252 (by decide) (fun c146 => ?_) (fun c146 => ?_)
          · have hf := it_f hf c146
            refine lv_iconst (v := (0 : Int32)) hx hb dL_holds_259 kc_iconst_0 ?_
            have e0 := hf
            subst e0
            exact hj H locs ls hP hS (lv_sub hl [1, 2, 3, 4, 5, 6, 7, 8, 9, 10, 0] rfl)
          · have hf := it_t hf c146
            refine lv_iconst (v := (1 : Int32)) hx hb dL_holds_255 kc_iconst_1 ?_
            refine lv_goto (tgt := 260) hx hb dL_holds_256 (by decide) ?_
            have e0 := hf
            subst e0
            exact hj H locs ls hP hS (lv_sub hl [1, 2, 3, 4, 5, 6, 7, 8, 9, 10, 0] rfl)
        have hf := hg
        refine lv_icmp_ne (tgt := 239) hx hb dL_holds_232 (by decide) (fun c144 => ?_) (fun c144 => ?_)
        · have hf := it_f hf c144
          refine lv_iconst (v := (0 : Int32)) hx hb dL_holds_239 kc_iconst_0 ?_
          have e0 := hf
          subst e0
          exact hj H locs ls hP hS (lv_sub hl [1, 2, 3, 4, 5, 6, 7, 8, 9, 0] rfl)
        · have hf := it_t hf c144
          refine lv_iconst (v := (1 : Int32)) hx hb dL_holds_235 kc_iconst_1 ?_
          refine lv_goto (tgt := 240) hx hb dL_holds_236 (by decide) ?_
          have e0 := hf
          subst e0
          exact hj H locs ls hP hS (lv_sub hl [1, 2, 3, 4, 5, 6, 7, 8, 9, 0] rfl)
      have hf := hg
      refine lv_icmp_ne (tgt := 219) hx hb dL_holds_212 (by decide) (fun c142 => ?_) (fun c142 => ?_)
      · have hf := it_f hf c142
        refine lv_iconst (v := (0 : Int32)) hx hb dL_holds_219 kc_iconst_0 ?_
        have e0 := hf
        subst e0
        exact hj H locs ls hP hS (lv_sub hl [0, 1, 2, 3, 4, 5, 6, 7, 8] rfl)
      · have hf := it_t hf c142
        refine lv_iconst (v := (1 : Int32)) hx hb dL_holds_215 kc_iconst_1 ?_
        refine lv_goto (tgt := 220) hx hb dL_holds_216 (by decide) ?_
        have e0 := hf
        subst e0
        exact hj H locs ls hP hS (lv_sub hl [0, 1, 2, 3, 4, 5, 6, 7, 8] rfl)
set_option maxRecDepth 100000 in
set_option maxHeartbeats 4000000 in
theorem w_L_holds_168 {p : Program} {l : Launch} {e : Env} {s : State} {m : MethodId} {args : Array Value} {below : List Frame} {meth : Method} {c : Code} {Q : State → Prop} {D : va_G} {cI cN : ClassId} {ka a1 a2 a3 a4 : Nat} {h : Nat → Nat} {hq : Nat → Nat → Nat} {u : Nat → Nat} {q : Nat → Nat} (S : CallFix p m c cL_holds 12 s args wsL_holds RL) (hK : KN D cI cN s) {kx : OS} {hi : HS} {x : OS} {n : OS} {x1 : Int32} {x2 : Int32} {r0 : Int32} (hret : ∀ (H : Heap) (locs : List Loc) (ls : Array Slot) (pc : Nat), decode cL_holds pc = .ok (.ireturn, 1) → narrow .boolean (.int r0) = .int r0 → va_S (nwA s.heap.size) s.heap H locs → W p l e (headSpec wsL_holds rm_L_holds).room s m args below meth c H locs 0 0 Q (F0 m pc ls [.int r0])) : ∀ (k : Nat) (x3 : Int32) (x4 : Int32) (x5 : Int32) (x6 : Int32) (x7 : Int32), fL_holds_168 kx hi x n x1 x2 k x3 x4 x5 x6 x7 = some r0 → ∀ (H : Heap) (locs : List Loc) (ls : Array Slot), va_P D vwCl ((cxW ka (q 0) a1 a2 a3 a4 (h 0) (u 0) (kx.1 7)) ++ ((hiW cI cN h hq hi) ++ ((txW cI u x) ++ (nwW cI q n)))) H → va_S (nwA s.heap.size) s.heap H locs → lv_has ls 12 [(0, .ref ka), (1, .int x1), (2, .int x2), (3, .int x3), (4, .int x4), (5, .int x5), (6, .int x6), (7, .int x7)] → W p l e (headSpec wsL_holds rm_L_holds).room s m args below meth c H locs 0 0 Q (F0 m 168 ls []) := by
  obtain ⟨hx, hb, hml, hown, hts⟩ := id S
  have hA : ∀ q : Nat, s.heap.size ≤ q → nwA s.heap.size q := fun _ h => h
  intro k
  induction k with
  | zero => intro x3 x4 x5 x6 x7 hf; rw [fL_holds_168_z] at hf; cases hf
  | succ k ih =>
    intro x3 x4 x5 x6 x7 hf H locs ls hP hS hl
    rw [fL_holds_168_s] at hf
    refine lv_iload hx hb dL_holds_168 (lv_at hl 7 rfl) ?_
    refine lv_aload_n hx hb dL_holds_170 rfl (lv_at hl 0 rfl) ?_
    refine lv_iconst (v := (2 : Int32)) hx hb dL_holds_171 kc_iconst_2 ?_
    obtain ⟨v4, hv4, hf⟩ := it_b hf
    refine cQi (As := [.int (2 : Int32)]) (rest := [.int x7]) (q0 := 0) (ci := 5) S (c_X5_total l D cI cN ka a1 a2 a3 a4 h hq u q _ kx hi x n (2 : Int32) v4 hv4) (cwV 1 hts gL_holds_X5_total rfl rfl rfl (by decide +kernel) ⟨Nat.le_of_ble_eq_true rfl, Nat.le_of_ble_eq_true rfl⟩) hK hP hS hA hP rfl rfl rfl hl.1 rfl (Nat.le_of_ble_eq_true rfl) dL_holds_172 ⟨Nat.zero_le _, Nat.zero_le _⟩ (fun H locs hP hS => ?_)
    refine lv_icmp_ge (tgt := 372) hx hb dL_holds_175 (by decide) (fun c5 => ?_) (fun c5 => ?_)
    · have hf := it_t hf c5
      refine lv_aload_n hx hb dL_holds_372 rfl (lv_at hl 0 rfl) ?_
      obtain ⟨v6, hv6, hf⟩ := it_b hf
      refine cQi (As := []) (rest := []) (q0 := 0) (ci := 5) S (c_X5_leastMiddles l D cI cN ka a1 a2 a3 a4 (h 0) (u 0) q _ kx n v6 hv6) (cwV 0 hts gL_holds_X5_leastMiddles rfl rfl rfl (by decide +kernel) ⟨Nat.le_of_ble_eq_true rfl, Nat.le_of_ble_eq_true rfl⟩) hK hP hS hA (P_sel [(true, (cxW ka (q 0) a1 a2 a3 a4 (h 0) (u 0) (kx.1 7)), (cxW ka (q 0) a1 a2 a3 a4 (h 0) (u 0) (kx.1 7))), (false, (hiW cI cN h hq hi), (hiW cI cN h hq hi)), (false, (txW cI u x), (txW cI u x)), (true, (nwW cI q n), (nwW cI q n))] hP) rfl rfl rfl hl.1 rfl (Nat.le_of_ble_eq_true rfl) dL_holds_373 ⟨Nat.zero_le _, Nat.zero_le _⟩ (fun H locs hP hS => ?_)
      refine lv_aload_n hx hb dL_holds_376 rfl (lv_at hl 0 rfl) ?_
      refine cQi (As := []) (rest := [.int v6]) (q0 := 0) (ci := 5) S (c_X5_inService l D cI cN ka a1 a2 a3 a4 (h 0) (u 0) q _ kx n (fX5_inService kx n) rfl) (cwV 0 hts gL_holds_X5_inService rfl rfl rfl (by decide +kernel) ⟨Nat.le_of_ble_eq_true rfl, Nat.le_of_ble_eq_true rfl⟩) hK hP hS hA (P_sel [(true, (cxW ka (q 0) a1 a2 a3 a4 (h 0) (u 0) (kx.1 7)), (cxW ka (q 0) a1 a2 a3 a4 (h 0) (u 0) (kx.1 7))), (false, (hiW cI cN h hq hi), (hiW cI cN h hq hi)), (false, (txW cI u x), (txW cI u x)), (true, (nwW cI q n), (nwW cI q n))] hP) rfl rfl rfl hl.1 rfl (Nat.le_of_ble_eq_true rfl) dL_holds_377 ⟨Nat.zero_le _, Nat.zero_le _⟩ (fun H locs hP hS => ?_)
      obtain ⟨v7, hv7, hf⟩ := it_b hf
      refine cTi (As := [.int (fX5_inService kx n)]) (rest := [.int v6]) S (c_L_bits l D cI cN _ (fX5_inService kx n) v7 hv7) (va_cwS 1 hts gL_holds_L_bits rfl rfl rfl (by decide +kernel) ⟨Nat.le_of_ble_eq_true rfl, Nat.le_of_ble_eq_true rfl⟩) hK hP hS hA (P_nil hP) rfl hl.1 rfl (Nat.le_of_ble_eq_true rfl) dL_holds_380 ⟨Nat.zero_le _, Nat.zero_le _⟩ (fun H locs hP hS => ?_)
      refine lv_icmp_gt (tgt := 422) hx hb dL_holds_383 (by decide) (fun c8 => ?_) (fun c8 => ?_)
      · have hf := it_t hf c8
        refine lv_iconst (v := (0 : Int32)) hx hb dL_holds_422 kc_iconst_0 ?_
        refine lv_istore (lv' := [(7, .int (0 : Int32)), (0, .ref ka), (1, .int x1), (2, .int x2), (3, .int x3), (4, .int x4), (5, .int x5), (6, .int x6)]) hx hb dL_holds_423 hl (by decide) rfl (fun ls hl => ?_)
        refine lv_iload_n hx hb dL_holds_425 rfl (lv_at hl 4 rfl) ?_
        refine lv_if_eq (tgt := 493) hx hb dL_holds_426 (by decide) (fun c9 => ?_) (fun c9 => ?_)
        · have hf := it_t hf c9
          refine lv_iconst (v := (0 : Int32)) hx hb dL_holds_493 kc_iconst_0 ?_
          have e0 : (0 : Int32) = r0 := (Option.some.inj hf)
          subst e0
          exact hret H locs ls _ dL_holds_494 (by first | rfl | (split <;> rfl) | (split <;> (first | rfl | (split <;> rfl))) | assumption) hS
        · have hf := it_f hf c9
          refine lv_iload hx hb dL_holds_429 (lv_at hl 0 rfl) ?_
          refine lv_if_eq (tgt := 493) hx hb dL_holds_431 (by decide) (fun c10 => ?_) (fun c10 => ?_)
          · have hf := it_t hf c10
            refine lv_iconst (v := (0 : Int32)) hx hb dL_holds_493 kc_iconst_0 ?_
            have e0 : (0 : Int32) = r0 := (Option.some.inj hf)
            subst e0
            exact hret H locs ls _ dL_holds_494 (by first | rfl | (split <;> rfl) | (split <;> (first | rfl | (split <;> rfl))) | assumption) hS
          · have hf := it_f hf c10
            refine lv_iload_n hx hb dL_holds_434 rfl (lv_at hl 3 rfl) ?_
            refine lv_aload_n hx hb dL_holds_435 rfl (lv_at hl 1 rfl) ?_
            refine lv_iconst (v := (5 : Int32)) hx hb dL_holds_436 kc_iconst_5 ?_
            obtain ⟨v11, hv11, hf⟩ := it_b hf
            refine cQi (As := [.int (5 : Int32)]) (rest := [.int x2]) (q0 := 0) (ci := 5) S (c_X5_total l D cI cN ka a1 a2 a3 a4 h hq u q _ kx hi x n (5 : Int32) v11 hv11) (cwV 1 hts gL_holds_X5_total rfl rfl rfl (by decide +kernel) ⟨Nat.le_of_ble_eq_true rfl, Nat.le_of_ble_eq_true rfl⟩) hK hP hS hA hP rfl rfl rfl hl.1 rfl (Nat.le_of_ble_eq_true rfl) dL_holds_437 ⟨Nat.zero_le _, Nat.zero_le _⟩ (fun H locs hP hS => ?_)
            refine lv_icmp_ne (tgt := 493) hx hb dL_holds_440 (by decide) (fun c12 => ?_) (fun c12 => ?_)
            · have hf := it_f hf c12
              refine lv_iconst (v := (0 : Int32)) hx hb dL_holds_493 kc_iconst_0 ?_
              have e0 : (0 : Int32) = r0 := (Option.some.inj hf)
              subst e0
              exact hret H locs ls _ dL_holds_494 (by first | rfl | (split <;> rfl) | (split <;> (first | rfl | (split <;> rfl))) | assumption) hS
            · have hf := it_t hf c12
              refine lv_iload hx hb dL_holds_443 (lv_at hl 5 rfl) ?_
              refine lv_iload_n hx hb dL_holds_445 rfl (lv_at hl 3 rfl) ?_
              refine lv_icmp_ne (tgt := 493) hx hb dL_holds_446 (by decide) (fun c13 => ?_) (fun c13 => ?_)
              · have hf := it_f hf c13
                refine lv_iconst (v := (0 : Int32)) hx hb dL_holds_493 kc_iconst_0 ?_
                have e0 : (0 : Int32) = r0 := (Option.some.inj hf)
                subst e0
                exact hret H locs ls _ dL_holds_494 (by first | rfl | (split <;> rfl) | (split <;> (first | rfl | (split <;> rfl))) | assumption) hS
              · have hf := it_t hf c13
                refine lv_iload hx hb dL_holds_449 (lv_at hl 6 rfl) ?_
                refine lv_iload_n hx hb dL_holds_451 rfl (lv_at hl 3 rfl) ?_
                refine lv_icmp_ne (tgt := 493) hx hb dL_holds_452 (by decide) (fun c14 => ?_) (fun c14 => ?_)
                · have hf := it_f hf c14
                  refine lv_iconst (v := (0 : Int32)) hx hb dL_holds_493 kc_iconst_0 ?_
                  have e0 : (0 : Int32) = r0 := (Option.some.inj hf)
                  subst e0
                  exact hret H locs ls _ dL_holds_494 (by first | rfl | (split <;> rfl) | (split <;> (first | rfl | (split <;> rfl))) | assumption) hS
                · have hf := it_t hf c14
                  refine lv_iload hx hb dL_holds_455 (lv_at hl 7 rfl) ?_
                  refine lv_iload_n hx hb dL_holds_457 rfl (lv_at hl 3 rfl) ?_
                  refine lv_icmp_ne (tgt := 493) hx hb dL_holds_458 (by decide) (fun c15 => ?_) (fun c15 => ?_)
                  · have hf := it_f hf c15
                    refine lv_iconst (v := (0 : Int32)) hx hb dL_holds_493 kc_iconst_0 ?_
                    have e0 : (0 : Int32) = r0 := (Option.some.inj hf)
                    subst e0
                    exact hret H locs ls _ dL_holds_494 (by first | rfl | (split <;> rfl) | (split <;> (first | rfl | (split <;> rfl))) | assumption) hS
                  · have hf := it_t hf c15
                    refine lv_aload_n hx hb dL_holds_461 rfl (lv_at hl 1 rfl) ?_
                    refine lv_bipush (v := (6 : Int32)) hx hb dL_holds_462 kc_bipush_6 ?_
                    obtain ⟨v16, hv16, hf⟩ := it_b hf
                    refine cQi (As := [.int (6 : Int32)]) (rest := []) (q0 := 0) (ci := 5) S (c_X5_total l D cI cN ka a1 a2 a3 a4 h hq u q _ kx hi x n (6 : Int32) v16 hv16) (cwV 1 hts gL_holds_X5_total rfl rfl rfl (by decide +kernel) ⟨Nat.le_of_ble_eq_true rfl, Nat.le_of_ble_eq_true rfl⟩) hK hP hS hA hP rfl rfl rfl hl.1 rfl (Nat.le_of_ble_eq_true rfl) dL_holds_464 ⟨Nat.zero_le _, Nat.zero_le _⟩ (fun H locs hP hS => ?_)
                    refine lv_aload_n hx hb dL_holds_467 rfl (lv_at hl 1 rfl) ?_
                    refine lv_iconst (v := (5 : Int32)) hx hb dL_holds_468 kc_iconst_5 ?_
                    obtain ⟨v17, hv17, hf⟩ := it_b hf
                    refine cQi (As := [.int (5 : Int32)]) (rest := [.int v16]) (q0 := 0) (ci := 5) S (c_X5_total l D cI cN ka a1 a2 a3 a4 h hq u q _ kx hi x n (5 : Int32) v17 hv17) (cwV 1 hts gL_holds_X5_total rfl rfl rfl (by decide +kernel) ⟨Nat.le_of_ble_eq_true rfl, Nat.le_of_ble_eq_true rfl⟩) hK hP hS hA hP rfl rfl rfl hl.1 rfl (Nat.le_of_ble_eq_true rfl) dL_holds_469 ⟨Nat.zero_le _, Nat.zero_le _⟩ (fun H locs hP hS => ?_)
                    refine lv_aload_n hx hb dL_holds_472 rfl (lv_at hl 1 rfl) ?_
                    refine lv_bipush (v := (7 : Int32)) hx hb dL_holds_473 kc_bipush_7 ?_
                    obtain ⟨v18, hv18, hf⟩ := it_b hf
                    refine cQi (As := [.int (7 : Int32)]) (rest := [.int v17, .int v16]) (q0 := 0) (ci := 5) S (c_X5_total l D cI cN ka a1 a2 a3 a4 h hq u q _ kx hi x n (7 : Int32) v18 hv18) (cwV 1 hts gL_holds_X5_total rfl rfl rfl (by decide +kernel) ⟨Nat.le_of_ble_eq_true rfl, Nat.le_of_ble_eq_true rfl⟩) hK hP hS hA hP rfl rfl rfl hl.1 rfl (Nat.le_of_ble_eq_true rfl) dL_holds_475 ⟨Nat.zero_le _, Nat.zero_le _⟩ (fun H locs hP hS => ?_)
                    refine lv_iadd hx hb dL_holds_478 ?_
                    refine lv_aload_n hx hb dL_holds_479 rfl (lv_at hl 1 rfl) ?_
                    refine lv_bipush (v := (8 : Int32)) hx hb dL_holds_480 kc_bipush_8 ?_
                    obtain ⟨v19, hv19, hf⟩ := it_b hf
                    refine cQi (As := [.int (8 : Int32)]) (rest := [.int (v17 + v18), .int v16]) (q0 := 0) (ci := 5) S (c_X5_total l D cI cN ka a1 a2 a3 a4 h hq u q _ kx hi x n (8 : Int32) v19 hv19) (cwV 1 hts gL_holds_X5_total rfl rfl rfl (by decide +kernel) ⟨Nat.le_of_ble_eq_true rfl, Nat.le_of_ble_eq_true rfl⟩) hK hP hS hA hP rfl rfl rfl hl.1 rfl (Nat.le_of_ble_eq_true rfl) dL_holds_482 ⟨Nat.zero_le _, Nat.zero_le _⟩ (fun H locs hP hS => ?_)
                    refine lv_iadd hx hb dL_holds_485 ?_
                    refine lv_icmp_ne (tgt := 493) hx hb dL_holds_486 (by decide) (fun c20 => ?_) (fun c20 => ?_)
                    · have hf := it_f hf c20
                      refine lv_iconst (v := (0 : Int32)) hx hb dL_holds_493 kc_iconst_0 ?_
                      have e0 : (0 : Int32) = r0 := (Option.some.inj hf)
                      subst e0
                      exact hret H locs ls _ dL_holds_494 (by first | rfl | (split <;> rfl) | (split <;> (first | rfl | (split <;> rfl))) | assumption) hS
                    · have hf := it_t hf c20
                      refine lv_iconst (v := (1 : Int32)) hx hb dL_holds_489 kc_iconst_1 ?_
                      refine lv_goto (tgt := 494) hx hb dL_holds_490 (by decide) ?_
                      have e0 : (1 : Int32) = r0 := (Option.some.inj hf)
                      subst e0
                      exact hret H locs ls _ dL_holds_494 (by first | rfl | (split <;> rfl) | (split <;> (first | rfl | (split <;> rfl))) | assumption) hS
      · have hf := it_f hf c8
        refine lv_aload_n hx hb dL_holds_386 rfl (lv_at hl 0 rfl) ?_
        obtain ⟨v21, hv21, hf⟩ := it_b hf
        refine cQi (As := []) (rest := []) (q0 := 0) (ci := 5) S (c_X5_leastMiddles l D cI cN ka a1 a2 a3 a4 (h 0) (u 0) q _ kx n v21 hv21) (cwV 0 hts gL_holds_X5_leastMiddles rfl rfl rfl (by decide +kernel) ⟨Nat.le_of_ble_eq_true rfl, Nat.le_of_ble_eq_true rfl⟩) hK hP hS hA (P_sel [(true, (cxW ka (q 0) a1 a2 a3 a4 (h 0) (u 0) (kx.1 7)), (cxW ka (q 0) a1 a2 a3 a4 (h 0) (u 0) (kx.1 7))), (false, (hiW cI cN h hq hi), (hiW cI cN h hq hi)), (false, (txW cI u x), (txW cI u x)), (true, (nwW cI q n), (nwW cI q n))] hP) rfl rfl rfl hl.1 rfl (Nat.le_of_ble_eq_true rfl) dL_holds_387 ⟨Nat.zero_le _, Nat.zero_le _⟩ (fun H locs hP hS => ?_)
        refine lv_iload_n hx hb dL_holds_390 rfl (lv_at hl 1 rfl) ?_
        refine lv_icmp_gt (tgt := 422) hx hb dL_holds_391 (by decide) (fun c22 => ?_) (fun c22 => ?_)
        · have hf := it_t hf c22
          refine lv_iconst (v := (0 : Int32)) hx hb dL_holds_422 kc_iconst_0 ?_
          refine lv_istore (lv' := [(7, .int (0 : Int32)), (0, .ref ka), (1, .int x1), (2, .int x2), (3, .int x3), (4, .int x4), (5, .int x5), (6, .int x6)]) hx hb dL_holds_423 hl (by decide) rfl (fun ls hl => ?_)
          refine lv_iload_n hx hb dL_holds_425 rfl (lv_at hl 4 rfl) ?_
          refine lv_if_eq (tgt := 493) hx hb dL_holds_426 (by decide) (fun c23 => ?_) (fun c23 => ?_)
          · have hf := it_t hf c23
            refine lv_iconst (v := (0 : Int32)) hx hb dL_holds_493 kc_iconst_0 ?_
            have e0 : (0 : Int32) = r0 := (Option.some.inj hf)
            subst e0
            exact hret H locs ls _ dL_holds_494 (by first | rfl | (split <;> rfl) | (split <;> (first | rfl | (split <;> rfl))) | assumption) hS
          · have hf := it_f hf c23
            refine lv_iload hx hb dL_holds_429 (lv_at hl 0 rfl) ?_
            refine lv_if_eq (tgt := 493) hx hb dL_holds_431 (by decide) (fun c24 => ?_) (fun c24 => ?_)
            · have hf := it_t hf c24
              refine lv_iconst (v := (0 : Int32)) hx hb dL_holds_493 kc_iconst_0 ?_
              have e0 : (0 : Int32) = r0 := (Option.some.inj hf)
              subst e0
              exact hret H locs ls _ dL_holds_494 (by first | rfl | (split <;> rfl) | (split <;> (first | rfl | (split <;> rfl))) | assumption) hS
            · have hf := it_f hf c24
              refine lv_iload_n hx hb dL_holds_434 rfl (lv_at hl 3 rfl) ?_
              refine lv_aload_n hx hb dL_holds_435 rfl (lv_at hl 1 rfl) ?_
              refine lv_iconst (v := (5 : Int32)) hx hb dL_holds_436 kc_iconst_5 ?_
              obtain ⟨v25, hv25, hf⟩ := it_b hf
              refine cQi (As := [.int (5 : Int32)]) (rest := [.int x2]) (q0 := 0) (ci := 5) S (c_X5_total l D cI cN ka a1 a2 a3 a4 h hq u q _ kx hi x n (5 : Int32) v25 hv25) (cwV 1 hts gL_holds_X5_total rfl rfl rfl (by decide +kernel) ⟨Nat.le_of_ble_eq_true rfl, Nat.le_of_ble_eq_true rfl⟩) hK hP hS hA hP rfl rfl rfl hl.1 rfl (Nat.le_of_ble_eq_true rfl) dL_holds_437 ⟨Nat.zero_le _, Nat.zero_le _⟩ (fun H locs hP hS => ?_)
              refine lv_icmp_ne (tgt := 493) hx hb dL_holds_440 (by decide) (fun c26 => ?_) (fun c26 => ?_)
              · have hf := it_f hf c26
                refine lv_iconst (v := (0 : Int32)) hx hb dL_holds_493 kc_iconst_0 ?_
                have e0 : (0 : Int32) = r0 := (Option.some.inj hf)
                subst e0
                exact hret H locs ls _ dL_holds_494 (by first | rfl | (split <;> rfl) | (split <;> (first | rfl | (split <;> rfl))) | assumption) hS
              · have hf := it_t hf c26
                refine lv_iload hx hb dL_holds_443 (lv_at hl 5 rfl) ?_
                refine lv_iload_n hx hb dL_holds_445 rfl (lv_at hl 3 rfl) ?_
                refine lv_icmp_ne (tgt := 493) hx hb dL_holds_446 (by decide) (fun c27 => ?_) (fun c27 => ?_)
                · have hf := it_f hf c27
                  refine lv_iconst (v := (0 : Int32)) hx hb dL_holds_493 kc_iconst_0 ?_
                  have e0 : (0 : Int32) = r0 := (Option.some.inj hf)
                  subst e0
                  exact hret H locs ls _ dL_holds_494 (by first | rfl | (split <;> rfl) | (split <;> (first | rfl | (split <;> rfl))) | assumption) hS
                · have hf := it_t hf c27
                  refine lv_iload hx hb dL_holds_449 (lv_at hl 6 rfl) ?_
                  refine lv_iload_n hx hb dL_holds_451 rfl (lv_at hl 3 rfl) ?_
                  refine lv_icmp_ne (tgt := 493) hx hb dL_holds_452 (by decide) (fun c28 => ?_) (fun c28 => ?_)
                  · have hf := it_f hf c28
                    refine lv_iconst (v := (0 : Int32)) hx hb dL_holds_493 kc_iconst_0 ?_
                    have e0 : (0 : Int32) = r0 := (Option.some.inj hf)
                    subst e0
                    exact hret H locs ls _ dL_holds_494 (by first | rfl | (split <;> rfl) | (split <;> (first | rfl | (split <;> rfl))) | assumption) hS
                  · have hf := it_t hf c28
                    refine lv_iload hx hb dL_holds_455 (lv_at hl 7 rfl) ?_
                    refine lv_iload_n hx hb dL_holds_457 rfl (lv_at hl 3 rfl) ?_
                    refine lv_icmp_ne (tgt := 493) hx hb dL_holds_458 (by decide) (fun c29 => ?_) (fun c29 => ?_)
                    · have hf := it_f hf c29
                      refine lv_iconst (v := (0 : Int32)) hx hb dL_holds_493 kc_iconst_0 ?_
                      have e0 : (0 : Int32) = r0 := (Option.some.inj hf)
                      subst e0
                      exact hret H locs ls _ dL_holds_494 (by first | rfl | (split <;> rfl) | (split <;> (first | rfl | (split <;> rfl))) | assumption) hS
                    · have hf := it_t hf c29
                      refine lv_aload_n hx hb dL_holds_461 rfl (lv_at hl 1 rfl) ?_
                      refine lv_bipush (v := (6 : Int32)) hx hb dL_holds_462 kc_bipush_6 ?_
                      obtain ⟨v30, hv30, hf⟩ := it_b hf
                      refine cQi (As := [.int (6 : Int32)]) (rest := []) (q0 := 0) (ci := 5) S (c_X5_total l D cI cN ka a1 a2 a3 a4 h hq u q _ kx hi x n (6 : Int32) v30 hv30) (cwV 1 hts gL_holds_X5_total rfl rfl rfl (by decide +kernel) ⟨Nat.le_of_ble_eq_true rfl, Nat.le_of_ble_eq_true rfl⟩) hK hP hS hA hP rfl rfl rfl hl.1 rfl (Nat.le_of_ble_eq_true rfl) dL_holds_464 ⟨Nat.zero_le _, Nat.zero_le _⟩ (fun H locs hP hS => ?_)
                      refine lv_aload_n hx hb dL_holds_467 rfl (lv_at hl 1 rfl) ?_
                      refine lv_iconst (v := (5 : Int32)) hx hb dL_holds_468 kc_iconst_5 ?_
                      obtain ⟨v31, hv31, hf⟩ := it_b hf
                      refine cQi (As := [.int (5 : Int32)]) (rest := [.int v30]) (q0 := 0) (ci := 5) S (c_X5_total l D cI cN ka a1 a2 a3 a4 h hq u q _ kx hi x n (5 : Int32) v31 hv31) (cwV 1 hts gL_holds_X5_total rfl rfl rfl (by decide +kernel) ⟨Nat.le_of_ble_eq_true rfl, Nat.le_of_ble_eq_true rfl⟩) hK hP hS hA hP rfl rfl rfl hl.1 rfl (Nat.le_of_ble_eq_true rfl) dL_holds_469 ⟨Nat.zero_le _, Nat.zero_le _⟩ (fun H locs hP hS => ?_)
                      refine lv_aload_n hx hb dL_holds_472 rfl (lv_at hl 1 rfl) ?_
                      refine lv_bipush (v := (7 : Int32)) hx hb dL_holds_473 kc_bipush_7 ?_
                      obtain ⟨v32, hv32, hf⟩ := it_b hf
                      refine cQi (As := [.int (7 : Int32)]) (rest := [.int v31, .int v30]) (q0 := 0) (ci := 5) S (c_X5_total l D cI cN ka a1 a2 a3 a4 h hq u q _ kx hi x n (7 : Int32) v32 hv32) (cwV 1 hts gL_holds_X5_total rfl rfl rfl (by decide +kernel) ⟨Nat.le_of_ble_eq_true rfl, Nat.le_of_ble_eq_true rfl⟩) hK hP hS hA hP rfl rfl rfl hl.1 rfl (Nat.le_of_ble_eq_true rfl) dL_holds_475 ⟨Nat.zero_le _, Nat.zero_le _⟩ (fun H locs hP hS => ?_)
                      refine lv_iadd hx hb dL_holds_478 ?_
                      refine lv_aload_n hx hb dL_holds_479 rfl (lv_at hl 1 rfl) ?_
                      refine lv_bipush (v := (8 : Int32)) hx hb dL_holds_480 kc_bipush_8 ?_
                      obtain ⟨v33, hv33, hf⟩ := it_b hf
                      refine cQi (As := [.int (8 : Int32)]) (rest := [.int (v31 + v32), .int v30]) (q0 := 0) (ci := 5) S (c_X5_total l D cI cN ka a1 a2 a3 a4 h hq u q _ kx hi x n (8 : Int32) v33 hv33) (cwV 1 hts gL_holds_X5_total rfl rfl rfl (by decide +kernel) ⟨Nat.le_of_ble_eq_true rfl, Nat.le_of_ble_eq_true rfl⟩) hK hP hS hA hP rfl rfl rfl hl.1 rfl (Nat.le_of_ble_eq_true rfl) dL_holds_482 ⟨Nat.zero_le _, Nat.zero_le _⟩ (fun H locs hP hS => ?_)
                      refine lv_iadd hx hb dL_holds_485 ?_
                      refine lv_icmp_ne (tgt := 493) hx hb dL_holds_486 (by decide) (fun c34 => ?_) (fun c34 => ?_)
                      · have hf := it_f hf c34
                        refine lv_iconst (v := (0 : Int32)) hx hb dL_holds_493 kc_iconst_0 ?_
                        have e0 : (0 : Int32) = r0 := (Option.some.inj hf)
                        subst e0
                        exact hret H locs ls _ dL_holds_494 (by first | rfl | (split <;> rfl) | (split <;> (first | rfl | (split <;> rfl))) | assumption) hS
                      · have hf := it_t hf c34
                        refine lv_iconst (v := (1 : Int32)) hx hb dL_holds_489 kc_iconst_1 ?_
                        refine lv_goto (tgt := 494) hx hb dL_holds_490 (by decide) ?_
                        have e0 : (1 : Int32) = r0 := (Option.some.inj hf)
                        subst e0
                        exact hret H locs ls _ dL_holds_494 (by first | rfl | (split <;> rfl) | (split <;> (first | rfl | (split <;> rfl))) | assumption) hS
        · have hf := it_f hf c22
          refine lv_aload_n hx hb dL_holds_394 rfl (lv_at hl 0 rfl) ?_
          obtain ⟨v35, hv35, hf⟩ := it_b hf
          refine cQi (As := []) (rest := []) (q0 := 0) (ci := 5) S (c_X5_leastMiddles l D cI cN ka a1 a2 a3 a4 (h 0) (u 0) q _ kx n v35 hv35) (cwV 0 hts gL_holds_X5_leastMiddles rfl rfl rfl (by decide +kernel) ⟨Nat.le_of_ble_eq_true rfl, Nat.le_of_ble_eq_true rfl⟩) hK hP hS hA (P_sel [(true, (cxW ka (q 0) a1 a2 a3 a4 (h 0) (u 0) (kx.1 7)), (cxW ka (q 0) a1 a2 a3 a4 (h 0) (u 0) (kx.1 7))), (false, (hiW cI cN h hq hi), (hiW cI cN h hq hi)), (false, (txW cI u x), (txW cI u x)), (true, (nwW cI q n), (nwW cI q n))] hP) rfl rfl rfl hl.1 rfl (Nat.le_of_ble_eq_true rfl) dL_holds_395 ⟨Nat.zero_le _, Nat.zero_le _⟩ (fun H locs hP hS => ?_)
          refine lv_if_le (tgt := 405) hx hb dL_holds_398 (by decide) (fun c36 => ?_) (fun c36 => ?_)
          · have hf := it_t hf c36
            refine lv_iconst (v := (0 : Int32)) hx hb dL_holds_405 kc_iconst_0 ?_
            refine lv_iload_n hx hb dL_holds_406 rfl (lv_at hl 2 rfl) ?_
            refine lv_if_le (tgt := 414) hx hb dL_holds_407 (by decide) (fun c37 => ?_) (fun c37 => ?_)
            · have hf := it_t hf c37
              refine lv_iconst (v := (0 : Int32)) hx hb dL_holds_414 kc_iconst_0 ?_
              refine lv_icmp_ne (tgt := 422) hx hb dL_holds_415 (by decide) (fun c38 => ?_) (fun c38 => ?_)
              · have hf := it_f hf c38
                refine lv_iconst (v := (0 : Int32)) hx hb dL_holds_422 kc_iconst_0 ?_
                refine lv_istore (lv' := [(7, .int (0 : Int32)), (0, .ref ka), (1, .int x1), (2, .int x2), (3, .int x3), (4, .int x4), (5, .int x5), (6, .int x6)]) hx hb dL_holds_423 hl (by decide) rfl (fun ls hl => ?_)
                refine lv_iload_n hx hb dL_holds_425 rfl (lv_at hl 4 rfl) ?_
                refine lv_if_eq (tgt := 493) hx hb dL_holds_426 (by decide) (fun c39 => ?_) (fun c39 => ?_)
                · have hf := it_t hf c39
                  refine lv_iconst (v := (0 : Int32)) hx hb dL_holds_493 kc_iconst_0 ?_
                  have e0 : (0 : Int32) = r0 := (Option.some.inj hf)
                  subst e0
                  exact hret H locs ls _ dL_holds_494 (by first | rfl | (split <;> rfl) | (split <;> (first | rfl | (split <;> rfl))) | assumption) hS
                · have hf := it_f hf c39
                  refine lv_iload hx hb dL_holds_429 (lv_at hl 0 rfl) ?_
                  refine lv_if_eq (tgt := 493) hx hb dL_holds_431 (by decide) (fun c40 => ?_) (fun c40 => ?_)
                  · have hf := it_t hf c40
                    refine lv_iconst (v := (0 : Int32)) hx hb dL_holds_493 kc_iconst_0 ?_
                    have e0 : (0 : Int32) = r0 := (Option.some.inj hf)
                    subst e0
                    exact hret H locs ls _ dL_holds_494 (by first | rfl | (split <;> rfl) | (split <;> (first | rfl | (split <;> rfl))) | assumption) hS
                  · have hf := it_f hf c40
                    refine lv_iload_n hx hb dL_holds_434 rfl (lv_at hl 3 rfl) ?_
                    refine lv_aload_n hx hb dL_holds_435 rfl (lv_at hl 1 rfl) ?_
                    refine lv_iconst (v := (5 : Int32)) hx hb dL_holds_436 kc_iconst_5 ?_
                    obtain ⟨v41, hv41, hf⟩ := it_b hf
                    refine cQi (As := [.int (5 : Int32)]) (rest := [.int x2]) (q0 := 0) (ci := 5) S (c_X5_total l D cI cN ka a1 a2 a3 a4 h hq u q _ kx hi x n (5 : Int32) v41 hv41) (cwV 1 hts gL_holds_X5_total rfl rfl rfl (by decide +kernel) ⟨Nat.le_of_ble_eq_true rfl, Nat.le_of_ble_eq_true rfl⟩) hK hP hS hA hP rfl rfl rfl hl.1 rfl (Nat.le_of_ble_eq_true rfl) dL_holds_437 ⟨Nat.zero_le _, Nat.zero_le _⟩ (fun H locs hP hS => ?_)
                    refine lv_icmp_ne (tgt := 493) hx hb dL_holds_440 (by decide) (fun c42 => ?_) (fun c42 => ?_)
                    · have hf := it_f hf c42
                      refine lv_iconst (v := (0 : Int32)) hx hb dL_holds_493 kc_iconst_0 ?_
                      have e0 : (0 : Int32) = r0 := (Option.some.inj hf)
                      subst e0
                      exact hret H locs ls _ dL_holds_494 (by first | rfl | (split <;> rfl) | (split <;> (first | rfl | (split <;> rfl))) | assumption) hS
                    · have hf := it_t hf c42
                      refine lv_iload hx hb dL_holds_443 (lv_at hl 5 rfl) ?_
                      refine lv_iload_n hx hb dL_holds_445 rfl (lv_at hl 3 rfl) ?_
                      refine lv_icmp_ne (tgt := 493) hx hb dL_holds_446 (by decide) (fun c43 => ?_) (fun c43 => ?_)
                      · have hf := it_f hf c43
                        refine lv_iconst (v := (0 : Int32)) hx hb dL_holds_493 kc_iconst_0 ?_
                        have e0 : (0 : Int32) = r0 := (Option.some.inj hf)
                        subst e0
                        exact hret H locs ls _ dL_holds_494 (by first | rfl | (split <;> rfl) | (split <;> (first | rfl | (split <;> rfl))) | assumption) hS
                      · have hf := it_t hf c43
                        refine lv_iload hx hb dL_holds_449 (lv_at hl 6 rfl) ?_
                        refine lv_iload_n hx hb dL_holds_451 rfl (lv_at hl 3 rfl) ?_
                        refine lv_icmp_ne (tgt := 493) hx hb dL_holds_452 (by decide) (fun c44 => ?_) (fun c44 => ?_)
                        · have hf := it_f hf c44
                          refine lv_iconst (v := (0 : Int32)) hx hb dL_holds_493 kc_iconst_0 ?_
                          have e0 : (0 : Int32) = r0 := (Option.some.inj hf)
                          subst e0
                          exact hret H locs ls _ dL_holds_494 (by first | rfl | (split <;> rfl) | (split <;> (first | rfl | (split <;> rfl))) | assumption) hS
                        · have hf := it_t hf c44
                          refine lv_iload hx hb dL_holds_455 (lv_at hl 7 rfl) ?_
                          refine lv_iload_n hx hb dL_holds_457 rfl (lv_at hl 3 rfl) ?_
                          refine lv_icmp_ne (tgt := 493) hx hb dL_holds_458 (by decide) (fun c45 => ?_) (fun c45 => ?_)
                          · have hf := it_f hf c45
                            refine lv_iconst (v := (0 : Int32)) hx hb dL_holds_493 kc_iconst_0 ?_
                            have e0 : (0 : Int32) = r0 := (Option.some.inj hf)
                            subst e0
                            exact hret H locs ls _ dL_holds_494 (by first | rfl | (split <;> rfl) | (split <;> (first | rfl | (split <;> rfl))) | assumption) hS
                          · have hf := it_t hf c45
                            refine lv_aload_n hx hb dL_holds_461 rfl (lv_at hl 1 rfl) ?_
                            refine lv_bipush (v := (6 : Int32)) hx hb dL_holds_462 kc_bipush_6 ?_
                            obtain ⟨v46, hv46, hf⟩ := it_b hf
                            refine cQi (As := [.int (6 : Int32)]) (rest := []) (q0 := 0) (ci := 5) S (c_X5_total l D cI cN ka a1 a2 a3 a4 h hq u q _ kx hi x n (6 : Int32) v46 hv46) (cwV 1 hts gL_holds_X5_total rfl rfl rfl (by decide +kernel) ⟨Nat.le_of_ble_eq_true rfl, Nat.le_of_ble_eq_true rfl⟩) hK hP hS hA hP rfl rfl rfl hl.1 rfl (Nat.le_of_ble_eq_true rfl) dL_holds_464 ⟨Nat.zero_le _, Nat.zero_le _⟩ (fun H locs hP hS => ?_)
                            refine lv_aload_n hx hb dL_holds_467 rfl (lv_at hl 1 rfl) ?_
                            refine lv_iconst (v := (5 : Int32)) hx hb dL_holds_468 kc_iconst_5 ?_
                            obtain ⟨v47, hv47, hf⟩ := it_b hf
                            refine cQi (As := [.int (5 : Int32)]) (rest := [.int v46]) (q0 := 0) (ci := 5) S (c_X5_total l D cI cN ka a1 a2 a3 a4 h hq u q _ kx hi x n (5 : Int32) v47 hv47) (cwV 1 hts gL_holds_X5_total rfl rfl rfl (by decide +kernel) ⟨Nat.le_of_ble_eq_true rfl, Nat.le_of_ble_eq_true rfl⟩) hK hP hS hA hP rfl rfl rfl hl.1 rfl (Nat.le_of_ble_eq_true rfl) dL_holds_469 ⟨Nat.zero_le _, Nat.zero_le _⟩ (fun H locs hP hS => ?_)
                            refine lv_aload_n hx hb dL_holds_472 rfl (lv_at hl 1 rfl) ?_
                            refine lv_bipush (v := (7 : Int32)) hx hb dL_holds_473 kc_bipush_7 ?_
                            obtain ⟨v48, hv48, hf⟩ := it_b hf
                            refine cQi (As := [.int (7 : Int32)]) (rest := [.int v47, .int v46]) (q0 := 0) (ci := 5) S (c_X5_total l D cI cN ka a1 a2 a3 a4 h hq u q _ kx hi x n (7 : Int32) v48 hv48) (cwV 1 hts gL_holds_X5_total rfl rfl rfl (by decide +kernel) ⟨Nat.le_of_ble_eq_true rfl, Nat.le_of_ble_eq_true rfl⟩) hK hP hS hA hP rfl rfl rfl hl.1 rfl (Nat.le_of_ble_eq_true rfl) dL_holds_475 ⟨Nat.zero_le _, Nat.zero_le _⟩ (fun H locs hP hS => ?_)
                            refine lv_iadd hx hb dL_holds_478 ?_
                            refine lv_aload_n hx hb dL_holds_479 rfl (lv_at hl 1 rfl) ?_
                            refine lv_bipush (v := (8 : Int32)) hx hb dL_holds_480 kc_bipush_8 ?_
                            obtain ⟨v49, hv49, hf⟩ := it_b hf
                            refine cQi (As := [.int (8 : Int32)]) (rest := [.int (v47 + v48), .int v46]) (q0 := 0) (ci := 5) S (c_X5_total l D cI cN ka a1 a2 a3 a4 h hq u q _ kx hi x n (8 : Int32) v49 hv49) (cwV 1 hts gL_holds_X5_total rfl rfl rfl (by decide +kernel) ⟨Nat.le_of_ble_eq_true rfl, Nat.le_of_ble_eq_true rfl⟩) hK hP hS hA hP rfl rfl rfl hl.1 rfl (Nat.le_of_ble_eq_true rfl) dL_holds_482 ⟨Nat.zero_le _, Nat.zero_le _⟩ (fun H locs hP hS => ?_)
                            refine lv_iadd hx hb dL_holds_485 ?_
                            refine lv_icmp_ne (tgt := 493) hx hb dL_holds_486 (by decide) (fun c50 => ?_) (fun c50 => ?_)
                            · have hf := it_f hf c50
                              refine lv_iconst (v := (0 : Int32)) hx hb dL_holds_493 kc_iconst_0 ?_
                              have e0 : (0 : Int32) = r0 := (Option.some.inj hf)
                              subst e0
                              exact hret H locs ls _ dL_holds_494 (by first | rfl | (split <;> rfl) | (split <;> (first | rfl | (split <;> rfl))) | assumption) hS
                            · have hf := it_t hf c50
                              refine lv_iconst (v := (1 : Int32)) hx hb dL_holds_489 kc_iconst_1 ?_
                              refine lv_goto (tgt := 494) hx hb dL_holds_490 (by decide) ?_
                              have e0 : (1 : Int32) = r0 := (Option.some.inj hf)
                              subst e0
                              exact hret H locs ls _ dL_holds_494 (by first | rfl | (split <;> rfl) | (split <;> (first | rfl | (split <;> rfl))) | assumption) hS
              · have hf := it_t hf c38
                refine lv_iconst (v := (1 : Int32)) hx hb dL_holds_418 kc_iconst_1 ?_
                refine lv_goto (tgt := 423) hx hb dL_holds_419 (by decide) ?_
                refine lv_istore (lv' := [(7, .int (1 : Int32)), (0, .ref ka), (1, .int x1), (2, .int x2), (3, .int x3), (4, .int x4), (5, .int x5), (6, .int x6)]) hx hb dL_holds_423 hl (by decide) rfl (fun ls hl => ?_)
                refine lv_iload_n hx hb dL_holds_425 rfl (lv_at hl 4 rfl) ?_
                refine lv_if_eq (tgt := 493) hx hb dL_holds_426 (by decide) (fun c51 => ?_) (fun c51 => ?_)
                · have hf := it_t hf c51
                  refine lv_iconst (v := (0 : Int32)) hx hb dL_holds_493 kc_iconst_0 ?_
                  have e0 : (0 : Int32) = r0 := (Option.some.inj hf)
                  subst e0
                  exact hret H locs ls _ dL_holds_494 (by first | rfl | (split <;> rfl) | (split <;> (first | rfl | (split <;> rfl))) | assumption) hS
                · have hf := it_f hf c51
                  refine lv_iload hx hb dL_holds_429 (lv_at hl 0 rfl) ?_
                  refine lv_if_eq (tgt := 493) hx hb dL_holds_431 (by decide) (fun c52 => ?_) (fun c52 => ?_)
                  · have hf := it_t hf c52
                    refine lv_iconst (v := (0 : Int32)) hx hb dL_holds_493 kc_iconst_0 ?_
                    have e0 : (0 : Int32) = r0 := (Option.some.inj hf)
                    subst e0
                    exact hret H locs ls _ dL_holds_494 (by first | rfl | (split <;> rfl) | (split <;> (first | rfl | (split <;> rfl))) | assumption) hS
                  · have hf := it_f hf c52
                    refine lv_iload_n hx hb dL_holds_434 rfl (lv_at hl 3 rfl) ?_
                    refine lv_aload_n hx hb dL_holds_435 rfl (lv_at hl 1 rfl) ?_
                    refine lv_iconst (v := (5 : Int32)) hx hb dL_holds_436 kc_iconst_5 ?_
                    obtain ⟨v53, hv53, hf⟩ := it_b hf
                    refine cQi (As := [.int (5 : Int32)]) (rest := [.int x2]) (q0 := 0) (ci := 5) S (c_X5_total l D cI cN ka a1 a2 a3 a4 h hq u q _ kx hi x n (5 : Int32) v53 hv53) (cwV 1 hts gL_holds_X5_total rfl rfl rfl (by decide +kernel) ⟨Nat.le_of_ble_eq_true rfl, Nat.le_of_ble_eq_true rfl⟩) hK hP hS hA hP rfl rfl rfl hl.1 rfl (Nat.le_of_ble_eq_true rfl) dL_holds_437 ⟨Nat.zero_le _, Nat.zero_le _⟩ (fun H locs hP hS => ?_)
                    refine lv_icmp_ne (tgt := 493) hx hb dL_holds_440 (by decide) (fun c54 => ?_) (fun c54 => ?_)
                    · have hf := it_f hf c54
                      refine lv_iconst (v := (0 : Int32)) hx hb dL_holds_493 kc_iconst_0 ?_
                      have e0 : (0 : Int32) = r0 := (Option.some.inj hf)
                      subst e0
                      exact hret H locs ls _ dL_holds_494 (by first | rfl | (split <;> rfl) | (split <;> (first | rfl | (split <;> rfl))) | assumption) hS
                    · have hf := it_t hf c54
                      refine lv_iload hx hb dL_holds_443 (lv_at hl 5 rfl) ?_
                      refine lv_iload_n hx hb dL_holds_445 rfl (lv_at hl 3 rfl) ?_
                      refine lv_icmp_ne (tgt := 493) hx hb dL_holds_446 (by decide) (fun c55 => ?_) (fun c55 => ?_)
                      · have hf := it_f hf c55
                        refine lv_iconst (v := (0 : Int32)) hx hb dL_holds_493 kc_iconst_0 ?_
                        have e0 : (0 : Int32) = r0 := (Option.some.inj hf)
                        subst e0
                        exact hret H locs ls _ dL_holds_494 (by first | rfl | (split <;> rfl) | (split <;> (first | rfl | (split <;> rfl))) | assumption) hS
                      · have hf := it_t hf c55
                        refine lv_iload hx hb dL_holds_449 (lv_at hl 6 rfl) ?_
                        refine lv_iload_n hx hb dL_holds_451 rfl (lv_at hl 3 rfl) ?_
                        refine lv_icmp_ne (tgt := 493) hx hb dL_holds_452 (by decide) (fun c56 => ?_) (fun c56 => ?_)
                        · have hf := it_f hf c56
                          refine lv_iconst (v := (0 : Int32)) hx hb dL_holds_493 kc_iconst_0 ?_
                          have e0 : (0 : Int32) = r0 := (Option.some.inj hf)
                          subst e0
                          exact hret H locs ls _ dL_holds_494 (by first | rfl | (split <;> rfl) | (split <;> (first | rfl | (split <;> rfl))) | assumption) hS
                        · have hf := it_t hf c56
                          refine lv_iload hx hb dL_holds_455 (lv_at hl 7 rfl) ?_
                          refine lv_iload_n hx hb dL_holds_457 rfl (lv_at hl 3 rfl) ?_
                          refine lv_icmp_ne (tgt := 493) hx hb dL_holds_458 (by decide) (fun c57 => ?_) (fun c57 => ?_)
                          · have hf := it_f hf c57
                            refine lv_iconst (v := (0 : Int32)) hx hb dL_holds_493 kc_iconst_0 ?_
                            have e0 : (0 : Int32) = r0 := (Option.some.inj hf)
                            subst e0
                            exact hret H locs ls _ dL_holds_494 (by first | rfl | (split <;> rfl) | (split <;> (first | rfl | (split <;> rfl))) | assumption) hS
                          · have hf := it_t hf c57
                            refine lv_aload_n hx hb dL_holds_461 rfl (lv_at hl 1 rfl) ?_
                            refine lv_bipush (v := (6 : Int32)) hx hb dL_holds_462 kc_bipush_6 ?_
                            obtain ⟨v58, hv58, hf⟩ := it_b hf
                            refine cQi (As := [.int (6 : Int32)]) (rest := []) (q0 := 0) (ci := 5) S (c_X5_total l D cI cN ka a1 a2 a3 a4 h hq u q _ kx hi x n (6 : Int32) v58 hv58) (cwV 1 hts gL_holds_X5_total rfl rfl rfl (by decide +kernel) ⟨Nat.le_of_ble_eq_true rfl, Nat.le_of_ble_eq_true rfl⟩) hK hP hS hA hP rfl rfl rfl hl.1 rfl (Nat.le_of_ble_eq_true rfl) dL_holds_464 ⟨Nat.zero_le _, Nat.zero_le _⟩ (fun H locs hP hS => ?_)
                            refine lv_aload_n hx hb dL_holds_467 rfl (lv_at hl 1 rfl) ?_
                            refine lv_iconst (v := (5 : Int32)) hx hb dL_holds_468 kc_iconst_5 ?_
                            obtain ⟨v59, hv59, hf⟩ := it_b hf
                            refine cQi (As := [.int (5 : Int32)]) (rest := [.int v58]) (q0 := 0) (ci := 5) S (c_X5_total l D cI cN ka a1 a2 a3 a4 h hq u q _ kx hi x n (5 : Int32) v59 hv59) (cwV 1 hts gL_holds_X5_total rfl rfl rfl (by decide +kernel) ⟨Nat.le_of_ble_eq_true rfl, Nat.le_of_ble_eq_true rfl⟩) hK hP hS hA hP rfl rfl rfl hl.1 rfl (Nat.le_of_ble_eq_true rfl) dL_holds_469 ⟨Nat.zero_le _, Nat.zero_le _⟩ (fun H locs hP hS => ?_)
                            refine lv_aload_n hx hb dL_holds_472 rfl (lv_at hl 1 rfl) ?_
                            refine lv_bipush (v := (7 : Int32)) hx hb dL_holds_473 kc_bipush_7 ?_
                            obtain ⟨v60, hv60, hf⟩ := it_b hf
                            refine cQi (As := [.int (7 : Int32)]) (rest := [.int v59, .int v58]) (q0 := 0) (ci := 5) S (c_X5_total l D cI cN ka a1 a2 a3 a4 h hq u q _ kx hi x n (7 : Int32) v60 hv60) (cwV 1 hts gL_holds_X5_total rfl rfl rfl (by decide +kernel) ⟨Nat.le_of_ble_eq_true rfl, Nat.le_of_ble_eq_true rfl⟩) hK hP hS hA hP rfl rfl rfl hl.1 rfl (Nat.le_of_ble_eq_true rfl) dL_holds_475 ⟨Nat.zero_le _, Nat.zero_le _⟩ (fun H locs hP hS => ?_)
                            refine lv_iadd hx hb dL_holds_478 ?_
                            refine lv_aload_n hx hb dL_holds_479 rfl (lv_at hl 1 rfl) ?_
                            refine lv_bipush (v := (8 : Int32)) hx hb dL_holds_480 kc_bipush_8 ?_
                            obtain ⟨v61, hv61, hf⟩ := it_b hf
                            refine cQi (As := [.int (8 : Int32)]) (rest := [.int (v59 + v60), .int v58]) (q0 := 0) (ci := 5) S (c_X5_total l D cI cN ka a1 a2 a3 a4 h hq u q _ kx hi x n (8 : Int32) v61 hv61) (cwV 1 hts gL_holds_X5_total rfl rfl rfl (by decide +kernel) ⟨Nat.le_of_ble_eq_true rfl, Nat.le_of_ble_eq_true rfl⟩) hK hP hS hA hP rfl rfl rfl hl.1 rfl (Nat.le_of_ble_eq_true rfl) dL_holds_482 ⟨Nat.zero_le _, Nat.zero_le _⟩ (fun H locs hP hS => ?_)
                            refine lv_iadd hx hb dL_holds_485 ?_
                            refine lv_icmp_ne (tgt := 493) hx hb dL_holds_486 (by decide) (fun c62 => ?_) (fun c62 => ?_)
                            · have hf := it_f hf c62
                              refine lv_iconst (v := (0 : Int32)) hx hb dL_holds_493 kc_iconst_0 ?_
                              have e0 : (0 : Int32) = r0 := (Option.some.inj hf)
                              subst e0
                              exact hret H locs ls _ dL_holds_494 (by first | rfl | (split <;> rfl) | (split <;> (first | rfl | (split <;> rfl))) | assumption) hS
                            · have hf := it_t hf c62
                              refine lv_iconst (v := (1 : Int32)) hx hb dL_holds_489 kc_iconst_1 ?_
                              refine lv_goto (tgt := 494) hx hb dL_holds_490 (by decide) ?_
                              have e0 : (1 : Int32) = r0 := (Option.some.inj hf)
                              subst e0
                              exact hret H locs ls _ dL_holds_494 (by first | rfl | (split <;> rfl) | (split <;> (first | rfl | (split <;> rfl))) | assumption) hS
            · have hf := it_f hf c37
              refine lv_iconst (v := (1 : Int32)) hx hb dL_holds_410 kc_iconst_1 ?_
              refine lv_goto (tgt := 415) hx hb dL_holds_411 (by decide) ?_
              refine lv_icmp_ne (tgt := 422) hx hb dL_holds_415 (by decide) (fun c63 => ?_) (fun c63 => ?_)
              · have hf := it_f hf c63
                refine lv_iconst (v := (0 : Int32)) hx hb dL_holds_422 kc_iconst_0 ?_
                refine lv_istore (lv' := [(7, .int (0 : Int32)), (0, .ref ka), (1, .int x1), (2, .int x2), (3, .int x3), (4, .int x4), (5, .int x5), (6, .int x6)]) hx hb dL_holds_423 hl (by decide) rfl (fun ls hl => ?_)
                refine lv_iload_n hx hb dL_holds_425 rfl (lv_at hl 4 rfl) ?_
                refine lv_if_eq (tgt := 493) hx hb dL_holds_426 (by decide) (fun c64 => ?_) (fun c64 => ?_)
                · have hf := it_t hf c64
                  refine lv_iconst (v := (0 : Int32)) hx hb dL_holds_493 kc_iconst_0 ?_
                  have e0 : (0 : Int32) = r0 := (Option.some.inj hf)
                  subst e0
                  exact hret H locs ls _ dL_holds_494 (by first | rfl | (split <;> rfl) | (split <;> (first | rfl | (split <;> rfl))) | assumption) hS
                · have hf := it_f hf c64
                  refine lv_iload hx hb dL_holds_429 (lv_at hl 0 rfl) ?_
                  refine lv_if_eq (tgt := 493) hx hb dL_holds_431 (by decide) (fun c65 => ?_) (fun c65 => ?_)
                  · have hf := it_t hf c65
                    refine lv_iconst (v := (0 : Int32)) hx hb dL_holds_493 kc_iconst_0 ?_
                    have e0 : (0 : Int32) = r0 := (Option.some.inj hf)
                    subst e0
                    exact hret H locs ls _ dL_holds_494 (by first | rfl | (split <;> rfl) | (split <;> (first | rfl | (split <;> rfl))) | assumption) hS
                  · have hf := it_f hf c65
                    refine lv_iload_n hx hb dL_holds_434 rfl (lv_at hl 3 rfl) ?_
                    refine lv_aload_n hx hb dL_holds_435 rfl (lv_at hl 1 rfl) ?_
                    refine lv_iconst (v := (5 : Int32)) hx hb dL_holds_436 kc_iconst_5 ?_
                    obtain ⟨v66, hv66, hf⟩ := it_b hf
                    refine cQi (As := [.int (5 : Int32)]) (rest := [.int x2]) (q0 := 0) (ci := 5) S (c_X5_total l D cI cN ka a1 a2 a3 a4 h hq u q _ kx hi x n (5 : Int32) v66 hv66) (cwV 1 hts gL_holds_X5_total rfl rfl rfl (by decide +kernel) ⟨Nat.le_of_ble_eq_true rfl, Nat.le_of_ble_eq_true rfl⟩) hK hP hS hA hP rfl rfl rfl hl.1 rfl (Nat.le_of_ble_eq_true rfl) dL_holds_437 ⟨Nat.zero_le _, Nat.zero_le _⟩ (fun H locs hP hS => ?_)
                    refine lv_icmp_ne (tgt := 493) hx hb dL_holds_440 (by decide) (fun c67 => ?_) (fun c67 => ?_)
                    · have hf := it_f hf c67
                      refine lv_iconst (v := (0 : Int32)) hx hb dL_holds_493 kc_iconst_0 ?_
                      have e0 : (0 : Int32) = r0 := (Option.some.inj hf)
                      subst e0
                      exact hret H locs ls _ dL_holds_494 (by first | rfl | (split <;> rfl) | (split <;> (first | rfl | (split <;> rfl))) | assumption) hS
                    · have hf := it_t hf c67
                      refine lv_iload hx hb dL_holds_443 (lv_at hl 5 rfl) ?_
                      refine lv_iload_n hx hb dL_holds_445 rfl (lv_at hl 3 rfl) ?_
                      refine lv_icmp_ne (tgt := 493) hx hb dL_holds_446 (by decide) (fun c68 => ?_) (fun c68 => ?_)
                      · have hf := it_f hf c68
                        refine lv_iconst (v := (0 : Int32)) hx hb dL_holds_493 kc_iconst_0 ?_
                        have e0 : (0 : Int32) = r0 := (Option.some.inj hf)
                        subst e0
                        exact hret H locs ls _ dL_holds_494 (by first | rfl | (split <;> rfl) | (split <;> (first | rfl | (split <;> rfl))) | assumption) hS
                      · have hf := it_t hf c68
                        refine lv_iload hx hb dL_holds_449 (lv_at hl 6 rfl) ?_
                        refine lv_iload_n hx hb dL_holds_451 rfl (lv_at hl 3 rfl) ?_
                        refine lv_icmp_ne (tgt := 493) hx hb dL_holds_452 (by decide) (fun c69 => ?_) (fun c69 => ?_)
                        · have hf := it_f hf c69
                          refine lv_iconst (v := (0 : Int32)) hx hb dL_holds_493 kc_iconst_0 ?_
                          have e0 : (0 : Int32) = r0 := (Option.some.inj hf)
                          subst e0
                          exact hret H locs ls _ dL_holds_494 (by first | rfl | (split <;> rfl) | (split <;> (first | rfl | (split <;> rfl))) | assumption) hS
                        · have hf := it_t hf c69
                          refine lv_iload hx hb dL_holds_455 (lv_at hl 7 rfl) ?_
                          refine lv_iload_n hx hb dL_holds_457 rfl (lv_at hl 3 rfl) ?_
                          refine lv_icmp_ne (tgt := 493) hx hb dL_holds_458 (by decide) (fun c70 => ?_) (fun c70 => ?_)
                          · have hf := it_f hf c70
                            refine lv_iconst (v := (0 : Int32)) hx hb dL_holds_493 kc_iconst_0 ?_
                            have e0 : (0 : Int32) = r0 := (Option.some.inj hf)
                            subst e0
                            exact hret H locs ls _ dL_holds_494 (by first | rfl | (split <;> rfl) | (split <;> (first | rfl | (split <;> rfl))) | assumption) hS
                          · have hf := it_t hf c70
                            refine lv_aload_n hx hb dL_holds_461 rfl (lv_at hl 1 rfl) ?_
                            refine lv_bipush (v := (6 : Int32)) hx hb dL_holds_462 kc_bipush_6 ?_
                            obtain ⟨v71, hv71, hf⟩ := it_b hf
                            refine cQi (As := [.int (6 : Int32)]) (rest := []) (q0 := 0) (ci := 5) S (c_X5_total l D cI cN ka a1 a2 a3 a4 h hq u q _ kx hi x n (6 : Int32) v71 hv71) (cwV 1 hts gL_holds_X5_total rfl rfl rfl (by decide +kernel) ⟨Nat.le_of_ble_eq_true rfl, Nat.le_of_ble_eq_true rfl⟩) hK hP hS hA hP rfl rfl rfl hl.1 rfl (Nat.le_of_ble_eq_true rfl) dL_holds_464 ⟨Nat.zero_le _, Nat.zero_le _⟩ (fun H locs hP hS => ?_)
                            refine lv_aload_n hx hb dL_holds_467 rfl (lv_at hl 1 rfl) ?_
                            refine lv_iconst (v := (5 : Int32)) hx hb dL_holds_468 kc_iconst_5 ?_
                            obtain ⟨v72, hv72, hf⟩ := it_b hf
                            refine cQi (As := [.int (5 : Int32)]) (rest := [.int v71]) (q0 := 0) (ci := 5) S (c_X5_total l D cI cN ka a1 a2 a3 a4 h hq u q _ kx hi x n (5 : Int32) v72 hv72) (cwV 1 hts gL_holds_X5_total rfl rfl rfl (by decide +kernel) ⟨Nat.le_of_ble_eq_true rfl, Nat.le_of_ble_eq_true rfl⟩) hK hP hS hA hP rfl rfl rfl hl.1 rfl (Nat.le_of_ble_eq_true rfl) dL_holds_469 ⟨Nat.zero_le _, Nat.zero_le _⟩ (fun H locs hP hS => ?_)
                            refine lv_aload_n hx hb dL_holds_472 rfl (lv_at hl 1 rfl) ?_
                            refine lv_bipush (v := (7 : Int32)) hx hb dL_holds_473 kc_bipush_7 ?_
                            obtain ⟨v73, hv73, hf⟩ := it_b hf
                            refine cQi (As := [.int (7 : Int32)]) (rest := [.int v72, .int v71]) (q0 := 0) (ci := 5) S (c_X5_total l D cI cN ka a1 a2 a3 a4 h hq u q _ kx hi x n (7 : Int32) v73 hv73) (cwV 1 hts gL_holds_X5_total rfl rfl rfl (by decide +kernel) ⟨Nat.le_of_ble_eq_true rfl, Nat.le_of_ble_eq_true rfl⟩) hK hP hS hA hP rfl rfl rfl hl.1 rfl (Nat.le_of_ble_eq_true rfl) dL_holds_475 ⟨Nat.zero_le _, Nat.zero_le _⟩ (fun H locs hP hS => ?_)
                            refine lv_iadd hx hb dL_holds_478 ?_
                            refine lv_aload_n hx hb dL_holds_479 rfl (lv_at hl 1 rfl) ?_
                            refine lv_bipush (v := (8 : Int32)) hx hb dL_holds_480 kc_bipush_8 ?_
                            obtain ⟨v74, hv74, hf⟩ := it_b hf
                            refine cQi (As := [.int (8 : Int32)]) (rest := [.int (v72 + v73), .int v71]) (q0 := 0) (ci := 5) S (c_X5_total l D cI cN ka a1 a2 a3 a4 h hq u q _ kx hi x n (8 : Int32) v74 hv74) (cwV 1 hts gL_holds_X5_total rfl rfl rfl (by decide +kernel) ⟨Nat.le_of_ble_eq_true rfl, Nat.le_of_ble_eq_true rfl⟩) hK hP hS hA hP rfl rfl rfl hl.1 rfl (Nat.le_of_ble_eq_true rfl) dL_holds_482 ⟨Nat.zero_le _, Nat.zero_le _⟩ (fun H locs hP hS => ?_)
                            refine lv_iadd hx hb dL_holds_485 ?_
                            refine lv_icmp_ne (tgt := 493) hx hb dL_holds_486 (by decide) (fun c75 => ?_) (fun c75 => ?_)
                            · have hf := it_f hf c75
                              refine lv_iconst (v := (0 : Int32)) hx hb dL_holds_493 kc_iconst_0 ?_
                              have e0 : (0 : Int32) = r0 := (Option.some.inj hf)
                              subst e0
                              exact hret H locs ls _ dL_holds_494 (by first | rfl | (split <;> rfl) | (split <;> (first | rfl | (split <;> rfl))) | assumption) hS
                            · have hf := it_t hf c75
                              refine lv_iconst (v := (1 : Int32)) hx hb dL_holds_489 kc_iconst_1 ?_
                              refine lv_goto (tgt := 494) hx hb dL_holds_490 (by decide) ?_
                              have e0 : (1 : Int32) = r0 := (Option.some.inj hf)
                              subst e0
                              exact hret H locs ls _ dL_holds_494 (by first | rfl | (split <;> rfl) | (split <;> (first | rfl | (split <;> rfl))) | assumption) hS
              · have hf := it_t hf c63
                refine lv_iconst (v := (1 : Int32)) hx hb dL_holds_418 kc_iconst_1 ?_
                refine lv_goto (tgt := 423) hx hb dL_holds_419 (by decide) ?_
                refine lv_istore (lv' := [(7, .int (1 : Int32)), (0, .ref ka), (1, .int x1), (2, .int x2), (3, .int x3), (4, .int x4), (5, .int x5), (6, .int x6)]) hx hb dL_holds_423 hl (by decide) rfl (fun ls hl => ?_)
                refine lv_iload_n hx hb dL_holds_425 rfl (lv_at hl 4 rfl) ?_
                refine lv_if_eq (tgt := 493) hx hb dL_holds_426 (by decide) (fun c76 => ?_) (fun c76 => ?_)
                · have hf := it_t hf c76
                  refine lv_iconst (v := (0 : Int32)) hx hb dL_holds_493 kc_iconst_0 ?_
                  have e0 : (0 : Int32) = r0 := (Option.some.inj hf)
                  subst e0
                  exact hret H locs ls _ dL_holds_494 (by first | rfl | (split <;> rfl) | (split <;> (first | rfl | (split <;> rfl))) | assumption) hS
                · have hf := it_f hf c76
                  refine lv_iload hx hb dL_holds_429 (lv_at hl 0 rfl) ?_
                  refine lv_if_eq (tgt := 493) hx hb dL_holds_431 (by decide) (fun c77 => ?_) (fun c77 => ?_)
                  · have hf := it_t hf c77
                    refine lv_iconst (v := (0 : Int32)) hx hb dL_holds_493 kc_iconst_0 ?_
                    have e0 : (0 : Int32) = r0 := (Option.some.inj hf)
                    subst e0
                    exact hret H locs ls _ dL_holds_494 (by first | rfl | (split <;> rfl) | (split <;> (first | rfl | (split <;> rfl))) | assumption) hS
                  · have hf := it_f hf c77
                    refine lv_iload_n hx hb dL_holds_434 rfl (lv_at hl 3 rfl) ?_
                    refine lv_aload_n hx hb dL_holds_435 rfl (lv_at hl 1 rfl) ?_
                    refine lv_iconst (v := (5 : Int32)) hx hb dL_holds_436 kc_iconst_5 ?_
                    obtain ⟨v78, hv78, hf⟩ := it_b hf
                    refine cQi (As := [.int (5 : Int32)]) (rest := [.int x2]) (q0 := 0) (ci := 5) S (c_X5_total l D cI cN ka a1 a2 a3 a4 h hq u q _ kx hi x n (5 : Int32) v78 hv78) (cwV 1 hts gL_holds_X5_total rfl rfl rfl (by decide +kernel) ⟨Nat.le_of_ble_eq_true rfl, Nat.le_of_ble_eq_true rfl⟩) hK hP hS hA hP rfl rfl rfl hl.1 rfl (Nat.le_of_ble_eq_true rfl) dL_holds_437 ⟨Nat.zero_le _, Nat.zero_le _⟩ (fun H locs hP hS => ?_)
                    refine lv_icmp_ne (tgt := 493) hx hb dL_holds_440 (by decide) (fun c79 => ?_) (fun c79 => ?_)
                    · have hf := it_f hf c79
                      refine lv_iconst (v := (0 : Int32)) hx hb dL_holds_493 kc_iconst_0 ?_
                      have e0 : (0 : Int32) = r0 := (Option.some.inj hf)
                      subst e0
                      exact hret H locs ls _ dL_holds_494 (by first | rfl | (split <;> rfl) | (split <;> (first | rfl | (split <;> rfl))) | assumption) hS
                    · have hf := it_t hf c79
                      refine lv_iload hx hb dL_holds_443 (lv_at hl 5 rfl) ?_
                      refine lv_iload_n hx hb dL_holds_445 rfl (lv_at hl 3 rfl) ?_
                      refine lv_icmp_ne (tgt := 493) hx hb dL_holds_446 (by decide) (fun c80 => ?_) (fun c80 => ?_)
                      · have hf := it_f hf c80
                        refine lv_iconst (v := (0 : Int32)) hx hb dL_holds_493 kc_iconst_0 ?_
                        have e0 : (0 : Int32) = r0 := (Option.some.inj hf)
                        subst e0
                        exact hret H locs ls _ dL_holds_494 (by first | rfl | (split <;> rfl) | (split <;> (first | rfl | (split <;> rfl))) | assumption) hS
                      · have hf := it_t hf c80
                        refine lv_iload hx hb dL_holds_449 (lv_at hl 6 rfl) ?_
                        refine lv_iload_n hx hb dL_holds_451 rfl (lv_at hl 3 rfl) ?_
                        refine lv_icmp_ne (tgt := 493) hx hb dL_holds_452 (by decide) (fun c81 => ?_) (fun c81 => ?_)
                        · have hf := it_f hf c81
                          refine lv_iconst (v := (0 : Int32)) hx hb dL_holds_493 kc_iconst_0 ?_
                          have e0 : (0 : Int32) = r0 := (Option.some.inj hf)
                          subst e0
                          exact hret H locs ls _ dL_holds_494 (by first | rfl | (split <;> rfl) | (split <;> (first | rfl | (split <;> rfl))) | assumption) hS
                        · have hf := it_t hf c81
                          refine lv_iload hx hb dL_holds_455 (lv_at hl 7 rfl) ?_
                          refine lv_iload_n hx hb dL_holds_457 rfl (lv_at hl 3 rfl) ?_
                          refine lv_icmp_ne (tgt := 493) hx hb dL_holds_458 (by decide) (fun c82 => ?_) (fun c82 => ?_)
                          · have hf := it_f hf c82
                            refine lv_iconst (v := (0 : Int32)) hx hb dL_holds_493 kc_iconst_0 ?_
                            have e0 : (0 : Int32) = r0 := (Option.some.inj hf)
                            subst e0
                            exact hret H locs ls _ dL_holds_494 (by first | rfl | (split <;> rfl) | (split <;> (first | rfl | (split <;> rfl))) | assumption) hS
                          · have hf := it_t hf c82
                            refine lv_aload_n hx hb dL_holds_461 rfl (lv_at hl 1 rfl) ?_
                            refine lv_bipush (v := (6 : Int32)) hx hb dL_holds_462 kc_bipush_6 ?_
                            obtain ⟨v83, hv83, hf⟩ := it_b hf
                            refine cQi (As := [.int (6 : Int32)]) (rest := []) (q0 := 0) (ci := 5) S (c_X5_total l D cI cN ka a1 a2 a3 a4 h hq u q _ kx hi x n (6 : Int32) v83 hv83) (cwV 1 hts gL_holds_X5_total rfl rfl rfl (by decide +kernel) ⟨Nat.le_of_ble_eq_true rfl, Nat.le_of_ble_eq_true rfl⟩) hK hP hS hA hP rfl rfl rfl hl.1 rfl (Nat.le_of_ble_eq_true rfl) dL_holds_464 ⟨Nat.zero_le _, Nat.zero_le _⟩ (fun H locs hP hS => ?_)
                            refine lv_aload_n hx hb dL_holds_467 rfl (lv_at hl 1 rfl) ?_
                            refine lv_iconst (v := (5 : Int32)) hx hb dL_holds_468 kc_iconst_5 ?_
                            obtain ⟨v84, hv84, hf⟩ := it_b hf
                            refine cQi (As := [.int (5 : Int32)]) (rest := [.int v83]) (q0 := 0) (ci := 5) S (c_X5_total l D cI cN ka a1 a2 a3 a4 h hq u q _ kx hi x n (5 : Int32) v84 hv84) (cwV 1 hts gL_holds_X5_total rfl rfl rfl (by decide +kernel) ⟨Nat.le_of_ble_eq_true rfl, Nat.le_of_ble_eq_true rfl⟩) hK hP hS hA hP rfl rfl rfl hl.1 rfl (Nat.le_of_ble_eq_true rfl) dL_holds_469 ⟨Nat.zero_le _, Nat.zero_le _⟩ (fun H locs hP hS => ?_)
                            refine lv_aload_n hx hb dL_holds_472 rfl (lv_at hl 1 rfl) ?_
                            refine lv_bipush (v := (7 : Int32)) hx hb dL_holds_473 kc_bipush_7 ?_
                            obtain ⟨v85, hv85, hf⟩ := it_b hf
                            refine cQi (As := [.int (7 : Int32)]) (rest := [.int v84, .int v83]) (q0 := 0) (ci := 5) S (c_X5_total l D cI cN ka a1 a2 a3 a4 h hq u q _ kx hi x n (7 : Int32) v85 hv85) (cwV 1 hts gL_holds_X5_total rfl rfl rfl (by decide +kernel) ⟨Nat.le_of_ble_eq_true rfl, Nat.le_of_ble_eq_true rfl⟩) hK hP hS hA hP rfl rfl rfl hl.1 rfl (Nat.le_of_ble_eq_true rfl) dL_holds_475 ⟨Nat.zero_le _, Nat.zero_le _⟩ (fun H locs hP hS => ?_)
                            refine lv_iadd hx hb dL_holds_478 ?_
                            refine lv_aload_n hx hb dL_holds_479 rfl (lv_at hl 1 rfl) ?_
                            refine lv_bipush (v := (8 : Int32)) hx hb dL_holds_480 kc_bipush_8 ?_
                            obtain ⟨v86, hv86, hf⟩ := it_b hf
                            refine cQi (As := [.int (8 : Int32)]) (rest := [.int (v84 + v85), .int v83]) (q0 := 0) (ci := 5) S (c_X5_total l D cI cN ka a1 a2 a3 a4 h hq u q _ kx hi x n (8 : Int32) v86 hv86) (cwV 1 hts gL_holds_X5_total rfl rfl rfl (by decide +kernel) ⟨Nat.le_of_ble_eq_true rfl, Nat.le_of_ble_eq_true rfl⟩) hK hP hS hA hP rfl rfl rfl hl.1 rfl (Nat.le_of_ble_eq_true rfl) dL_holds_482 ⟨Nat.zero_le _, Nat.zero_le _⟩ (fun H locs hP hS => ?_)
                            refine lv_iadd hx hb dL_holds_485 ?_
                            refine lv_icmp_ne (tgt := 493) hx hb dL_holds_486 (by decide) (fun c87 => ?_) (fun c87 => ?_)
                            · have hf := it_f hf c87
                              refine lv_iconst (v := (0 : Int32)) hx hb dL_holds_493 kc_iconst_0 ?_
                              have e0 : (0 : Int32) = r0 := (Option.some.inj hf)
                              subst e0
                              exact hret H locs ls _ dL_holds_494 (by first | rfl | (split <;> rfl) | (split <;> (first | rfl | (split <;> rfl))) | assumption) hS
                            · have hf := it_t hf c87
                              refine lv_iconst (v := (1 : Int32)) hx hb dL_holds_489 kc_iconst_1 ?_
                              refine lv_goto (tgt := 494) hx hb dL_holds_490 (by decide) ?_
                              have e0 : (1 : Int32) = r0 := (Option.some.inj hf)
                              subst e0
                              exact hret H locs ls _ dL_holds_494 (by first | rfl | (split <;> rfl) | (split <;> (first | rfl | (split <;> rfl))) | assumption) hS
          · have hf := it_f hf c36
            refine lv_iconst (v := (1 : Int32)) hx hb dL_holds_401 kc_iconst_1 ?_
            refine lv_goto (tgt := 406) hx hb dL_holds_402 (by decide) ?_
            refine lv_iload_n hx hb dL_holds_406 rfl (lv_at hl 2 rfl) ?_
            refine lv_if_le (tgt := 414) hx hb dL_holds_407 (by decide) (fun c88 => ?_) (fun c88 => ?_)
            · have hf := it_t hf c88
              refine lv_iconst (v := (0 : Int32)) hx hb dL_holds_414 kc_iconst_0 ?_
              refine lv_icmp_ne (tgt := 422) hx hb dL_holds_415 (by decide) (fun c89 => ?_) (fun c89 => ?_)
              · have hf := it_f hf c89
                refine lv_iconst (v := (0 : Int32)) hx hb dL_holds_422 kc_iconst_0 ?_
                refine lv_istore (lv' := [(7, .int (0 : Int32)), (0, .ref ka), (1, .int x1), (2, .int x2), (3, .int x3), (4, .int x4), (5, .int x5), (6, .int x6)]) hx hb dL_holds_423 hl (by decide) rfl (fun ls hl => ?_)
                refine lv_iload_n hx hb dL_holds_425 rfl (lv_at hl 4 rfl) ?_
                refine lv_if_eq (tgt := 493) hx hb dL_holds_426 (by decide) (fun c90 => ?_) (fun c90 => ?_)
                · have hf := it_t hf c90
                  refine lv_iconst (v := (0 : Int32)) hx hb dL_holds_493 kc_iconst_0 ?_
                  have e0 : (0 : Int32) = r0 := (Option.some.inj hf)
                  subst e0
                  exact hret H locs ls _ dL_holds_494 (by first | rfl | (split <;> rfl) | (split <;> (first | rfl | (split <;> rfl))) | assumption) hS
                · have hf := it_f hf c90
                  refine lv_iload hx hb dL_holds_429 (lv_at hl 0 rfl) ?_
                  refine lv_if_eq (tgt := 493) hx hb dL_holds_431 (by decide) (fun c91 => ?_) (fun c91 => ?_)
                  · have hf := it_t hf c91
                    refine lv_iconst (v := (0 : Int32)) hx hb dL_holds_493 kc_iconst_0 ?_
                    have e0 : (0 : Int32) = r0 := (Option.some.inj hf)
                    subst e0
                    exact hret H locs ls _ dL_holds_494 (by first | rfl | (split <;> rfl) | (split <;> (first | rfl | (split <;> rfl))) | assumption) hS
                  · have hf := it_f hf c91
                    refine lv_iload_n hx hb dL_holds_434 rfl (lv_at hl 3 rfl) ?_
                    refine lv_aload_n hx hb dL_holds_435 rfl (lv_at hl 1 rfl) ?_
                    refine lv_iconst (v := (5 : Int32)) hx hb dL_holds_436 kc_iconst_5 ?_
                    obtain ⟨v92, hv92, hf⟩ := it_b hf
                    refine cQi (As := [.int (5 : Int32)]) (rest := [.int x2]) (q0 := 0) (ci := 5) S (c_X5_total l D cI cN ka a1 a2 a3 a4 h hq u q _ kx hi x n (5 : Int32) v92 hv92) (cwV 1 hts gL_holds_X5_total rfl rfl rfl (by decide +kernel) ⟨Nat.le_of_ble_eq_true rfl, Nat.le_of_ble_eq_true rfl⟩) hK hP hS hA hP rfl rfl rfl hl.1 rfl (Nat.le_of_ble_eq_true rfl) dL_holds_437 ⟨Nat.zero_le _, Nat.zero_le _⟩ (fun H locs hP hS => ?_)
                    refine lv_icmp_ne (tgt := 493) hx hb dL_holds_440 (by decide) (fun c93 => ?_) (fun c93 => ?_)
                    · have hf := it_f hf c93
                      refine lv_iconst (v := (0 : Int32)) hx hb dL_holds_493 kc_iconst_0 ?_
                      have e0 : (0 : Int32) = r0 := (Option.some.inj hf)
                      subst e0
                      exact hret H locs ls _ dL_holds_494 (by first | rfl | (split <;> rfl) | (split <;> (first | rfl | (split <;> rfl))) | assumption) hS
                    · have hf := it_t hf c93
                      refine lv_iload hx hb dL_holds_443 (lv_at hl 5 rfl) ?_
                      refine lv_iload_n hx hb dL_holds_445 rfl (lv_at hl 3 rfl) ?_
                      refine lv_icmp_ne (tgt := 493) hx hb dL_holds_446 (by decide) (fun c94 => ?_) (fun c94 => ?_)
                      · have hf := it_f hf c94
                        refine lv_iconst (v := (0 : Int32)) hx hb dL_holds_493 kc_iconst_0 ?_
                        have e0 : (0 : Int32) = r0 := (Option.some.inj hf)
                        subst e0
                        exact hret H locs ls _ dL_holds_494 (by first | rfl | (split <;> rfl) | (split <;> (first | rfl | (split <;> rfl))) | assumption) hS
                      · have hf := it_t hf c94
                        refine lv_iload hx hb dL_holds_449 (lv_at hl 6 rfl) ?_
                        refine lv_iload_n hx hb dL_holds_451 rfl (lv_at hl 3 rfl) ?_
                        refine lv_icmp_ne (tgt := 493) hx hb dL_holds_452 (by decide) (fun c95 => ?_) (fun c95 => ?_)
                        · have hf := it_f hf c95
                          refine lv_iconst (v := (0 : Int32)) hx hb dL_holds_493 kc_iconst_0 ?_
                          have e0 : (0 : Int32) = r0 := (Option.some.inj hf)
                          subst e0
                          exact hret H locs ls _ dL_holds_494 (by first | rfl | (split <;> rfl) | (split <;> (first | rfl | (split <;> rfl))) | assumption) hS
                        · have hf := it_t hf c95
                          refine lv_iload hx hb dL_holds_455 (lv_at hl 7 rfl) ?_
                          refine lv_iload_n hx hb dL_holds_457 rfl (lv_at hl 3 rfl) ?_
                          refine lv_icmp_ne (tgt := 493) hx hb dL_holds_458 (by decide) (fun c96 => ?_) (fun c96 => ?_)
                          · have hf := it_f hf c96
                            refine lv_iconst (v := (0 : Int32)) hx hb dL_holds_493 kc_iconst_0 ?_
                            have e0 : (0 : Int32) = r0 := (Option.some.inj hf)
                            subst e0
                            exact hret H locs ls _ dL_holds_494 (by first | rfl | (split <;> rfl) | (split <;> (first | rfl | (split <;> rfl))) | assumption) hS
                          · have hf := it_t hf c96
                            refine lv_aload_n hx hb dL_holds_461 rfl (lv_at hl 1 rfl) ?_
                            refine lv_bipush (v := (6 : Int32)) hx hb dL_holds_462 kc_bipush_6 ?_
                            obtain ⟨v97, hv97, hf⟩ := it_b hf
                            refine cQi (As := [.int (6 : Int32)]) (rest := []) (q0 := 0) (ci := 5) S (c_X5_total l D cI cN ka a1 a2 a3 a4 h hq u q _ kx hi x n (6 : Int32) v97 hv97) (cwV 1 hts gL_holds_X5_total rfl rfl rfl (by decide +kernel) ⟨Nat.le_of_ble_eq_true rfl, Nat.le_of_ble_eq_true rfl⟩) hK hP hS hA hP rfl rfl rfl hl.1 rfl (Nat.le_of_ble_eq_true rfl) dL_holds_464 ⟨Nat.zero_le _, Nat.zero_le _⟩ (fun H locs hP hS => ?_)
                            refine lv_aload_n hx hb dL_holds_467 rfl (lv_at hl 1 rfl) ?_
                            refine lv_iconst (v := (5 : Int32)) hx hb dL_holds_468 kc_iconst_5 ?_
                            obtain ⟨v98, hv98, hf⟩ := it_b hf
                            refine cQi (As := [.int (5 : Int32)]) (rest := [.int v97]) (q0 := 0) (ci := 5) S (c_X5_total l D cI cN ka a1 a2 a3 a4 h hq u q _ kx hi x n (5 : Int32) v98 hv98) (cwV 1 hts gL_holds_X5_total rfl rfl rfl (by decide +kernel) ⟨Nat.le_of_ble_eq_true rfl, Nat.le_of_ble_eq_true rfl⟩) hK hP hS hA hP rfl rfl rfl hl.1 rfl (Nat.le_of_ble_eq_true rfl) dL_holds_469 ⟨Nat.zero_le _, Nat.zero_le _⟩ (fun H locs hP hS => ?_)
                            refine lv_aload_n hx hb dL_holds_472 rfl (lv_at hl 1 rfl) ?_
                            refine lv_bipush (v := (7 : Int32)) hx hb dL_holds_473 kc_bipush_7 ?_
                            obtain ⟨v99, hv99, hf⟩ := it_b hf
                            refine cQi (As := [.int (7 : Int32)]) (rest := [.int v98, .int v97]) (q0 := 0) (ci := 5) S (c_X5_total l D cI cN ka a1 a2 a3 a4 h hq u q _ kx hi x n (7 : Int32) v99 hv99) (cwV 1 hts gL_holds_X5_total rfl rfl rfl (by decide +kernel) ⟨Nat.le_of_ble_eq_true rfl, Nat.le_of_ble_eq_true rfl⟩) hK hP hS hA hP rfl rfl rfl hl.1 rfl (Nat.le_of_ble_eq_true rfl) dL_holds_475 ⟨Nat.zero_le _, Nat.zero_le _⟩ (fun H locs hP hS => ?_)
                            refine lv_iadd hx hb dL_holds_478 ?_
                            refine lv_aload_n hx hb dL_holds_479 rfl (lv_at hl 1 rfl) ?_
                            refine lv_bipush (v := (8 : Int32)) hx hb dL_holds_480 kc_bipush_8 ?_
                            obtain ⟨v100, hv100, hf⟩ := it_b hf
                            refine cQi (As := [.int (8 : Int32)]) (rest := [.int (v98 + v99), .int v97]) (q0 := 0) (ci := 5) S (c_X5_total l D cI cN ka a1 a2 a3 a4 h hq u q _ kx hi x n (8 : Int32) v100 hv100) (cwV 1 hts gL_holds_X5_total rfl rfl rfl (by decide +kernel) ⟨Nat.le_of_ble_eq_true rfl, Nat.le_of_ble_eq_true rfl⟩) hK hP hS hA hP rfl rfl rfl hl.1 rfl (Nat.le_of_ble_eq_true rfl) dL_holds_482 ⟨Nat.zero_le _, Nat.zero_le _⟩ (fun H locs hP hS => ?_)
                            refine lv_iadd hx hb dL_holds_485 ?_
                            refine lv_icmp_ne (tgt := 493) hx hb dL_holds_486 (by decide) (fun c101 => ?_) (fun c101 => ?_)
                            · have hf := it_f hf c101
                              refine lv_iconst (v := (0 : Int32)) hx hb dL_holds_493 kc_iconst_0 ?_
                              have e0 : (0 : Int32) = r0 := (Option.some.inj hf)
                              subst e0
                              exact hret H locs ls _ dL_holds_494 (by first | rfl | (split <;> rfl) | (split <;> (first | rfl | (split <;> rfl))) | assumption) hS
                            · have hf := it_t hf c101
                              refine lv_iconst (v := (1 : Int32)) hx hb dL_holds_489 kc_iconst_1 ?_
                              refine lv_goto (tgt := 494) hx hb dL_holds_490 (by decide) ?_
                              have e0 : (1 : Int32) = r0 := (Option.some.inj hf)
                              subst e0
                              exact hret H locs ls _ dL_holds_494 (by first | rfl | (split <;> rfl) | (split <;> (first | rfl | (split <;> rfl))) | assumption) hS
              · have hf := it_t hf c89
                refine lv_iconst (v := (1 : Int32)) hx hb dL_holds_418 kc_iconst_1 ?_
                refine lv_goto (tgt := 423) hx hb dL_holds_419 (by decide) ?_
                refine lv_istore (lv' := [(7, .int (1 : Int32)), (0, .ref ka), (1, .int x1), (2, .int x2), (3, .int x3), (4, .int x4), (5, .int x5), (6, .int x6)]) hx hb dL_holds_423 hl (by decide) rfl (fun ls hl => ?_)
                refine lv_iload_n hx hb dL_holds_425 rfl (lv_at hl 4 rfl) ?_
                refine lv_if_eq (tgt := 493) hx hb dL_holds_426 (by decide) (fun c102 => ?_) (fun c102 => ?_)
                · have hf := it_t hf c102
                  refine lv_iconst (v := (0 : Int32)) hx hb dL_holds_493 kc_iconst_0 ?_
                  have e0 : (0 : Int32) = r0 := (Option.some.inj hf)
                  subst e0
                  exact hret H locs ls _ dL_holds_494 (by first | rfl | (split <;> rfl) | (split <;> (first | rfl | (split <;> rfl))) | assumption) hS
                · have hf := it_f hf c102
                  refine lv_iload hx hb dL_holds_429 (lv_at hl 0 rfl) ?_
                  refine lv_if_eq (tgt := 493) hx hb dL_holds_431 (by decide) (fun c103 => ?_) (fun c103 => ?_)
                  · have hf := it_t hf c103
                    refine lv_iconst (v := (0 : Int32)) hx hb dL_holds_493 kc_iconst_0 ?_
                    have e0 : (0 : Int32) = r0 := (Option.some.inj hf)
                    subst e0
                    exact hret H locs ls _ dL_holds_494 (by first | rfl | (split <;> rfl) | (split <;> (first | rfl | (split <;> rfl))) | assumption) hS
                  · have hf := it_f hf c103
                    refine lv_iload_n hx hb dL_holds_434 rfl (lv_at hl 3 rfl) ?_
                    refine lv_aload_n hx hb dL_holds_435 rfl (lv_at hl 1 rfl) ?_
                    refine lv_iconst (v := (5 : Int32)) hx hb dL_holds_436 kc_iconst_5 ?_
                    obtain ⟨v104, hv104, hf⟩ := it_b hf
                    refine cQi (As := [.int (5 : Int32)]) (rest := [.int x2]) (q0 := 0) (ci := 5) S (c_X5_total l D cI cN ka a1 a2 a3 a4 h hq u q _ kx hi x n (5 : Int32) v104 hv104) (cwV 1 hts gL_holds_X5_total rfl rfl rfl (by decide +kernel) ⟨Nat.le_of_ble_eq_true rfl, Nat.le_of_ble_eq_true rfl⟩) hK hP hS hA hP rfl rfl rfl hl.1 rfl (Nat.le_of_ble_eq_true rfl) dL_holds_437 ⟨Nat.zero_le _, Nat.zero_le _⟩ (fun H locs hP hS => ?_)
                    refine lv_icmp_ne (tgt := 493) hx hb dL_holds_440 (by decide) (fun c105 => ?_) (fun c105 => ?_)
                    · have hf := it_f hf c105
                      refine lv_iconst (v := (0 : Int32)) hx hb dL_holds_493 kc_iconst_0 ?_
                      have e0 : (0 : Int32) = r0 := (Option.some.inj hf)
                      subst e0
                      exact hret H locs ls _ dL_holds_494 (by first | rfl | (split <;> rfl) | (split <;> (first | rfl | (split <;> rfl))) | assumption) hS
                    · have hf := it_t hf c105
                      refine lv_iload hx hb dL_holds_443 (lv_at hl 5 rfl) ?_
                      refine lv_iload_n hx hb dL_holds_445 rfl (lv_at hl 3 rfl) ?_
                      refine lv_icmp_ne (tgt := 493) hx hb dL_holds_446 (by decide) (fun c106 => ?_) (fun c106 => ?_)
                      · have hf := it_f hf c106
                        refine lv_iconst (v := (0 : Int32)) hx hb dL_holds_493 kc_iconst_0 ?_
                        have e0 : (0 : Int32) = r0 := (Option.some.inj hf)
                        subst e0
                        exact hret H locs ls _ dL_holds_494 (by first | rfl | (split <;> rfl) | (split <;> (first | rfl | (split <;> rfl))) | assumption) hS
                      · have hf := it_t hf c106
                        refine lv_iload hx hb dL_holds_449 (lv_at hl 6 rfl) ?_
                        refine lv_iload_n hx hb dL_holds_451 rfl (lv_at hl 3 rfl) ?_
                        refine lv_icmp_ne (tgt := 493) hx hb dL_holds_452 (by decide) (fun c107 => ?_) (fun c107 => ?_)
                        · have hf := it_f hf c107
                          refine lv_iconst (v := (0 : Int32)) hx hb dL_holds_493 kc_iconst_0 ?_
                          have e0 : (0 : Int32) = r0 := (Option.some.inj hf)
                          subst e0
                          exact hret H locs ls _ dL_holds_494 (by first | rfl | (split <;> rfl) | (split <;> (first | rfl | (split <;> rfl))) | assumption) hS
                        · have hf := it_t hf c107
                          refine lv_iload hx hb dL_holds_455 (lv_at hl 7 rfl) ?_
                          refine lv_iload_n hx hb dL_holds_457 rfl (lv_at hl 3 rfl) ?_
                          refine lv_icmp_ne (tgt := 493) hx hb dL_holds_458 (by decide) (fun c108 => ?_) (fun c108 => ?_)
                          · have hf := it_f hf c108
                            refine lv_iconst (v := (0 : Int32)) hx hb dL_holds_493 kc_iconst_0 ?_
                            have e0 : (0 : Int32) = r0 := (Option.some.inj hf)
                            subst e0
                            exact hret H locs ls _ dL_holds_494 (by first | rfl | (split <;> rfl) | (split <;> (first | rfl | (split <;> rfl))) | assumption) hS
                          · have hf := it_t hf c108
                            refine lv_aload_n hx hb dL_holds_461 rfl (lv_at hl 1 rfl) ?_
                            refine lv_bipush (v := (6 : Int32)) hx hb dL_holds_462 kc_bipush_6 ?_
                            obtain ⟨v109, hv109, hf⟩ := it_b hf
                            refine cQi (As := [.int (6 : Int32)]) (rest := []) (q0 := 0) (ci := 5) S (c_X5_total l D cI cN ka a1 a2 a3 a4 h hq u q _ kx hi x n (6 : Int32) v109 hv109) (cwV 1 hts gL_holds_X5_total rfl rfl rfl (by decide +kernel) ⟨Nat.le_of_ble_eq_true rfl, Nat.le_of_ble_eq_true rfl⟩) hK hP hS hA hP rfl rfl rfl hl.1 rfl (Nat.le_of_ble_eq_true rfl) dL_holds_464 ⟨Nat.zero_le _, Nat.zero_le _⟩ (fun H locs hP hS => ?_)
                            refine lv_aload_n hx hb dL_holds_467 rfl (lv_at hl 1 rfl) ?_
                            refine lv_iconst (v := (5 : Int32)) hx hb dL_holds_468 kc_iconst_5 ?_
                            obtain ⟨v110, hv110, hf⟩ := it_b hf
                            refine cQi (As := [.int (5 : Int32)]) (rest := [.int v109]) (q0 := 0) (ci := 5) S (c_X5_total l D cI cN ka a1 a2 a3 a4 h hq u q _ kx hi x n (5 : Int32) v110 hv110) (cwV 1 hts gL_holds_X5_total rfl rfl rfl (by decide +kernel) ⟨Nat.le_of_ble_eq_true rfl, Nat.le_of_ble_eq_true rfl⟩) hK hP hS hA hP rfl rfl rfl hl.1 rfl (Nat.le_of_ble_eq_true rfl) dL_holds_469 ⟨Nat.zero_le _, Nat.zero_le _⟩ (fun H locs hP hS => ?_)
                            refine lv_aload_n hx hb dL_holds_472 rfl (lv_at hl 1 rfl) ?_
                            refine lv_bipush (v := (7 : Int32)) hx hb dL_holds_473 kc_bipush_7 ?_
                            obtain ⟨v111, hv111, hf⟩ := it_b hf
                            refine cQi (As := [.int (7 : Int32)]) (rest := [.int v110, .int v109]) (q0 := 0) (ci := 5) S (c_X5_total l D cI cN ka a1 a2 a3 a4 h hq u q _ kx hi x n (7 : Int32) v111 hv111) (cwV 1 hts gL_holds_X5_total rfl rfl rfl (by decide +kernel) ⟨Nat.le_of_ble_eq_true rfl, Nat.le_of_ble_eq_true rfl⟩) hK hP hS hA hP rfl rfl rfl hl.1 rfl (Nat.le_of_ble_eq_true rfl) dL_holds_475 ⟨Nat.zero_le _, Nat.zero_le _⟩ (fun H locs hP hS => ?_)
                            refine lv_iadd hx hb dL_holds_478 ?_
                            refine lv_aload_n hx hb dL_holds_479 rfl (lv_at hl 1 rfl) ?_
                            refine lv_bipush (v := (8 : Int32)) hx hb dL_holds_480 kc_bipush_8 ?_
                            obtain ⟨v112, hv112, hf⟩ := it_b hf
                            refine cQi (As := [.int (8 : Int32)]) (rest := [.int (v110 + v111), .int v109]) (q0 := 0) (ci := 5) S (c_X5_total l D cI cN ka a1 a2 a3 a4 h hq u q _ kx hi x n (8 : Int32) v112 hv112) (cwV 1 hts gL_holds_X5_total rfl rfl rfl (by decide +kernel) ⟨Nat.le_of_ble_eq_true rfl, Nat.le_of_ble_eq_true rfl⟩) hK hP hS hA hP rfl rfl rfl hl.1 rfl (Nat.le_of_ble_eq_true rfl) dL_holds_482 ⟨Nat.zero_le _, Nat.zero_le _⟩ (fun H locs hP hS => ?_)
                            refine lv_iadd hx hb dL_holds_485 ?_
                            refine lv_icmp_ne (tgt := 493) hx hb dL_holds_486 (by decide) (fun c113 => ?_) (fun c113 => ?_)
                            · have hf := it_f hf c113
                              refine lv_iconst (v := (0 : Int32)) hx hb dL_holds_493 kc_iconst_0 ?_
                              have e0 : (0 : Int32) = r0 := (Option.some.inj hf)
                              subst e0
                              exact hret H locs ls _ dL_holds_494 (by first | rfl | (split <;> rfl) | (split <;> (first | rfl | (split <;> rfl))) | assumption) hS
                            · have hf := it_t hf c113
                              refine lv_iconst (v := (1 : Int32)) hx hb dL_holds_489 kc_iconst_1 ?_
                              refine lv_goto (tgt := 494) hx hb dL_holds_490 (by decide) ?_
                              have e0 : (1 : Int32) = r0 := (Option.some.inj hf)
                              subst e0
                              exact hret H locs ls _ dL_holds_494 (by first | rfl | (split <;> rfl) | (split <;> (first | rfl | (split <;> rfl))) | assumption) hS
            · have hf := it_f hf c88
              refine lv_iconst (v := (1 : Int32)) hx hb dL_holds_410 kc_iconst_1 ?_
              refine lv_goto (tgt := 415) hx hb dL_holds_411 (by decide) ?_
              refine lv_icmp_ne (tgt := 422) hx hb dL_holds_415 (by decide) (fun c114 => ?_) (fun c114 => ?_)
              · have hf := it_f hf c114
                refine lv_iconst (v := (0 : Int32)) hx hb dL_holds_422 kc_iconst_0 ?_
                refine lv_istore (lv' := [(7, .int (0 : Int32)), (0, .ref ka), (1, .int x1), (2, .int x2), (3, .int x3), (4, .int x4), (5, .int x5), (6, .int x6)]) hx hb dL_holds_423 hl (by decide) rfl (fun ls hl => ?_)
                refine lv_iload_n hx hb dL_holds_425 rfl (lv_at hl 4 rfl) ?_
                refine lv_if_eq (tgt := 493) hx hb dL_holds_426 (by decide) (fun c115 => ?_) (fun c115 => ?_)
                · have hf := it_t hf c115
                  refine lv_iconst (v := (0 : Int32)) hx hb dL_holds_493 kc_iconst_0 ?_
                  have e0 : (0 : Int32) = r0 := (Option.some.inj hf)
                  subst e0
                  exact hret H locs ls _ dL_holds_494 (by first | rfl | (split <;> rfl) | (split <;> (first | rfl | (split <;> rfl))) | assumption) hS
                · have hf := it_f hf c115
                  refine lv_iload hx hb dL_holds_429 (lv_at hl 0 rfl) ?_
                  refine lv_if_eq (tgt := 493) hx hb dL_holds_431 (by decide) (fun c116 => ?_) (fun c116 => ?_)
                  · have hf := it_t hf c116
                    refine lv_iconst (v := (0 : Int32)) hx hb dL_holds_493 kc_iconst_0 ?_
                    have e0 : (0 : Int32) = r0 := (Option.some.inj hf)
                    subst e0
                    exact hret H locs ls _ dL_holds_494 (by first | rfl | (split <;> rfl) | (split <;> (first | rfl | (split <;> rfl))) | assumption) hS
                  · have hf := it_f hf c116
                    refine lv_iload_n hx hb dL_holds_434 rfl (lv_at hl 3 rfl) ?_
                    refine lv_aload_n hx hb dL_holds_435 rfl (lv_at hl 1 rfl) ?_
                    refine lv_iconst (v := (5 : Int32)) hx hb dL_holds_436 kc_iconst_5 ?_
                    obtain ⟨v117, hv117, hf⟩ := it_b hf
                    refine cQi (As := [.int (5 : Int32)]) (rest := [.int x2]) (q0 := 0) (ci := 5) S (c_X5_total l D cI cN ka a1 a2 a3 a4 h hq u q _ kx hi x n (5 : Int32) v117 hv117) (cwV 1 hts gL_holds_X5_total rfl rfl rfl (by decide +kernel) ⟨Nat.le_of_ble_eq_true rfl, Nat.le_of_ble_eq_true rfl⟩) hK hP hS hA hP rfl rfl rfl hl.1 rfl (Nat.le_of_ble_eq_true rfl) dL_holds_437 ⟨Nat.zero_le _, Nat.zero_le _⟩ (fun H locs hP hS => ?_)
                    refine lv_icmp_ne (tgt := 493) hx hb dL_holds_440 (by decide) (fun c118 => ?_) (fun c118 => ?_)
                    · have hf := it_f hf c118
                      refine lv_iconst (v := (0 : Int32)) hx hb dL_holds_493 kc_iconst_0 ?_
                      have e0 : (0 : Int32) = r0 := (Option.some.inj hf)
                      subst e0
                      exact hret H locs ls _ dL_holds_494 (by first | rfl | (split <;> rfl) | (split <;> (first | rfl | (split <;> rfl))) | assumption) hS
                    · have hf := it_t hf c118
                      refine lv_iload hx hb dL_holds_443 (lv_at hl 5 rfl) ?_
                      refine lv_iload_n hx hb dL_holds_445 rfl (lv_at hl 3 rfl) ?_
                      refine lv_icmp_ne (tgt := 493) hx hb dL_holds_446 (by decide) (fun c119 => ?_) (fun c119 => ?_)
                      · have hf := it_f hf c119
                        refine lv_iconst (v := (0 : Int32)) hx hb dL_holds_493 kc_iconst_0 ?_
                        have e0 : (0 : Int32) = r0 := (Option.some.inj hf)
                        subst e0
                        exact hret H locs ls _ dL_holds_494 (by first | rfl | (split <;> rfl) | (split <;> (first | rfl | (split <;> rfl))) | assumption) hS
                      · have hf := it_t hf c119
                        refine lv_iload hx hb dL_holds_449 (lv_at hl 6 rfl) ?_
                        refine lv_iload_n hx hb dL_holds_451 rfl (lv_at hl 3 rfl) ?_
                        refine lv_icmp_ne (tgt := 493) hx hb dL_holds_452 (by decide) (fun c120 => ?_) (fun c120 => ?_)
                        · have hf := it_f hf c120
                          refine lv_iconst (v := (0 : Int32)) hx hb dL_holds_493 kc_iconst_0 ?_
                          have e0 : (0 : Int32) = r0 := (Option.some.inj hf)
                          subst e0
                          exact hret H locs ls _ dL_holds_494 (by first | rfl | (split <;> rfl) | (split <;> (first | rfl | (split <;> rfl))) | assumption) hS
                        · have hf := it_t hf c120
                          refine lv_iload hx hb dL_holds_455 (lv_at hl 7 rfl) ?_
                          refine lv_iload_n hx hb dL_holds_457 rfl (lv_at hl 3 rfl) ?_
                          refine lv_icmp_ne (tgt := 493) hx hb dL_holds_458 (by decide) (fun c121 => ?_) (fun c121 => ?_)
                          · have hf := it_f hf c121
                            refine lv_iconst (v := (0 : Int32)) hx hb dL_holds_493 kc_iconst_0 ?_
                            have e0 : (0 : Int32) = r0 := (Option.some.inj hf)
                            subst e0
                            exact hret H locs ls _ dL_holds_494 (by first | rfl | (split <;> rfl) | (split <;> (first | rfl | (split <;> rfl))) | assumption) hS
                          · have hf := it_t hf c121
                            refine lv_aload_n hx hb dL_holds_461 rfl (lv_at hl 1 rfl) ?_
                            refine lv_bipush (v := (6 : Int32)) hx hb dL_holds_462 kc_bipush_6 ?_
                            obtain ⟨v122, hv122, hf⟩ := it_b hf
                            refine cQi (As := [.int (6 : Int32)]) (rest := []) (q0 := 0) (ci := 5) S (c_X5_total l D cI cN ka a1 a2 a3 a4 h hq u q _ kx hi x n (6 : Int32) v122 hv122) (cwV 1 hts gL_holds_X5_total rfl rfl rfl (by decide +kernel) ⟨Nat.le_of_ble_eq_true rfl, Nat.le_of_ble_eq_true rfl⟩) hK hP hS hA hP rfl rfl rfl hl.1 rfl (Nat.le_of_ble_eq_true rfl) dL_holds_464 ⟨Nat.zero_le _, Nat.zero_le _⟩ (fun H locs hP hS => ?_)
                            refine lv_aload_n hx hb dL_holds_467 rfl (lv_at hl 1 rfl) ?_
                            refine lv_iconst (v := (5 : Int32)) hx hb dL_holds_468 kc_iconst_5 ?_
                            obtain ⟨v123, hv123, hf⟩ := it_b hf
                            refine cQi (As := [.int (5 : Int32)]) (rest := [.int v122]) (q0 := 0) (ci := 5) S (c_X5_total l D cI cN ka a1 a2 a3 a4 h hq u q _ kx hi x n (5 : Int32) v123 hv123) (cwV 1 hts gL_holds_X5_total rfl rfl rfl (by decide +kernel) ⟨Nat.le_of_ble_eq_true rfl, Nat.le_of_ble_eq_true rfl⟩) hK hP hS hA hP rfl rfl rfl hl.1 rfl (Nat.le_of_ble_eq_true rfl) dL_holds_469 ⟨Nat.zero_le _, Nat.zero_le _⟩ (fun H locs hP hS => ?_)
                            refine lv_aload_n hx hb dL_holds_472 rfl (lv_at hl 1 rfl) ?_
                            refine lv_bipush (v := (7 : Int32)) hx hb dL_holds_473 kc_bipush_7 ?_
                            obtain ⟨v124, hv124, hf⟩ := it_b hf
                            refine cQi (As := [.int (7 : Int32)]) (rest := [.int v123, .int v122]) (q0 := 0) (ci := 5) S (c_X5_total l D cI cN ka a1 a2 a3 a4 h hq u q _ kx hi x n (7 : Int32) v124 hv124) (cwV 1 hts gL_holds_X5_total rfl rfl rfl (by decide +kernel) ⟨Nat.le_of_ble_eq_true rfl, Nat.le_of_ble_eq_true rfl⟩) hK hP hS hA hP rfl rfl rfl hl.1 rfl (Nat.le_of_ble_eq_true rfl) dL_holds_475 ⟨Nat.zero_le _, Nat.zero_le _⟩ (fun H locs hP hS => ?_)
                            refine lv_iadd hx hb dL_holds_478 ?_
                            refine lv_aload_n hx hb dL_holds_479 rfl (lv_at hl 1 rfl) ?_
                            refine lv_bipush (v := (8 : Int32)) hx hb dL_holds_480 kc_bipush_8 ?_
                            obtain ⟨v125, hv125, hf⟩ := it_b hf
                            refine cQi (As := [.int (8 : Int32)]) (rest := [.int (v123 + v124), .int v122]) (q0 := 0) (ci := 5) S (c_X5_total l D cI cN ka a1 a2 a3 a4 h hq u q _ kx hi x n (8 : Int32) v125 hv125) (cwV 1 hts gL_holds_X5_total rfl rfl rfl (by decide +kernel) ⟨Nat.le_of_ble_eq_true rfl, Nat.le_of_ble_eq_true rfl⟩) hK hP hS hA hP rfl rfl rfl hl.1 rfl (Nat.le_of_ble_eq_true rfl) dL_holds_482 ⟨Nat.zero_le _, Nat.zero_le _⟩ (fun H locs hP hS => ?_)
                            refine lv_iadd hx hb dL_holds_485 ?_
                            refine lv_icmp_ne (tgt := 493) hx hb dL_holds_486 (by decide) (fun c126 => ?_) (fun c126 => ?_)
                            · have hf := it_f hf c126
                              refine lv_iconst (v := (0 : Int32)) hx hb dL_holds_493 kc_iconst_0 ?_
                              have e0 : (0 : Int32) = r0 := (Option.some.inj hf)
                              subst e0
                              exact hret H locs ls _ dL_holds_494 (by first | rfl | (split <;> rfl) | (split <;> (first | rfl | (split <;> rfl))) | assumption) hS
                            · have hf := it_t hf c126
                              refine lv_iconst (v := (1 : Int32)) hx hb dL_holds_489 kc_iconst_1 ?_
                              refine lv_goto (tgt := 494) hx hb dL_holds_490 (by decide) ?_
                              have e0 : (1 : Int32) = r0 := (Option.some.inj hf)
                              subst e0
                              exact hret H locs ls _ dL_holds_494 (by first | rfl | (split <;> rfl) | (split <;> (first | rfl | (split <;> rfl))) | assumption) hS
              · have hf := it_t hf c114
                refine lv_iconst (v := (1 : Int32)) hx hb dL_holds_418 kc_iconst_1 ?_
                refine lv_goto (tgt := 423) hx hb dL_holds_419 (by decide) ?_
                refine lv_istore (lv' := [(7, .int (1 : Int32)), (0, .ref ka), (1, .int x1), (2, .int x2), (3, .int x3), (4, .int x4), (5, .int x5), (6, .int x6)]) hx hb dL_holds_423 hl (by decide) rfl (fun ls hl => ?_)
                refine lv_iload_n hx hb dL_holds_425 rfl (lv_at hl 4 rfl) ?_
                refine lv_if_eq (tgt := 493) hx hb dL_holds_426 (by decide) (fun c127 => ?_) (fun c127 => ?_)
                · have hf := it_t hf c127
                  refine lv_iconst (v := (0 : Int32)) hx hb dL_holds_493 kc_iconst_0 ?_
                  have e0 : (0 : Int32) = r0 := (Option.some.inj hf)
                  subst e0
                  exact hret H locs ls _ dL_holds_494 (by first | rfl | (split <;> rfl) | (split <;> (first | rfl | (split <;> rfl))) | assumption) hS
                · have hf := it_f hf c127
                  refine lv_iload hx hb dL_holds_429 (lv_at hl 0 rfl) ?_
                  refine lv_if_eq (tgt := 493) hx hb dL_holds_431 (by decide) (fun c128 => ?_) (fun c128 => ?_)
                  · have hf := it_t hf c128
                    refine lv_iconst (v := (0 : Int32)) hx hb dL_holds_493 kc_iconst_0 ?_
                    have e0 : (0 : Int32) = r0 := (Option.some.inj hf)
                    subst e0
                    exact hret H locs ls _ dL_holds_494 (by first | rfl | (split <;> rfl) | (split <;> (first | rfl | (split <;> rfl))) | assumption) hS
                  · have hf := it_f hf c128
                    refine lv_iload_n hx hb dL_holds_434 rfl (lv_at hl 3 rfl) ?_
                    refine lv_aload_n hx hb dL_holds_435 rfl (lv_at hl 1 rfl) ?_
                    refine lv_iconst (v := (5 : Int32)) hx hb dL_holds_436 kc_iconst_5 ?_
                    obtain ⟨v129, hv129, hf⟩ := it_b hf
                    refine cQi (As := [.int (5 : Int32)]) (rest := [.int x2]) (q0 := 0) (ci := 5) S (c_X5_total l D cI cN ka a1 a2 a3 a4 h hq u q _ kx hi x n (5 : Int32) v129 hv129) (cwV 1 hts gL_holds_X5_total rfl rfl rfl (by decide +kernel) ⟨Nat.le_of_ble_eq_true rfl, Nat.le_of_ble_eq_true rfl⟩) hK hP hS hA hP rfl rfl rfl hl.1 rfl (Nat.le_of_ble_eq_true rfl) dL_holds_437 ⟨Nat.zero_le _, Nat.zero_le _⟩ (fun H locs hP hS => ?_)
                    refine lv_icmp_ne (tgt := 493) hx hb dL_holds_440 (by decide) (fun c130 => ?_) (fun c130 => ?_)
                    · have hf := it_f hf c130
                      refine lv_iconst (v := (0 : Int32)) hx hb dL_holds_493 kc_iconst_0 ?_
                      have e0 : (0 : Int32) = r0 := (Option.some.inj hf)
                      subst e0
                      exact hret H locs ls _ dL_holds_494 (by first | rfl | (split <;> rfl) | (split <;> (first | rfl | (split <;> rfl))) | assumption) hS
                    · have hf := it_t hf c130
                      refine lv_iload hx hb dL_holds_443 (lv_at hl 5 rfl) ?_
                      refine lv_iload_n hx hb dL_holds_445 rfl (lv_at hl 3 rfl) ?_
                      refine lv_icmp_ne (tgt := 493) hx hb dL_holds_446 (by decide) (fun c131 => ?_) (fun c131 => ?_)
                      · have hf := it_f hf c131
                        refine lv_iconst (v := (0 : Int32)) hx hb dL_holds_493 kc_iconst_0 ?_
                        have e0 : (0 : Int32) = r0 := (Option.some.inj hf)
                        subst e0
                        exact hret H locs ls _ dL_holds_494 (by first | rfl | (split <;> rfl) | (split <;> (first | rfl | (split <;> rfl))) | assumption) hS
                      · have hf := it_t hf c131
                        refine lv_iload hx hb dL_holds_449 (lv_at hl 6 rfl) ?_
                        refine lv_iload_n hx hb dL_holds_451 rfl (lv_at hl 3 rfl) ?_
                        refine lv_icmp_ne (tgt := 493) hx hb dL_holds_452 (by decide) (fun c132 => ?_) (fun c132 => ?_)
                        · have hf := it_f hf c132
                          refine lv_iconst (v := (0 : Int32)) hx hb dL_holds_493 kc_iconst_0 ?_
                          have e0 : (0 : Int32) = r0 := (Option.some.inj hf)
                          subst e0
                          exact hret H locs ls _ dL_holds_494 (by first | rfl | (split <;> rfl) | (split <;> (first | rfl | (split <;> rfl))) | assumption) hS
                        · have hf := it_t hf c132
                          refine lv_iload hx hb dL_holds_455 (lv_at hl 7 rfl) ?_
                          refine lv_iload_n hx hb dL_holds_457 rfl (lv_at hl 3 rfl) ?_
                          refine lv_icmp_ne (tgt := 493) hx hb dL_holds_458 (by decide) (fun c133 => ?_) (fun c133 => ?_)
                          · have hf := it_f hf c133
                            refine lv_iconst (v := (0 : Int32)) hx hb dL_holds_493 kc_iconst_0 ?_
                            have e0 : (0 : Int32) = r0 := (Option.some.inj hf)
                            subst e0
                            exact hret H locs ls _ dL_holds_494 (by first | rfl | (split <;> rfl) | (split <;> (first | rfl | (split <;> rfl))) | assumption) hS
                          · have hf := it_t hf c133
                            refine lv_aload_n hx hb dL_holds_461 rfl (lv_at hl 1 rfl) ?_
                            refine lv_bipush (v := (6 : Int32)) hx hb dL_holds_462 kc_bipush_6 ?_
                            obtain ⟨v134, hv134, hf⟩ := it_b hf
                            refine cQi (As := [.int (6 : Int32)]) (rest := []) (q0 := 0) (ci := 5) S (c_X5_total l D cI cN ka a1 a2 a3 a4 h hq u q _ kx hi x n (6 : Int32) v134 hv134) (cwV 1 hts gL_holds_X5_total rfl rfl rfl (by decide +kernel) ⟨Nat.le_of_ble_eq_true rfl, Nat.le_of_ble_eq_true rfl⟩) hK hP hS hA hP rfl rfl rfl hl.1 rfl (Nat.le_of_ble_eq_true rfl) dL_holds_464 ⟨Nat.zero_le _, Nat.zero_le _⟩ (fun H locs hP hS => ?_)
                            refine lv_aload_n hx hb dL_holds_467 rfl (lv_at hl 1 rfl) ?_
                            refine lv_iconst (v := (5 : Int32)) hx hb dL_holds_468 kc_iconst_5 ?_
                            obtain ⟨v135, hv135, hf⟩ := it_b hf
                            refine cQi (As := [.int (5 : Int32)]) (rest := [.int v134]) (q0 := 0) (ci := 5) S (c_X5_total l D cI cN ka a1 a2 a3 a4 h hq u q _ kx hi x n (5 : Int32) v135 hv135) (cwV 1 hts gL_holds_X5_total rfl rfl rfl (by decide +kernel) ⟨Nat.le_of_ble_eq_true rfl, Nat.le_of_ble_eq_true rfl⟩) hK hP hS hA hP rfl rfl rfl hl.1 rfl (Nat.le_of_ble_eq_true rfl) dL_holds_469 ⟨Nat.zero_le _, Nat.zero_le _⟩ (fun H locs hP hS => ?_)
                            refine lv_aload_n hx hb dL_holds_472 rfl (lv_at hl 1 rfl) ?_
                            refine lv_bipush (v := (7 : Int32)) hx hb dL_holds_473 kc_bipush_7 ?_
                            obtain ⟨v136, hv136, hf⟩ := it_b hf
                            refine cQi (As := [.int (7 : Int32)]) (rest := [.int v135, .int v134]) (q0 := 0) (ci := 5) S (c_X5_total l D cI cN ka a1 a2 a3 a4 h hq u q _ kx hi x n (7 : Int32) v136 hv136) (cwV 1 hts gL_holds_X5_total rfl rfl rfl (by decide +kernel) ⟨Nat.le_of_ble_eq_true rfl, Nat.le_of_ble_eq_true rfl⟩) hK hP hS hA hP rfl rfl rfl hl.1 rfl (Nat.le_of_ble_eq_true rfl) dL_holds_475 ⟨Nat.zero_le _, Nat.zero_le _⟩ (fun H locs hP hS => ?_)
                            refine lv_iadd hx hb dL_holds_478 ?_
                            refine lv_aload_n hx hb dL_holds_479 rfl (lv_at hl 1 rfl) ?_
                            refine lv_bipush (v := (8 : Int32)) hx hb dL_holds_480 kc_bipush_8 ?_
                            obtain ⟨v137, hv137, hf⟩ := it_b hf
                            refine cQi (As := [.int (8 : Int32)]) (rest := [.int (v135 + v136), .int v134]) (q0 := 0) (ci := 5) S (c_X5_total l D cI cN ka a1 a2 a3 a4 h hq u q _ kx hi x n (8 : Int32) v137 hv137) (cwV 1 hts gL_holds_X5_total rfl rfl rfl (by decide +kernel) ⟨Nat.le_of_ble_eq_true rfl, Nat.le_of_ble_eq_true rfl⟩) hK hP hS hA hP rfl rfl rfl hl.1 rfl (Nat.le_of_ble_eq_true rfl) dL_holds_482 ⟨Nat.zero_le _, Nat.zero_le _⟩ (fun H locs hP hS => ?_)
                            refine lv_iadd hx hb dL_holds_485 ?_
                            refine lv_icmp_ne (tgt := 493) hx hb dL_holds_486 (by decide) (fun c138 => ?_) (fun c138 => ?_)
                            · have hf := it_f hf c138
                              refine lv_iconst (v := (0 : Int32)) hx hb dL_holds_493 kc_iconst_0 ?_
                              have e0 : (0 : Int32) = r0 := (Option.some.inj hf)
                              subst e0
                              exact hret H locs ls _ dL_holds_494 (by first | rfl | (split <;> rfl) | (split <;> (first | rfl | (split <;> rfl))) | assumption) hS
                            · have hf := it_t hf c138
                              refine lv_iconst (v := (1 : Int32)) hx hb dL_holds_489 kc_iconst_1 ?_
                              refine lv_goto (tgt := 494) hx hb dL_holds_490 (by decide) ?_
                              have e0 : (1 : Int32) = r0 := (Option.some.inj hf)
                              subst e0
                              exact hret H locs ls _ dL_holds_494 (by first | rfl | (split <;> rfl) | (split <;> (first | rfl | (split <;> rfl))) | assumption) hS
    · have hf := it_f hf c5
      refine lv_iload hx hb dL_holds_178 (lv_at hl 4 rfl) ?_
      refine lv_aload_n hx hb dL_holds_180 rfl (lv_at hl 0 rfl) ?_
      refine lv_iload hx hb dL_holds_181 (lv_at hl 7 rfl) ?_
      obtain ⟨v139, hv139, hf⟩ := it_b hf
      refine cQi (As := [.int x7]) (rest := [.int x4]) (q0 := 0) (ci := 5) S (c_X5_load l D cI cN ka a1 a2 a3 a4 (h 0) (u 0) q _ kx n x7 v139 hv139) (cwV 1 hts gL_holds_X5_load rfl rfl rfl (by decide +kernel) ⟨Nat.le_of_ble_eq_true rfl, Nat.le_of_ble_eq_true rfl⟩) hK hP hS hA (P_sel [(true, (cxW ka (q 0) a1 a2 a3 a4 (h 0) (u 0) (kx.1 7)), (cxW ka (q 0) a1 a2 a3 a4 (h 0) (u 0) (kx.1 7))), (false, (hiW cI cN h hq hi), (hiW cI cN h hq hi)), (false, (txW cI u x), (txW cI u x)), (true, (nwW cI q n), (nwW cI q n))] hP) rfl rfl rfl hl.1 rfl (Nat.le_of_ble_eq_true rfl) dL_holds_183 ⟨Nat.zero_le _, Nat.zero_le _⟩ (fun H locs hP hS => ?_)
      refine lv_iadd hx hb dL_holds_186 ?_
      refine lv_istore (lv' := [(4, .int (x4 + v139)), (0, .ref ka), (1, .int x1), (2, .int x2), (3, .int x3), (5, .int x5), (6, .int x6), (7, .int x7)]) hx hb dL_holds_187 hl (by decide) rfl (fun ls hl => ?_)
      refine lv_iconst (v := (0 : Int32)) hx hb dL_holds_189 kc_iconst_0 ?_
      refine lv_istore (lv' := [(8, .int (0 : Int32)), (4, .int (x4 + v139)), (0, .ref ka), (1, .int x1), (2, .int x2), (3, .int x3), (5, .int x5), (6, .int x6), (7, .int x7)]) hx hb dL_holds_190 hl (by decide) rfl (fun ls hl => ?_)
      obtain ⟨v163, hv163, hf⟩ := it_b hf
      refine w_L_holds_192 S hK _ _ _ _ _ _ hv163 H locs ls hP hS (lv_sub hl [2, 3, 4, 5, 1, 6, 7, 8, 0] rfl) (fun H locs ls hP hS hl => ?_)
      refine lv_iinc (v := (x7 + (1 : Int32))) (lv' := [(7, .int (x7 + (1 : Int32))), (0, .ref ka), (1, .int x1), (2, .int x2), (3, .int v163.1), (4, .int (x4 + v139)), (5, .int v163.2.1), (6, .int v163.2.2)]) hx hb dL_holds_366 hl (k := 7) rfl rfl (by decide) rfl (fun ls hl => ?_)
      refine lv_goto (tgt := 168) hx hb dL_holds_369 (by decide) ?_
      exact ih _ _ _ _ _ hf H locs ls hP hS (lv_sub hl [1, 2, 3, 4, 5, 6, 7, 0] rfl)
set_option maxRecDepth 100000 in
set_option maxHeartbeats 4000000 in
theorem w_L_holds_13 {p : Program} {l : Launch} {e : Env} {s : State} {m : MethodId} {args : Array Value} {below : List Frame} {meth : Method} {c : Code} {Q : State → Prop} {D : va_G} {cI cN : ClassId} {ka a1 a2 a3 a4 : Nat} {h : Nat → Nat} {hq : Nat → Nat → Nat} {u : Nat → Nat} {q : Nat → Nat} (S : CallFix p m c cL_holds 12 s args wsL_holds RL) (hK : KN D cI cN s) {kx : OS} {hi : HS} {x : OS} {n : OS} {x1 : Int32} {r0 : Int32} (hret : ∀ (H : Heap) (locs : List Loc) (ls : Array Slot) (pc : Nat), decode cL_holds pc = .ok (.ireturn, 1) → narrow .boolean (.int r0) = .int r0 → va_S (nwA s.heap.size) s.heap H locs → W p l e (headSpec wsL_holds rm_L_holds).room s m args below meth c H locs 0 0 Q (F0 m pc ls [.int r0])) : ∀ (k : Nat) (x2 : Int32) (x3 : Int32) (x4 : Int32), fL_holds_13 kx hi x n x1 k x2 x3 x4 = some r0 → ∀ (H : Heap) (locs : List Loc) (ls : Array Slot), va_P D vwCl ((cxW ka (q 0) a1 a2 a3 a4 (h 0) (u 0) (kx.1 7)) ++ ((hiW cI cN h hq hi) ++ ((txW cI u x) ++ (nwW cI q n)))) H → va_S (nwA s.heap.size) s.heap H locs → lv_has ls 12 [(0, .ref ka), (1, .int x1), (2, .int x2), (3, .int x3), (4, .int x4)] → W p l e (headSpec wsL_holds rm_L_holds).room s m args below meth c H locs 0 0 Q (F0 m 13 ls []) := by
  obtain ⟨hx, hb, hml, hown, hts⟩ := id S
  have hA : ∀ q : Nat, s.heap.size ≤ q → nwA s.heap.size q := fun _ h => h
  intro k
  induction k with
  | zero => intro x2 x3 x4 hf; rw [fL_holds_13_z] at hf; cases hf
  | succ k ih =>
    intro x2 x3 x4 hf H locs ls hP hS hl
    rw [fL_holds_13_s] at hf
    refine lv_iload hx hb dL_holds_13 (lv_at hl 4 rfl) ?_
    refine lv_aload_n hx hb dL_holds_15 rfl (lv_at hl 0 rfl) ?_
    refine lv_iconst (v := (0 : Int32)) hx hb dL_holds_16 kc_iconst_0 ?_
    obtain ⟨v2, hv2, hf⟩ := it_b hf
    refine cQi (As := [.int (0 : Int32)]) (rest := [.int x4]) (q0 := 0) (ci := 5) S (c_X5_total l D cI cN ka a1 a2 a3 a4 h hq u q _ kx hi x n (0 : Int32) v2 hv2) (cwV 1 hts gL_holds_X5_total rfl rfl rfl (by decide +kernel) ⟨Nat.le_of_ble_eq_true rfl, Nat.le_of_ble_eq_true rfl⟩) hK hP hS hA hP rfl rfl rfl hl.1 rfl (Nat.le_of_ble_eq_true rfl) dL_holds_17 ⟨Nat.zero_le _, Nat.zero_le _⟩ (fun H locs hP hS => ?_)
    refine lv_iload_n hx hb dL_holds_20 rfl (lv_at hl 1 rfl) ?_
    refine lv_imul hx hb dL_holds_21 ?_
    refine lv_icmp_ge (tgt := 156) hx hb dL_holds_22 (by decide) (fun c3 => ?_) (fun c3 => ?_)
    · have hf := it_t hf c3
      refine lv_iconst (v := (0 : Int32)) hx hb dL_holds_156 kc_iconst_0 ?_
      refine lv_istore (lv' := [(4, .int (0 : Int32)), (0, .ref ka), (1, .int x1), (2, .int x2), (3, .int x3)]) hx hb dL_holds_157 hl (by decide) rfl (fun ls hl => ?_)
      refine lv_iconst (v := (0 : Int32)) hx hb dL_holds_159 kc_iconst_0 ?_
      refine lv_istore (lv' := [(5, .int (0 : Int32)), (4, .int (0 : Int32)), (0, .ref ka), (1, .int x1), (2, .int x2), (3, .int x3)]) hx hb dL_holds_160 hl (by decide) rfl (fun ls hl => ?_)
      refine lv_iconst (v := (0 : Int32)) hx hb dL_holds_162 kc_iconst_0 ?_
      refine lv_istore (lv' := [(6, .int (0 : Int32)), (5, .int (0 : Int32)), (4, .int (0 : Int32)), (0, .ref ka), (1, .int x1), (2, .int x2), (3, .int x3)]) hx hb dL_holds_163 hl (by decide) rfl (fun ls hl => ?_)
      refine lv_iconst (v := (0 : Int32)) hx hb dL_holds_165 kc_iconst_0 ?_
      refine lv_istore (lv' := [(7, .int (0 : Int32)), (6, .int (0 : Int32)), (5, .int (0 : Int32)), (4, .int (0 : Int32)), (0, .ref ka), (1, .int x1), (2, .int x2), (3, .int x3)]) hx hb dL_holds_166 hl (by decide) rfl (fun ls hl => ?_)
      exact w_L_holds_168 S hK hret _ _ _ _ _ _ hf H locs ls hP hS (lv_sub hl [4, 5, 6, 7, 3, 2, 1, 0] rfl)
    · have hf := it_f hf c3
      refine lv_aload_n hx hb dL_holds_25 rfl (lv_at hl 0 rfl) ?_
      refine lv_iload hx hb dL_holds_26 (lv_at hl 4 rfl) ?_
      refine cQi (As := [.int x4]) (rest := []) (q0 := 0) (ci := 5) S (c_X5_callOfInlet l D cI cN ka a1 a2 a3 a4 (h 0) (u 0) q _ kx n x4 (fX5_callOfInlet kx n x4) rfl) (cwV 1 hts gL_holds_X5_callOfInlet rfl rfl rfl (by decide +kernel) ⟨Nat.le_of_ble_eq_true rfl, Nat.le_of_ble_eq_true rfl⟩) hK hP hS hA (P_sel [(true, (cxW ka (q 0) a1 a2 a3 a4 (h 0) (u 0) (kx.1 7)), (cxW ka (q 0) a1 a2 a3 a4 (h 0) (u 0) (kx.1 7))), (false, (hiW cI cN h hq hi), (hiW cI cN h hq hi)), (false, (txW cI u x), (txW cI u x)), (true, (nwW cI q n), (nwW cI q n))] hP) rfl rfl rfl hl.1 rfl (Nat.le_of_ble_eq_true rfl) dL_holds_28 ⟨Nat.zero_le _, Nat.zero_le _⟩ (fun H locs hP hS => ?_)
      refine lv_istore (lv' := [(5, .int (fX5_callOfInlet kx n x4)), (0, .ref ka), (1, .int x1), (2, .int x2), (3, .int x3), (4, .int x4)]) hx hb dL_holds_31 hl (by decide) rfl (fun ls hl => ?_)
      refine lv_iload hx hb dL_holds_33 (lv_at hl 0 rfl) ?_
      refine lv_bipush (v := (-6 : Int32)) hx hb dL_holds_35 kc_bipush_m6 ?_
      refine lv_icmp_eq (tgt := 150) hx hb dL_holds_37 (by decide) (fun c164 => ?_) (fun c164 => ?_)
      · have hf := it_t hf c164
        refine lv_iinc (v := (x4 + (1 : Int32))) (lv' := [(4, .int (x4 + (1 : Int32))), (5, .int (fX5_callOfInlet kx n x4)), (0, .ref ka), (1, .int x1), (2, .int x2), (3, .int x3)]) hx hb dL_holds_150 hl (k := 5) rfl rfl (by decide) rfl (fun ls hl => ?_)
        refine lv_goto (tgt := 13) hx hb dL_holds_153 (by decide) ?_
        exact ih _ _ _ hf H locs ls hP hS (lv_sub hl [2, 3, 4, 5, 0] rfl)
      · have hf := it_f hf c164
        refine lv_aload_n hx hb dL_holds_40 rfl (lv_at hl 1 rfl) ?_
        refine lv_iload hx hb dL_holds_41 (lv_at hl 0 rfl) ?_
        obtain ⟨v165, hv165, hf⟩ := it_b hf
        refine cQi (As := [.int (fX5_callOfInlet kx n x4)]) (rest := []) (q0 := 0) (ci := 5) S (c_X5_middleOf l D cI cN ka a1 a2 a3 a4 (h 0) (u 0) q _ kx n (fX5_callOfInlet kx n x4) v165 hv165) (cwV 1 hts gL_holds_X5_middleOf rfl rfl rfl (by decide +kernel) ⟨Nat.le_of_ble_eq_true rfl, Nat.le_of_ble_eq_true rfl⟩) hK hP hS hA (P_sel [(true, (cxW ka (q 0) a1 a2 a3 a4 (h 0) (u 0) (kx.1 7)), (cxW ka (q 0) a1 a2 a3 a4 (h 0) (u 0) (kx.1 7))), (false, (hiW cI cN h hq hi), (hiW cI cN h hq hi)), (false, (txW cI u x), (txW cI u x)), (true, (nwW cI q n), (nwW cI q n))] hP) rfl rfl rfl hl.1 rfl (Nat.le_of_ble_eq_true rfl) dL_holds_43 ⟨Nat.zero_le _, Nat.zero_le _⟩ (fun H locs hP hS => ?_)
        refine lv_istore (lv' := [(6, .int v165), (5, .int (fX5_callOfInlet kx n x4)), (0, .ref ka), (1, .int x1), (2, .int x2), (3, .int x3), (4, .int x4)]) hx hb dL_holds_46 hl (by decide) rfl (fun ls hl => ?_)
        refine lv_aload_n hx hb dL_holds_48 rfl (lv_at hl 2 rfl) ?_
        refine lv_iload hx hb dL_holds_49 (lv_at hl 1 rfl) ?_
        obtain ⟨v166, hv166, hf⟩ := it_b hf
        refine cQi (As := [.int (fX5_callOfInlet kx n x4)]) (rest := []) (q0 := 0) (ci := 5) S (c_X5_outletOf l D cI cN ka a1 a2 a3 a4 (h 0) (u 0) q _ kx n (fX5_callOfInlet kx n x4) v166 hv166) (cwV 1 hts gL_holds_X5_outletOf rfl rfl rfl (by decide +kernel) ⟨Nat.le_of_ble_eq_true rfl, Nat.le_of_ble_eq_true rfl⟩) hK hP hS hA (P_sel [(true, (cxW ka (q 0) a1 a2 a3 a4 (h 0) (u 0) (kx.1 7)), (cxW ka (q 0) a1 a2 a3 a4 (h 0) (u 0) (kx.1 7))), (false, (hiW cI cN h hq hi), (hiW cI cN h hq hi)), (false, (txW cI u x), (txW cI u x)), (true, (nwW cI q n), (nwW cI q n))] hP) rfl rfl rfl hl.1 rfl (Nat.le_of_ble_eq_true rfl) dL_holds_51 ⟨Nat.zero_le _, Nat.zero_le _⟩ (fun H locs hP hS => ?_)
        refine lv_istore (lv' := [(7, .int v166), (6, .int v165), (5, .int (fX5_callOfInlet kx n x4)), (0, .ref ka), (1, .int x1), (2, .int x2), (3, .int x3), (4, .int x4)]) hx hb dL_holds_54 hl (by decide) rfl (fun ls hl => ?_)
        refine lv_iinc (v := (x2 + (1 : Int32))) (lv' := [(2, .int (x2 + (1 : Int32))), (7, .int v166), (6, .int v165), (5, .int (fX5_callOfInlet kx n x4)), (0, .ref ka), (1, .int x1), (3, .int x3), (4, .int x4)]) hx hb dL_holds_56 hl (k := 5) rfl rfl (by decide) rfl (fun ls hl => ?_)
        refine lv_iload_n hx hb dL_holds_59 rfl (lv_at hl 6 rfl) ?_
        refine lv_if_eq (tgt := 148) hx hb dL_holds_60 (by decide) (fun c167 => ?_) (fun c167 => ?_)
        · have hf := it_t hf c167
          refine lv_iconst (v := (0 : Int32)) hx hb dL_holds_148 kc_iconst_0 ?_
          refine lv_istore_n (lv' := [(3, .int (0 : Int32)), (2, .int (x2 + (1 : Int32))), (7, .int v166), (6, .int v165), (5, .int (fX5_callOfInlet kx n x4)), (0, .ref ka), (1, .int x1), (4, .int x4)]) hx hb dL_holds_149 rfl hl (by decide) rfl (fun ls hl => ?_)
          refine lv_iinc (v := (x4 + (1 : Int32))) (lv' := [(4, .int (x4 + (1 : Int32))), (3, .int (0 : Int32)), (2, .int (x2 + (1 : Int32))), (7, .int v166), (6, .int v165), (5, .int (fX5_callOfInlet kx n x4)), (0, .ref ka), (1, .int x1)]) hx hb dL_holds_150 hl (k := 7) rfl rfl (by decide) rfl (fun ls hl => ?_)
          refine lv_goto (tgt := 13) hx hb dL_holds_153 (by decide) ?_
          exact ih _ _ _ hf H locs ls hP hS (lv_sub hl [6, 7, 2, 1, 0] rfl)
        · have hf := it_f hf c167
          refine lv_iload hx hb dL_holds_63 (lv_at hl 3 rfl) ?_
          refine lv_if_lt (tgt := 148) hx hb dL_holds_65 (by decide) (fun c168 => ?_) (fun c168 => ?_)
          · have hf := it_t hf c168
            refine lv_iconst (v := (0 : Int32)) hx hb dL_holds_148 kc_iconst_0 ?_
            refine lv_istore_n (lv' := [(3, .int (0 : Int32)), (2, .int (x2 + (1 : Int32))), (7, .int v166), (6, .int v165), (5, .int (fX5_callOfInlet kx n x4)), (0, .ref ka), (1, .int x1), (4, .int x4)]) hx hb dL_holds_149 rfl hl (by decide) rfl (fun ls hl => ?_)
            refine lv_iinc (v := (x4 + (1 : Int32))) (lv' := [(4, .int (x4 + (1 : Int32))), (3, .int (0 : Int32)), (2, .int (x2 + (1 : Int32))), (7, .int v166), (6, .int v165), (5, .int (fX5_callOfInlet kx n x4)), (0, .ref ka), (1, .int x1)]) hx hb dL_holds_150 hl (k := 7) rfl rfl (by decide) rfl (fun ls hl => ?_)
            refine lv_goto (tgt := 13) hx hb dL_holds_153 (by decide) ?_
            exact ih _ _ _ hf H locs ls hP hS (lv_sub hl [6, 7, 2, 1, 0] rfl)
          · have hf := it_f hf c168
            refine lv_iload hx hb dL_holds_68 (lv_at hl 3 rfl) ?_
            refine lv_aload_n hx hb dL_holds_70 rfl (lv_at hl 4 rfl) ?_
            refine lv_bipush (v := (6 : Int32)) hx hb dL_holds_71 kc_bipush_6 ?_
            obtain ⟨v169, hv169, hf⟩ := it_b hf
            refine cQi (As := [.int (6 : Int32)]) (rest := [.int (fX5_callOfInlet kx n x4)]) (q0 := 0) (ci := 5) S (c_X5_total l D cI cN ka a1 a2 a3 a4 h hq u q _ kx hi x n (6 : Int32) v169 hv169) (cwV 1 hts gL_holds_X5_total rfl rfl rfl (by decide +kernel) ⟨Nat.le_of_ble_eq_true rfl, Nat.le_of_ble_eq_true rfl⟩) hK hP hS hA hP rfl rfl rfl hl.1 rfl (Nat.le_of_ble_eq_true rfl) dL_holds_73 ⟨Nat.zero_le _, Nat.zero_le _⟩ (fun H locs hP hS => ?_)
            refine lv_icmp_ge (tgt := 148) hx hb dL_holds_76 (by decide) (fun c170 => ?_) (fun c170 => ?_)
            · have hf := it_t hf c170
              refine lv_iconst (v := (0 : Int32)) hx hb dL_holds_148 kc_iconst_0 ?_
              refine lv_istore_n (lv' := [(3, .int (0 : Int32)), (2, .int (x2 + (1 : Int32))), (7, .int v166), (6, .int v165), (5, .int (fX5_callOfInlet kx n x4)), (0, .ref ka), (1, .int x1), (4, .int x4)]) hx hb dL_holds_149 rfl hl (by decide) rfl (fun ls hl => ?_)
              refine lv_iinc (v := (x4 + (1 : Int32))) (lv' := [(4, .int (x4 + (1 : Int32))), (3, .int (0 : Int32)), (2, .int (x2 + (1 : Int32))), (7, .int v166), (6, .int v165), (5, .int (fX5_callOfInlet kx n x4)), (0, .ref ka), (1, .int x1)]) hx hb dL_holds_150 hl (k := 7) rfl rfl (by decide) rfl (fun ls hl => ?_)
              refine lv_goto (tgt := 13) hx hb dL_holds_153 (by decide) ?_
              exact ih _ _ _ hf H locs ls hP hS (lv_sub hl [6, 7, 2, 1, 0] rfl)
            · have hf := it_f hf c170
              refine lv_aload_n hx hb dL_holds_79 rfl (lv_at hl 4 rfl) ?_
              refine lv_iload hx hb dL_holds_80 (lv_at hl 3 rfl) ?_
              obtain ⟨v171, hv171, hf⟩ := it_b hf
              refine cQi (As := [.int (fX5_callOfInlet kx n x4)]) (rest := []) (q0 := 0) (ci := 5) S (c_X5_inletOf l D cI cN ka a1 a2 a3 a4 (h 0) (u 0) q _ kx n (fX5_callOfInlet kx n x4) v171 hv171) (cwV 1 hts gL_holds_X5_inletOf rfl rfl rfl (by decide +kernel) ⟨Nat.le_of_ble_eq_true rfl, Nat.le_of_ble_eq_true rfl⟩) hK hP hS hA (P_sel [(true, (cxW ka (q 0) a1 a2 a3 a4 (h 0) (u 0) (kx.1 7)), (cxW ka (q 0) a1 a2 a3 a4 (h 0) (u 0) (kx.1 7))), (false, (hiW cI cN h hq hi), (hiW cI cN h hq hi)), (false, (txW cI u x), (txW cI u x)), (true, (nwW cI q n), (nwW cI q n))] hP) rfl rfl rfl hl.1 rfl (Nat.le_of_ble_eq_true rfl) dL_holds_82 ⟨Nat.zero_le _, Nat.zero_le _⟩ (fun H locs hP hS => ?_)
              refine lv_iload hx hb dL_holds_85 (lv_at hl 7 rfl) ?_
              refine lv_icmp_ne (tgt := 148) hx hb dL_holds_87 (by decide) (fun c172 => ?_) (fun c172 => ?_)
              · have hf := it_f hf c172
                refine lv_iconst (v := (0 : Int32)) hx hb dL_holds_148 kc_iconst_0 ?_
                refine lv_istore_n (lv' := [(3, .int (0 : Int32)), (2, .int (x2 + (1 : Int32))), (7, .int v166), (6, .int v165), (5, .int (fX5_callOfInlet kx n x4)), (0, .ref ka), (1, .int x1), (4, .int x4)]) hx hb dL_holds_149 rfl hl (by decide) rfl (fun ls hl => ?_)
                refine lv_iinc (v := (x4 + (1 : Int32))) (lv' := [(4, .int (x4 + (1 : Int32))), (3, .int (0 : Int32)), (2, .int (x2 + (1 : Int32))), (7, .int v166), (6, .int v165), (5, .int (fX5_callOfInlet kx n x4)), (0, .ref ka), (1, .int x1)]) hx hb dL_holds_150 hl (k := 7) rfl rfl (by decide) rfl (fun ls hl => ?_)
                refine lv_goto (tgt := 13) hx hb dL_holds_153 (by decide) ?_
                exact ih _ _ _ hf H locs ls hP hS (lv_sub hl [6, 7, 2, 1, 0] rfl)
              · have hf := it_t hf c172
                refine lv_aload_n hx hb dL_holds_90 rfl (lv_at hl 4 rfl) ?_
                refine lv_iload hx hb dL_holds_91 (lv_at hl 1 rfl) ?_
                refine cQi (As := [.int v166]) (rest := []) (q0 := 0) (ci := 5) S (c_X5_callOfOutlet l D cI cN ka a1 a2 a3 a4 (h 0) (u 0) q _ kx n v166 (fX5_callOfOutlet kx n v166) rfl) (cwV 1 hts gL_holds_X5_callOfOutlet rfl rfl rfl (by decide +kernel) ⟨Nat.le_of_ble_eq_true rfl, Nat.le_of_ble_eq_true rfl⟩) hK hP hS hA (P_sel [(true, (cxW ka (q 0) a1 a2 a3 a4 (h 0) (u 0) (kx.1 7)), (cxW ka (q 0) a1 a2 a3 a4 (h 0) (u 0) (kx.1 7))), (false, (hiW cI cN h hq hi), (hiW cI cN h hq hi)), (false, (txW cI u x), (txW cI u x)), (true, (nwW cI q n), (nwW cI q n))] hP) rfl rfl rfl hl.1 rfl (Nat.le_of_ble_eq_true rfl) dL_holds_93 ⟨Nat.zero_le _, Nat.zero_le _⟩ (fun H locs hP hS => ?_)
                refine lv_iload hx hb dL_holds_96 (lv_at hl 3 rfl) ?_
                refine lv_icmp_ne (tgt := 148) hx hb dL_holds_98 (by decide) (fun c173 => ?_) (fun c173 => ?_)
                · have hf := it_f hf c173
                  refine lv_iconst (v := (0 : Int32)) hx hb dL_holds_148 kc_iconst_0 ?_
                  refine lv_istore_n (lv' := [(3, .int (0 : Int32)), (2, .int (x2 + (1 : Int32))), (7, .int v166), (6, .int v165), (5, .int (fX5_callOfInlet kx n x4)), (0, .ref ka), (1, .int x1), (4, .int x4)]) hx hb dL_holds_149 rfl hl (by decide) rfl (fun ls hl => ?_)
                  refine lv_iinc (v := (x4 + (1 : Int32))) (lv' := [(4, .int (x4 + (1 : Int32))), (3, .int (0 : Int32)), (2, .int (x2 + (1 : Int32))), (7, .int v166), (6, .int v165), (5, .int (fX5_callOfInlet kx n x4)), (0, .ref ka), (1, .int x1)]) hx hb dL_holds_150 hl (k := 7) rfl rfl (by decide) rfl (fun ls hl => ?_)
                  refine lv_goto (tgt := 13) hx hb dL_holds_153 (by decide) ?_
                  exact ih _ _ _ hf H locs ls hP hS (lv_sub hl [6, 7, 2, 1, 0] rfl)
                · have hf := it_t hf c173
                  refine lv_aload_n hx hb dL_holds_101 rfl (lv_at hl 4 rfl) ?_
                  refine cQi (As := []) (rest := []) (q0 := 0) (ci := 5) S (c_X5_inService l D cI cN ka a1 a2 a3 a4 (h 0) (u 0) q _ kx n (fX5_inService kx n) rfl) (cwV 0 hts gL_holds_X5_inService rfl rfl rfl (by decide +kernel) ⟨Nat.le_of_ble_eq_true rfl, Nat.le_of_ble_eq_true rfl⟩) hK hP hS hA (P_sel [(true, (cxW ka (q 0) a1 a2 a3 a4 (h 0) (u 0) (kx.1 7)), (cxW ka (q 0) a1 a2 a3 a4 (h 0) (u 0) (kx.1 7))), (false, (hiW cI cN h hq hi), (hiW cI cN h hq hi)), (false, (txW cI u x), (txW cI u x)), (true, (nwW cI q n), (nwW cI q n))] hP) rfl rfl rfl hl.1 rfl (Nat.le_of_ble_eq_true rfl) dL_holds_102 ⟨Nat.zero_le _, Nat.zero_le _⟩ (fun H locs hP hS => ?_)
                  refine lv_iload hx hb dL_holds_105 (lv_at hl 2 rfl) ?_
                  refine lv_ishr hx hb dL_holds_107 ?_
                  refine lv_iconst (v := (1 : Int32)) hx hb dL_holds_108 kc_iconst_1 ?_
                  refine lv_iand hx hb dL_holds_109 ?_
                  refine lv_iconst (v := (1 : Int32)) hx hb dL_holds_110 kc_iconst_1 ?_
                  refine lv_icmp_ne (tgt := 148) hx hb dL_holds_111 (by decide) (fun c174 => ?_) (fun c174 => ?_)
                  · have hf := it_f hf c174
                    refine lv_iconst (v := (0 : Int32)) hx hb dL_holds_148 kc_iconst_0 ?_
                    refine lv_istore_n (lv' := [(3, .int (0 : Int32)), (2, .int (x2 + (1 : Int32))), (7, .int v166), (6, .int v165), (5, .int (fX5_callOfInlet kx n x4)), (0, .ref ka), (1, .int x1), (4, .int x4)]) hx hb dL_holds_149 rfl hl (by decide) rfl (fun ls hl => ?_)
                    refine lv_iinc (v := (x4 + (1 : Int32))) (lv' := [(4, .int (x4 + (1 : Int32))), (3, .int (0 : Int32)), (2, .int (x2 + (1 : Int32))), (7, .int v166), (6, .int v165), (5, .int (fX5_callOfInlet kx n x4)), (0, .ref ka), (1, .int x1)]) hx hb dL_holds_150 hl (k := 7) rfl rfl (by decide) rfl (fun ls hl => ?_)
                    refine lv_goto (tgt := 13) hx hb dL_holds_153 (by decide) ?_
                    exact ih _ _ _ hf H locs ls hP hS (lv_sub hl [6, 7, 2, 1, 0] rfl)
                  · have hf := it_t hf c174
                    refine lv_aload_n hx hb dL_holds_114 rfl (lv_at hl 4 rfl) ?_
                    refine lv_iload hx hb dL_holds_115 (lv_at hl 7 rfl) ?_
                    refine lv_iload_n hx hb dL_holds_117 rfl (lv_at hl 5 rfl) ?_
                    obtain ⟨c175, hf⟩ := it_g hf
                    refine lv_idiv hx hb dL_holds_118 c175 ?_
                    refine lv_iload hx hb dL_holds_119 (lv_at hl 2 rfl) ?_
                    refine cQi (As := [.int (x4 / x1), .int v165]) (rest := []) (q0 := 0) (ci := 5) S (c_X5_onFirstLink l D cI cN ka a1 a2 a3 a4 (h 0) (u 0) q _ kx n (x4 / x1) v165 (fX5_onFirstLink kx n (x4 / x1) v165) rfl) (cwV 2 hts gL_holds_X5_onFirstLink rfl rfl rfl (by decide +kernel) ⟨Nat.le_of_ble_eq_true rfl, Nat.le_of_ble_eq_true rfl⟩) hK hP hS hA (P_sel [(true, (cxW ka (q 0) a1 a2 a3 a4 (h 0) (u 0) (kx.1 7)), (cxW ka (q 0) a1 a2 a3 a4 (h 0) (u 0) (kx.1 7))), (false, (hiW cI cN h hq hi), (hiW cI cN h hq hi)), (false, (txW cI u x), (txW cI u x)), (true, (nwW cI q n), (nwW cI q n))] hP) rfl rfl rfl hl.1 rfl (Nat.le_of_ble_eq_true rfl) dL_holds_121 ⟨Nat.zero_le _, Nat.zero_le _⟩ (fun H locs hP hS => ?_)
                    refine lv_iload hx hb dL_holds_124 (lv_at hl 3 rfl) ?_
                    refine lv_icmp_ne (tgt := 148) hx hb dL_holds_126 (by decide) (fun c176 => ?_) (fun c176 => ?_)
                    · have hf := it_f hf c176
                      refine lv_iconst (v := (0 : Int32)) hx hb dL_holds_148 kc_iconst_0 ?_
                      refine lv_istore_n (lv' := [(3, .int (0 : Int32)), (2, .int (x2 + (1 : Int32))), (7, .int v166), (6, .int v165), (5, .int (fX5_callOfInlet kx n x4)), (0, .ref ka), (1, .int x1), (4, .int x4)]) hx hb dL_holds_149 rfl hl (by decide) rfl (fun ls hl => ?_)
                      refine lv_iinc (v := (x4 + (1 : Int32))) (lv' := [(4, .int (x4 + (1 : Int32))), (3, .int (0 : Int32)), (2, .int (x2 + (1 : Int32))), (7, .int v166), (6, .int v165), (5, .int (fX5_callOfInlet kx n x4)), (0, .ref ka), (1, .int x1)]) hx hb dL_holds_150 hl (k := 7) rfl rfl (by decide) rfl (fun ls hl => ?_)
                      refine lv_goto (tgt := 13) hx hb dL_holds_153 (by decide) ?_
                      exact ih _ _ _ hf H locs ls hP hS (lv_sub hl [6, 7, 2, 1, 0] rfl)
                    · have hf := it_t hf c176
                      refine lv_aload_n hx hb dL_holds_129 rfl (lv_at hl 4 rfl) ?_
                      refine lv_iload hx hb dL_holds_130 (lv_at hl 2 rfl) ?_
                      refine lv_iload hx hb dL_holds_132 (lv_at hl 1 rfl) ?_
                      refine lv_iload_n hx hb dL_holds_134 rfl (lv_at hl 5 rfl) ?_
                      obtain ⟨c177, hf⟩ := it_g hf
                      refine lv_idiv hx hb dL_holds_135 c177 ?_
                      refine cQi (As := [.int v165, .int (v166 / x1)]) (rest := []) (q0 := 0) (ci := 5) S (c_X5_onLastLink l D cI cN ka a1 a2 a3 a4 (h 0) (u 0) q _ kx n v165 (v166 / x1) (fX5_onLastLink kx n v165 (v166 / x1)) rfl) (cwV 2 hts gL_holds_X5_onLastLink rfl rfl rfl (by decide +kernel) ⟨Nat.le_of_ble_eq_true rfl, Nat.le_of_ble_eq_true rfl⟩) hK hP hS hA (P_sel [(true, (cxW ka (q 0) a1 a2 a3 a4 (h 0) (u 0) (kx.1 7)), (cxW ka (q 0) a1 a2 a3 a4 (h 0) (u 0) (kx.1 7))), (false, (hiW cI cN h hq hi), (hiW cI cN h hq hi)), (false, (txW cI u x), (txW cI u x)), (true, (nwW cI q n), (nwW cI q n))] hP) rfl rfl rfl hl.1 rfl (Nat.le_of_ble_eq_true rfl) dL_holds_136 ⟨Nat.zero_le _, Nat.zero_le _⟩ (fun H locs hP hS => ?_)
                      refine lv_iload hx hb dL_holds_139 (lv_at hl 3 rfl) ?_
                      refine lv_icmp_ne (tgt := 148) hx hb dL_holds_141 (by decide) (fun c178 => ?_) (fun c178 => ?_)
                      · have hf := it_f hf c178
                        refine lv_iconst (v := (0 : Int32)) hx hb dL_holds_148 kc_iconst_0 ?_
                        refine lv_istore_n (lv' := [(3, .int (0 : Int32)), (2, .int (x2 + (1 : Int32))), (7, .int v166), (6, .int v165), (5, .int (fX5_callOfInlet kx n x4)), (0, .ref ka), (1, .int x1), (4, .int x4)]) hx hb dL_holds_149 rfl hl (by decide) rfl (fun ls hl => ?_)
                        refine lv_iinc (v := (x4 + (1 : Int32))) (lv' := [(4, .int (x4 + (1 : Int32))), (3, .int (0 : Int32)), (2, .int (x2 + (1 : Int32))), (7, .int v166), (6, .int v165), (5, .int (fX5_callOfInlet kx n x4)), (0, .ref ka), (1, .int x1)]) hx hb dL_holds_150 hl (k := 7) rfl rfl (by decide) rfl (fun ls hl => ?_)
                        refine lv_goto (tgt := 13) hx hb dL_holds_153 (by decide) ?_
                        exact ih _ _ _ hf H locs ls hP hS (lv_sub hl [6, 7, 2, 1, 0] rfl)
                      · have hf := it_t hf c178
                        refine lv_iconst (v := (1 : Int32)) hx hb dL_holds_144 kc_iconst_1 ?_
                        refine lv_goto (tgt := 149) hx hb dL_holds_145 (by decide) ?_
                        refine lv_istore_n (lv' := [(3, .int (1 : Int32)), (2, .int (x2 + (1 : Int32))), (7, .int v166), (6, .int v165), (5, .int (fX5_callOfInlet kx n x4)), (0, .ref ka), (1, .int x1), (4, .int x4)]) hx hb dL_holds_149 rfl hl (by decide) rfl (fun ls hl => ?_)
                        refine lv_iinc (v := (x4 + (1 : Int32))) (lv' := [(4, .int (x4 + (1 : Int32))), (3, .int (1 : Int32)), (2, .int (x2 + (1 : Int32))), (7, .int v166), (6, .int v165), (5, .int (fX5_callOfInlet kx n x4)), (0, .ref ka), (1, .int x1)]) hx hb dL_holds_150 hl (k := 7) rfl rfl (by decide) rfl (fun ls hl => ?_)
                        refine lv_goto (tgt := 13) hx hb dL_holds_153 (by decide) ?_
                        exact ih _ _ _ hf H locs ls hP hS (lv_sub hl [6, 7, 2, 1, 0] rfl)
set_option maxRecDepth 100000 in
set_option maxHeartbeats 4000000 in
theorem w_L_holds_0 {p : Program} {l : Launch} {e : Env} {s : State} {m : MethodId} {args : Array Value} {below : List Frame} {meth : Method} {c : Code} {Q : State → Prop} {D : va_G} {cI cN : ClassId} {ka a1 a2 a3 a4 : Nat} {h : Nat → Nat} {hq : Nat → Nat → Nat} {u : Nat → Nat} {q : Nat → Nat} (S : CallFix p m c cL_holds 12 s args wsL_holds RL) (hK : KN D cI cN s) {kx : OS} {hi : HS} {x : OS} {n : OS} {r0 : Int32} (hret : ∀ (H : Heap) (locs : List Loc) (ls : Array Slot) (pc : Nat), decode cL_holds pc = .ok (.ireturn, 1) → narrow .boolean (.int r0) = .int r0 → va_S (nwA s.heap.size) s.heap H locs → W p l e (headSpec wsL_holds rm_L_holds).room s m args below meth c H locs 0 0 Q (F0 m pc ls [.int r0])) (hf : fL_holds kx hi x n = some r0) (H : Heap) (locs : List Loc) (ls : Array Slot) (hP : va_P D vwCl ((cxW ka (q 0) a1 a2 a3 a4 (h 0) (u 0) (kx.1 7)) ++ ((hiW cI cN h hq hi) ++ ((txW cI u x) ++ (nwW cI q n)))) H) (hS : va_S (nwA s.heap.size) s.heap H locs) (hl : lv_has ls 12 [(0, .ref ka)]) : W p l e (headSpec wsL_holds rm_L_holds).room s m args below meth c H locs 0 0 Q (F0 m 0 ls []) := by
  obtain ⟨hx, hb, hml, hown, hts⟩ := id S
  have hA : ∀ q : Nat, s.heap.size ≤ q → nwA s.heap.size q := fun _ h => h
  unfold fL_holds at hf
  refine lv_aload_n hx hb dL_holds_0 rfl (lv_at hl 0 rfl) ?_
  refine lv_iconst (v := (1 : Int32)) hx hb dL_holds_1 kc_iconst_1 ?_
  obtain ⟨v1, hv1, hf⟩ := it_b hf
  refine cQi (As := [.int (1 : Int32)]) (rest := []) (q0 := 0) (ci := 5) S (c_X5_total l D cI cN ka a1 a2 a3 a4 h hq u q _ kx hi x n (1 : Int32) v1 hv1) (cwV 1 hts gL_holds_X5_total rfl rfl rfl (by decide +kernel) ⟨Nat.le_of_ble_eq_true rfl, Nat.le_of_ble_eq_true rfl⟩) hK hP hS hA hP rfl rfl rfl hl.1 rfl (Nat.le_of_ble_eq_true rfl) dL_holds_2 ⟨Nat.zero_le _, Nat.zero_le _⟩ (fun H locs hP hS => ?_)
  refine lv_istore_n (lv' := [(1, .int v1), (0, .ref ka)]) hx hb dL_holds_5 rfl hl (by decide) rfl (fun ls hl => ?_)
  refine lv_iconst (v := (0 : Int32)) hx hb dL_holds_6 kc_iconst_0 ?_
  refine lv_istore_n (lv' := [(2, .int (0 : Int32)), (1, .int v1), (0, .ref ka)]) hx hb dL_holds_7 rfl hl (by decide) rfl (fun ls hl => ?_)
  refine lv_iconst (v := (1 : Int32)) hx hb dL_holds_8 kc_iconst_1 ?_
  refine lv_istore_n (lv' := [(3, .int (1 : Int32)), (2, .int (0 : Int32)), (1, .int v1), (0, .ref ka)]) hx hb dL_holds_9 rfl hl (by decide) rfl (fun ls hl => ?_)
  refine lv_iconst (v := (0 : Int32)) hx hb dL_holds_10 kc_iconst_0 ?_
  refine lv_istore (lv' := [(4, .int (0 : Int32)), (3, .int (1 : Int32)), (2, .int (0 : Int32)), (1, .int v1), (0, .ref ka)]) hx hb dL_holds_11 hl (by decide) rfl (fun ls hl => ?_)
  exact w_L_holds_13 S hK hret _ _ _ _ hf H locs ls hP hS (lv_sub hl [4, 3, 2, 1, 0] rfl)
set_option maxRecDepth 100000 in
theorem c_L_holds (l : Launch) (D : va_G) (cI cN : ClassId) (ka a1 a2 a3 a4 : Nat) (h : Nat → Nat) (hq : Nat → Nat → Nat) (u : Nat → Nat) (q : Nat → Nat) (sz : Nat) (kx : OS) (hi : HS) (x : OS) (n : OS) (r0 : Int32) (hf : fL_holds kx hi x n = some r0) : CtP l D cI cN yL_holds wsL_holds rm_L_holds [.ref ka] ((cxW ka (q 0) a1 a2 a3 a4 (h 0) (u 0) (kx.1 7)) ++ ((hiW cI cN h hq hi) ++ ((txW cI u x) ++ (nwW cI q n)))) sz r0 := by
  refine mP (cc := cL_holds) (maxL := 12) (ty := .boolean) (by decide) rfl rfl (Nat.le_of_ble_eq_true rfl) ?_
  intro p e s m args below meth c Q S hK hP hS hret ls hl
  exact w_L_holds_0 S hK hret hf _ _ _ hP hS (lv_sub (show lv_has ls 12 [(0, .ref ka)] from hl) [0] rfl)
