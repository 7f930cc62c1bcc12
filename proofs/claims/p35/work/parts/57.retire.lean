/-! a middle board is taken out, and put back -/
theorem fr3_lift {n : OS} {v x : Int32} : fX1_liftCall (setF n 3 v) x = setF (fX1_liftCall n x) 3 v := by
  unfold fX1_liftCall
  by_cases h : rget (n.2 2) 48 x < 0
  · rw [if_pos h, if_pos (show rget ((setF n 3 v).2 2) 48 x < 0 from h)]
  · rw [if_neg h, if_neg (show ¬ rget ((setF n 3 v).2 2) 48 x < 0 from h)]; rfl
theorem lift_fld {n : OS} {x : Int32} : (fX1_liftCall n x).1 = n.1 := by
  unfold fX1_liftCall
  by_cases h : rget (n.2 2) 48 x < 0
  · rw [if_pos h]
  · rw [if_neg h]; rfl
theorem upd_self {f : Nat → Int32} {k : Nat} {v : Int32} (h : f k = v) : upd f k v = f := by
  funext j
  rw [upd_if]
  by_cases hj : j = k
  · rw [if_pos hj, hj, h]
  · rw [if_neg hj]
/-- lifted: the calls below k that are selected -/
def liS (sel : Nat → Bool) (k : Nat) : Nat → Option (Option Nat) := fun j => if j < k ∧ sel j = true then some none else none
theorem liS_s {sel : Nat → Bool} {k j : Nat} (h1 : j < k) (h2 : sel j = true) : liS sel k j = some none := if_pos ⟨h1, h2⟩
theorem liS_n {sel : Nat → Bool} {k j : Nat} (h : ¬ (j < k ∧ sel j = true)) : liS sel k j = none := if_neg h
theorem liS_next {cs : CS} {sel : Nat → Bool} {k : Nat} (h : sel k = true) : setV (mapV cs (liS sel k)) k none = mapV cs (liS sel (k + 1)) := by
  refine setV_mapV (liS_s (by omega) h) (fun j hj => ?_)
  by_cases h2 : j < k ∧ sel j = true
  · rw [liS_s h2.1 h2.2, liS_s (by omega) h2.2]
  · rw [liS_n h2, liS_n (fun e => h2 ⟨by omega, e.2⟩)]
theorem liS_skip {cs : CS} {sel : Nat → Bool} {k : Nat} (h : sel k = false) : mapV cs (liS sel k) = mapV cs (liS sel (k + 1)) := by
  refine mapV_congr (fun j => ?_)
  by_cases h2 : j < k ∧ sel j = true
  · rw [liS_s h2.1 h2.2, liS_s (by omega) h2.2]
  · rw [liS_n h2, liS_n (fun e => h2 ⟨?_, e.2⟩)]
    by_cases hj : j = k
    · rw [hj, h] at e; cases e.2
    · omega
theorem liS_zero {cs : CS} {sel : Nat → Bool} : mapV cs (liS sel 0) = cs := mapV_id (fun _ => liS_n (fun e => by omega))
theorem via_liS_s {cs : CS} {sel : Nat → Bool} {k j : Nat} (h1 : j < k) (h2 : sel j = true) : via (mapV cs (liS sel k)) j = none := by
  unfold via
  rw [mapV_some (liS_s h1 h2)]
  cases cs j <;> rfl
theorem via_liS_n {cs : CS} {sel : Nat → Bool} {k j : Nat} (h : ¬ (j < k ∧ sel j = true)) : via (mapV cs (liS sel k)) j = via cs j := via_mapV_n (liS_n h)
theorem via_liS {cs : CS} {sel : Nat → Bool} {k j m : Nat} (h : via (mapV cs (liS sel k)) j = some m) : via cs j = some m := by
  by_cases h2 : j < k ∧ sel j = true
  · rw [via_liS_s h2.1 h2.2] at h; cases h
  · rw [via_liS_n h2] at h; exact h
theorem mapV_nobusy {cs : CS} {f : Nat → Option (Option Nat)} {j : Nat} (h : busy cs j = false) : mapV cs f j = none := by
  have hc : cs j = none := by
    unfold busy at h
    cases hq : cs j with
    | none => rfl
    | some c => rw [hq] at h; cases h
  cases hf : f j with
  | none => rw [mapV_none hf, hc]
  | some v => rw [mapV_some hf, hc]; rfl
theorem out_bits : ∀ w, w < 256 → ∀ m, m < 8 → w.testBit m = true → nI w &&& (((1 : Int32) <<< (nI m &&& 31)) ^^^ (-1 : Int32)) = nI (w - 2 ^ m) ∧ nI w - ((1 : Int32) <<< (nI m &&& 31)) = nI (w - 2 ^ m) := by decide +kernel
theorem out_bit : ∀ w, w < 256 → ∀ m, m < 8 → w.testBit m = true → ∀ i, i < 8 → (w - 2 ^ m).testBit i = (w.testBit i && !(i == m)) := by decide +kernel
theorem in_bits : ∀ w, w < 256 → ∀ m, m < 8 → w.testBit m = false → nI w ||| ((1 : Int32) <<< (nI m &&& 31)) = nI (w + 2 ^ m) ∧ nI w + ((1 : Int32) <<< (nI m &&& 31)) = nI (w + 2 ^ m) := by decide +kernel
theorem in_bit : ∀ w, w < 256 → ∀ m, m < 8 → w.testBit m = false → ∀ i, i < 8 → (w + 2 ^ m).testBit i = (w.testBit i || (i == m)) := by decide +kernel
theorem in_lt : ∀ mi, mi < 9 → ∀ w, w < 2 ^ mi → ∀ m, m < mi → w.testBit m = false → w + 2 ^ m < 2 ^ mi := by decide +kernel
theorem bit_at : ∀ w, w < 256 → ∀ i, i < 8 → (nI w >>> (nI i &&& 31)) &&& (1 : Int32) = nI (if w.testBit i = true then 1 else 0) := by decide +kernel
theorem pop_c : ∀ w, w < 256 → fJ6_bitCount_0f7a4 (nI w) = nI (cnt w.testBit 8) := by decide +kernel
theorem pop_m {w : Nat} (hw : w < 256) : fX6_bits (nI w) = some (nI (cnt w.testBit 8)) := by
  unfold fX6_bits
  have h := iloop (fun k i (a : Int32) => fX6_bits_4 (nI w) k a i) 8 (fun i a => a = nI (cnt w.testBit i)) (nI (cnt w.testBit 8)) ?_ ?_ FU 0 (0 : Int32) (by omega) (FU_big (by omega)) rfl
  · exact h
  · intro k i s hi hI
    subst hI
    refine Or.inl ⟨_, rfl, ?_⟩
    show fX6_bits_4 (nI w) (k + 1) _ _ = fX6_bits_4 (nI w) k _ _
    rw [fX6_bits_4_s, if_neg (ge8 hi), bit_at w hw i hi, nI_add, nI_succ1]; rfl
  · intro k s hI
    subst hI
    show fX6_bits_4 (nI w) (k + 1) _ _ = _
    rw [fX6_bits_4_s, if_pos (by decide)]
theorem RC.sv {bo li mi sv cn : Nat} {cs : CS} {n : OS} (sv' : Nat) (h : RC bo li mi sv cn cs n) : RC bo li mi sv' cn cs (setF n 3 (nI sv')) := ⟨h.f0, h.f1, h.f2, rfl, h.f6, h.2.2.2.2.2⟩
theorem RM.sv {bo li mi sv cn : Nat} {cs : CS} {B : Nat → Int32} (sv' : Nat) (h : RM bo li mi sv cn cs B) : RM bo li mi sv' cn cs (upd B 9 (nI sv')) := by
  refine ⟨by rw [upd_n (by omega)]; exact h.b0, by rw [upd_n (by omega)]; exact h.b1, by rw [upd_n (by omega)]; exact h.b2, by rw [upd_s], by rw [upd_n (by omega)]; exact h.b5, fun j hj => ?_, fun j o hj ho => ?_, fun j hj hb => ?_⟩
  · rw [upd_n (by omega)]; exact h.nm hj
  · rw [upd_n (by omega)]; exact h.ou hj ho
  · rw [upd_n (by omega)]; exact h.vi hj hb
theorem ext_num {cs cs' : CS} {n n' : OS} (h : EXT cs n) (hn : ∀ j, num cs' j = num cs j) (e6 : n'.1 6 = n.1 6) (e7 : n'.1 7 = n.1 7) (e8 : n'.1 8 = n.1 8) : EXT cs' n' := exd_zero.mp (exd_num (exd_zero.mpr h) hn e6 e7 e8)
section RT
variable {bo li mi sv sv2 cn : Nat} {cs : CS} {bb m : Nat}
theorem WF.liS (W : WF bo li mi sv cn cs) {sel : Nat → Bool} {k : Nat} : WF bo li mi sv cn (mapV cs (liS sel k)) := W.mono num_mapV outl_mapV (fun _ _ h => via_liS h)
theorem WF.sv' (W : WF bo li mi sv cn cs) (h1 : sv2 < 2 ^ mi) (h2 : ∀ i k, via cs i = some k → sv2.testBit k = true) : WF bo li mi sv2 cn cs :=
  ⟨W.bo2, W.bo8, W.li1, W.li6, W.mi1, W.mi8, h1, W.cn30, fun _ h => W.lt h, fun _ _ h => W.numlt h, fun _ _ h => W.outlt h, fun i k hk => ⟨W.vialt hk, h2 i k hk⟩, fun _ _ _ a b => W.outinj a b, fun _ _ _ a b c => W.finj a b c, fun _ _ _ _ _ a b c d e => W.linj a b c d e⟩
theorem liS_ext (W : WF bo li mi sv cn cs) {sel : Nat → Bool} : mapV cs (liS sel 48) = mapV cs (liS sel (bo * li)) := by
  have h48 := W.n48
  funext j
  by_cases hj : j < bo * li
  · by_cases hs : sel j = true
    · rw [mapV_some (liS_s (by omega) hs), mapV_some (liS_s hj hs)]
    · rw [mapV_none (liS_n (fun e => hs e.2)), mapV_none (liS_n (fun e => hs e.2))]
  · have hb : busy cs j = false := by
      cases hb : busy cs j with
      | false => rfl
      | true => exact absurd (W.lt hb) hj
    rw [mapV_nobusy hb, mapV_nobusy hb]
theorem c_liftS {n : OS} (hR : RC bo li mi sv2 cn cs n) (W : WF bo li mi sv cn cs) {i : Nat} (hi : i < 48) : RC bo li mi sv2 cn (setV cs i none) (fX1_liftCall n (nI i)) := by
  have h1 := (c_lift (hR.sv sv) W hi).1
  rw [fr3_lift] at h1
  exact ⟨h1.f0, h1.f1, h1.f2, by rw [lift_fld]; exact hR.f3, h1.f6, h1.2.2.2.2.2⟩
theorem c_lifts {n r : OS} (hR : RC bo li mi sv2 cn cs n) (W : WF bo li mi sv cn cs) (hm : m < 8) :
    ∃ n', fX3_retire_40 r (nI m) FU (0 : Int32) n = Option.bind (fX3_reroute r n') (fun v5 => some (v5.1, v5.2.1, v5.2.2)) ∧ RC bo li mi sv2 cn (mapV cs (liS (fun j => via cs j == some m) 48)) n' ∧ n'.1 = n.1 := by
  have key : ∀ (d k fu : Nat) (n1 : OS), 48 - k = d → k ≤ 48 → d < fu → RC bo li mi sv2 cn (mapV cs (liS (fun j => via cs j == some m) k)) n1 → n1.1 = n.1 →
      ∃ n', fX3_retire_40 r (nI m) fu (nI k) n1 = Option.bind (fX3_reroute r n') (fun v5 => some (v5.1, v5.2.1, v5.2.2)) ∧ RC bo li mi sv2 cn (mapV cs (liS (fun j => via cs j == some m) 48)) n' ∧ n'.1 = n.1 := by
    intro d
    induction d with
    | zero =>
      intro k fu n1 hd hk hfu h1 h2
      obtain ⟨fu, rfl⟩ : ∃ f, fu = f + 1 := ⟨fu - 1, by omega⟩
      have hk : k = 48 := by omega
      subst hk
      rw [fX3_retire_40_s, if_pos (by decide)]
      exact ⟨n1, rfl, h1, h2⟩
    | succ d ih =>
      intro k fu n1 hd hk hfu h1 h2
      obtain ⟨fu, rfl⟩ : ∃ f, fu = f + 1 := ⟨fu - 1, by omega⟩
      rw [fX3_retire_40_s, if_neg (ge48 (by omega)), h1.r2 (by omega), via_liS_n (by omega), nI_succ1]
      by_cases hv : via cs k = some m
      · rw [if_pos ((eN_eqn m6 (by omega) (fun k hk => by have := W.via8 hk; omega)).mpr hv)]
        simp only [jn]
        have g1 := c_liftS h1 W.liS (i := k) (by omega)
        rw [liS_next (by rw [hv]; simp)] at g1
        exact ih (k + 1) fu _ (by omega) (by omega) (by omega) g1 (lift_fld.trans h2)
      · rw [if_neg (by rw [eN_eqn m6 (by omega) (fun k hk => by have := W.via8 hk; omega)]; exact hv)]
        rw [liS_skip (by simpa using hv)] at h1
        exact ih (k + 1) fu _ (by omega) (by omega) (by omega) h1 h2
  exact key 48 0 FU n (by omega) (by omega) (FU_big (by omega)) (by rw [liS_zero]; exact hR) rfl
theorem m_lifts {g : OS} (hM : RM bo li mi sv2 cn cs (blk g bb)) (W : WF bo li mi sv cn cs) (hbb : bb ≤ 924) (hm : m < 8) :
    ∃ g', fX6_takesOut_47 (nI bb) (nI m) FU (0 : Int32) g = Option.bind (fX6_nextOff g' (nI bb)) (fun v10 => fX6_takesOut_100 (nI bb) FU (0 : Int32) v10 g') ∧ RM bo li mi sv2 cn (mapV cs (liS (fun j => via cs j == some m) 48)) (blk g' bb) ∧ FRM bb g g' ∧ SMB (blk g bb) (blk g' bb) ∧ blk g' bb 8 = blk g bb 8 := by
  have h48 := W.n48
  rw [liS_ext W]
  have key : ∀ (d k fu : Nat) (g1 : OS), bo * li - k = d → k ≤ bo * li → d < fu → RM bo li mi sv2 cn (mapV cs (liS (fun j => via cs j == some m) k)) (blk g1 bb) → FRM bb g g1 → SMB (blk g bb) (blk g1 bb) → blk g1 bb 8 = blk g bb 8 →
      ∃ g', fX6_takesOut_47 (nI bb) (nI m) fu (nI k) g1 = Option.bind (fX6_nextOff g' (nI bb)) (fun v10 => fX6_takesOut_100 (nI bb) FU (0 : Int32) v10 g') ∧ RM bo li mi sv2 cn (mapV cs (liS (fun j => via cs j == some m) (bo * li))) (blk g' bb) ∧ FRM bb g g' ∧ SMB (blk g bb) (blk g' bb) ∧ blk g' bb 8 = blk g bb 8 := by
    intro d
    induction d with
    | zero =>
      intro k fu g1 hd hk hfu h1 h2 h3 h4
      obtain ⟨fu, rfl⟩ : ∃ f, fu = f + 1 := ⟨fu - 1, by omega⟩
      have hk : k = bo * li := by omega
      subst hk
      rw [fX6_takesOut_47_s, m_lines h1 hbb, Option.bind_some, if_pos (nI_le (Nat.le_refl _) (by omega))]
      exact ⟨g1, rfl, h1, h2, h3, h4⟩
    | succ d ih =>
      intro k fu g1 hd hk hfu h1 h2 h3 h4
      obtain ⟨fu, rfl⟩ : ∃ f, fu = f + 1 := ⟨fu - 1, by omega⟩
      have hk48 : k < 48 := by omega
      -- what is laid, and what holds then
      have step : ∃ y, (if blk g1 bb (10 + 3 * k + 2) = nI m then some (-1 : Int32) else Option.bind (some (blk g1 bb (10 + 3 * k + 2))) (fun v25 => some v25)) = some y ∧ RM bo li mi sv2 cn (mapV cs (liS (fun j => via cs j == some m) (k + 1))) (upd (blk g1 bb) (10 + 3 * k + 2) y) := by
        by_cases hb : busy cs k = true
        · have hB : blk g1 bb (10 + 3 * k + 2) = eN (via cs k) (-1) := by
            rw [h1.vi hk48 (by rw [busy_mapV]; exact hb), via_liS_n (by omega)]
          by_cases hv : via cs k = some m
          · refine ⟨(-1 : Int32), if_pos (by rw [hB, hv]; rfl), ?_⟩
            rw [← liS_next (by rw [hv]; simp)]
            exact h1.lay2 hk48 none
          · refine ⟨blk g1 bb (10 + 3 * k + 2), ?_, ?_⟩
            · rw [if_neg (by rw [hB, eN_eqn m1 (by omega) (fun k hk => by have := W.via8 hk; omega)]; exact hv), Option.bind_some]
            · rw [← liS_skip (by simpa using hv), upd_self rfl]; exact h1
        · have hb : busy cs k = false := by simpa using hb
          have hsk : mapV cs (liS (fun j => via cs j == some m) k) = mapV cs (liS (fun j => via cs j == some m) (k + 1)) := liS_skip (by rw [via_nobusy hb]; rfl)
          rw [← hsk]
          by_cases hB : blk g1 bb (10 + 3 * k + 2) = nI m
          · exact ⟨_, if_pos hB, h1.lay2n hk48 (by rw [busy_mapV]; exact hb)⟩
          · refine ⟨blk g1 bb (10 + 3 * k + 2), ?_, h1.lay2n hk48 (by rw [busy_mapV]; exact hb)⟩
            rw [if_neg hB, Option.bind_some]
      obtain ⟨y, hy, hM'⟩ := step
      rw [fX6_takesOut_47_s, m_lines h1 hbb, Option.bind_some, if_neg (nI_ge (by omega) (by omega)), m_of2 hbb hk48, Option.bind_some]
      rw [hy, Option.bind_some, m_lay2 hbb hk48, Option.bind_some, nI_succ1]
      rw [← blk_put] at hM'
      refine ih (k + 1) fu _ (by omega) (by omega) (by omega) hM' (h2.trans (FRM.put (by omega))) ?_ ?_
      · rw [blk_put]; exact h3.trans (SMB.put (by omega))
      · rw [blk_put, upd_n (by omega)]; exact h4
  exact key (bo * li) 0 FU g (by omega) (by omega) (FU_big (by omega)) (by rw [liS_zero]; exact hM) FRM.rfl SMB.rfl rfl
theorem retire_sim {K : Nat} {n g r : OS} (h : SIM K n (blk g bb)) (hbb : bb ≤ 924) (x1 : Int32) :
    ∃ (a : Int32) (r' n' g' : OS), fX3_retire r n x1 = some (a, r', n') ∧ fX6_takesOut g (nI bb) x1 = some (a, g') ∧ FRM bb g g' ∧ ((¬ (0 : Int32) ≤ a ∧ a ≠ (-6 : Int32) ∧ n' = n) ∨ (a = (-6 : Int32) ∧ n' = n ∧ g' = g) ∨ ((0 : Int32) ≤ a ∧ SIM K n' (blk g' bb))) := by
  obtain ⟨bo, li, mi, sv, cn, cs, hcn, ⟨W, hR, hM, e4, e5, ep, e7, e8, e9⟩, hall⟩ := h.1
  have h4 := h.2
  have h8 := W.mi8
  unfold fX3_retire fX6_takesOut
  rw [c_isMiddle hR, m_isMiddle hM W hbb, Option.bind_some]
  rcases rng mi (by omega) x1 with hx | ⟨hx, m, hm, rfl⟩
  · rw [hx, if_pos rfl, if_pos rfl]
    exact ⟨_, _, _, _, rfl, rfl, FRM.rfl, Or.inl ⟨by decide, by decide, rfl⟩⟩
  · rw [hx, if_neg ne10, if_neg ne10, hR.f3, if_pos (in_9 hbb), m_sv hM hbb, bit_has sv W.sv256 m (by omega), bit_has6 sv W.sv256 m (by omega)]
    by_cases hs : sv.testBit m = true
    · rw [if_pos hs, if_neg ne10, if_neg ne10, if_pos (in_9 hbb), if_pos (in_9 hbb)]
      simp only [jn]
      obtain ⟨b1, b2⟩ := out_bits sv W.sv256 m (by omega) hs
      rw [b1, b2, show nI bb + (9 : Int32) = nI bb + nI 9 from rfl, put_fld hbb (by decide)]
      have hR2 := hR.sv (sv - 2 ^ m)
      have hM2 := hM.sv (sv - 2 ^ m)
      rw [← blk_put] at hM2
      obtain ⟨n1, c1, c2, c3⟩ := c_lifts (r := r) hR2 W (m := m) (by omega)
      obtain ⟨g1, m1, m2, m3, m4, m5⟩ := m_lifts hM2 W hbb (m := m) (by omega)
      have WL : WF bo li mi (sv - 2 ^ m) cn (mapV cs (liS (fun j => via cs j == some m) 48)) := by
        have W0 := W.liS (sel := fun j => via cs j == some m) (k := 48)
        refine W0.sv' (Nat.lt_of_le_of_lt (Nat.sub_le _ _) W.svlt) (fun i k hk => ?_)
        have hk' := via_liS hk
        rw [out_bit sv W.sv256 m (by omega) hs k (W.via8 hk'), W.viasv hk']
        have hne : k ≠ m := fun e => by
          rw [e] at hk'
          rw [via_liS_s (W.lt48 (busy_of_via hk')) (by rw [hk']; simp)] at hk
          cases hk
        simp [hne]
      rw [c1, m1, m_nextOff m2 WL hbb, Option.bind_some]
      have hNB : NB bo li mi (sv - 2 ^ m) cn (mapV cs (liS (fun j => via cs j == some m) 48)) n1 (blk g1 bb) := by
        refine ⟨WL, c2, m2, ?_, ?_, ?_, ?_, ?_, ?_⟩
        · rw [c3, m4.1, blk_put, upd_n (by omega)]; exact e4
        · rw [c3, m4.2.1, blk_put, upd_n (by omega)]; exact e5
        · rw [m4.2.1, blk_put, upd_n (by omega)]; exact ep
        · rw [c3, m4.2.2.1, blk_put, upd_n (by omega)]; exact e7
        · rw [c3, m4.2.2.2, blk_put, upd_n (by omega)]; exact e8
        · rw [c3, m5, blk_put, upd_n (by omega)]; exact e9
      obtain ⟨d', r', n', g', z0, z1, z2, z3, z4, z5⟩ := reroute_sim (lcn (mapV cs (liS (fun j => via cs j == some m) 48))) _ n1 g1 r 0 0 FU FU rfl hNB (exd_zero.mpr (ext_num hcn.2 (fun j => num_mapV j) (by rw [c3]; rfl) (by rw [c3]; rfl) (by rw [c3]; rfl))) (by rw [c3]; exact h4) hbb (by have := lcn_le (mapV cs (liS (fun j => via cs j == some m) 48)); omega) (by have := lcn_le (mapV cs (liS (fun j => via cs j == some m) 48)); omega) (FU_big (by have := lcn_le (mapV cs (liS (fun j => via cs j == some m) 48)); omega)) (FU_big (by have := lcn_le (mapV cs (liS (fun j => via cs j == some m) 48)); omega))
      have z1' : fX3_reroute r n1 = some (nI d', r', n') := z1
      have z2' : fX6_takesOut_100 (nI bb) FU (0 : Int32) (eN (lft (mapV cs (liS (fun j => via cs j == some m) 48)) 48) (-1)) g1 = some (nI d', g') := z2
      rw [z1', z2', Option.bind_some]
      exact ⟨nI d', r', n', g', rfl, rfl, ((FRM.put (by omega)).trans m3).trans z4, Or.inr (Or.inr ⟨nI_pos' (by omega), z5.mono hcn.1⟩)⟩
    · rw [if_neg hs, if_pos rfl, if_pos rfl]
      exact ⟨_, _, _, _, rfl, rfl, FRM.rfl, Or.inr (Or.inl ⟨rfl, rfl, rfl⟩)⟩
theorem revive_sim {K : Nat} {n g : OS} (h : SIM K n (blk g bb)) (hbb : bb ≤ 924) (x1 : Int32) :
    ∃ (a : Int32) (n' g' : OS), fX3_revive (fun _ => 0, fun _ _ => 0) n x1 = (a, n') ∧ fX6_putsBack g (nI bb) x1 = some (a, g') ∧ FRM bb g g' ∧ ((¬ (0 : Int32) ≤ a ∧ a ≠ (-6 : Int32) ∧ n' = n) ∨ (a = (-6 : Int32) ∧ n' = n ∧ g' = g) ∨ ((0 : Int32) ≤ a ∧ SIM K n' (blk g' bb))) := by
  obtain ⟨bo, li, mi, sv, cn, cs, hcn, ⟨W, hR, hM, e4, e5, ep, e7, e8, e9⟩, hall⟩ := h.1
  have h4 := h.2
  have h8 := W.mi8
  unfold fX3_revive fX6_putsBack
  rw [c_isMiddle hR, m_isMiddle hM W hbb, Option.bind_some]
  rcases rng mi (by omega) x1 with hx | ⟨hx, m, hm, rfl⟩
  · rw [hx, if_pos rfl, if_pos rfl]
    exact ⟨_, _, _, rfl, rfl, FRM.rfl, Or.inl ⟨by decide, by decide, rfl⟩⟩
  · rw [hx, if_neg ne10, if_neg ne10, hR.f3, if_pos (in_9 hbb), m_sv hM hbb, bit_has sv W.sv256 m (by omega), bit_has6 sv W.sv256 m (by omega)]
    by_cases hs : sv.testBit m = true
    · rw [if_pos hs, if_neg ne10, if_neg ne10]
      exact ⟨_, _, _, rfl, rfl, FRM.rfl, Or.inr (Or.inl ⟨rfl, rfl, rfl⟩)⟩
    · have hs : sv.testBit m = false := by simpa using hs
      rw [hs, if_neg (by decide : ¬ false = true), if_pos rfl, if_pos rfl, if_pos (in_9 hbb), if_pos (in_9 hbb)]
      simp only [jn]
      obtain ⟨b1, b2⟩ := in_bits sv W.sv256 m (by omega) hs
      have hlt := in_lt mi (by omega) sv W.svlt m hm hs
      have h256 : sv + 2 ^ m < 256 := lt256 hlt h8
      rw [b1, b2, upd_s, if_pos (in_9 hbb), pop_c _ h256, pop_m h256, Option.bind_some, show nI bb + (9 : Int32) = nI bb + nI 9 from rfl, put_fld hbb (by decide)]
      have hR2 := hR.sv (sv + 2 ^ m)
      have hM2 := hM.sv (sv + 2 ^ m)
      rw [← blk_put] at hM2
      have WL : WF bo li mi (sv + 2 ^ m) cn cs := W.sv' hlt (fun i k hk => by
        rw [in_bit sv W.sv256 m (by omega) hs k (W.via8 hk), W.viasv hk]; rfl)
      refine ⟨_, _, _, rfl, rfl, FRM.put (by omega), Or.inr (Or.inr ⟨nI_pos' (by have := cnt_le (sv + 2 ^ m).testBit 8; omega), ⟨bo, li, mi, sv + 2 ^ m, cn, cs, hcn, ⟨WL, hR2, hM2, ?_, ?_, ?_, ?_, ?_, ?_⟩, hall⟩, h4⟩)⟩
      · rw [blk_put, upd_n (by omega)]; exact e4
      · rw [blk_put, upd_n (by omega)]; exact e5
      · rw [blk_put, upd_n (by omega)]; exact ep
      · rw [blk_put, upd_n (by omega)]; exact e7
      · rw [blk_put, upd_n (by omega)]; exact e8
      · rw [blk_put, upd_n (by omega)]; exact e9
end RT
