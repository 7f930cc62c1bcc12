/-! both sides route a call alike -/
section BO
variable {bo li mi sv cn cn2 : Nat} {csA csB : CS} {x o bb : Nat}
theorem chn_same (WA : WF bo li mi sv cn csA) (hF : ∀ b m, lkF li csB b m = lkF li csA b m) (hL : ∀ m t, lkL li csB m t = lkL li csA m t) (hO : ∀ j, via csA j ≠ none → outl csB j = outl csA j) {p q t : Nat} : ∀ k, chn li csB p q t k = chn li csA p q t k
  | 0 => hL p t
  | k + 1 => by
    rw [chn_s, chn_s, chn_same WA hF hL hO k]
    cases hc : chn li csA p q t k with
    | none => rfl
    | some i =>
      have hv := chn_via WA hc
      show nxt li csB p q k i = nxt li csA p q k i
      unfold nxt
      rw [hF, hO i (by rw [hv]; simp)]
      split
      · rfl
      · cases outl csA i with
        | none => rfl
        | some o => exact hL _ _
theorem clen_same (WA : WF bo li mi sv cn csA) (hF : ∀ b m, lkF li csB b m = lkF li csA b m) (hL : ∀ m t, lkL li csB m t = lkL li csA m t) (hO : ∀ j, via csA j ≠ none → outl csB j = outl csA j) {p q t : Nat} : clen li csB p q t = clen li csA p q t := by
  unfold clen
  rw [findI_congr (fun k _ => by rw [chn_same WA hF hL hO k])]
theorem frF_same (hF : ∀ b m, lkF li csB b m = lkF li csA b m) (b : Nat) : frF li mi sv csB b = frF li mi sv csA b := by
  unfold frF; exact bitsOf_congr (fun m _ => by rw [hF])
theorem frL_same (hL : ∀ m t, lkL li csB m t = lkL li csA m t) (t : Nat) : frL li mi sv csB t = frL li mi sv csA t := by
  unfold frL; exact bitsOf_congr (fun m _ => by rw [hL])
theorem WF.direct (W : WF bo li mi sv cn csB) (hx : via csB x = none) (hox : outl csB x = some o) {m : Nat} (h1 : (frF li mi sv csB (x / li)).testBit m = true) (h2 : (frL li mi sv csB (o / li)).testBit m = true) : WF bo li mi sv cn (setV csB x (some m)) := by
  obtain ⟨a1, a2, a3⟩ := frF_bit.mp h1
  obtain ⟨-, -, b3⟩ := frL_bit.mp h2
  have hb := busy_of_out hox
  have vx : via (setV csB x (some m)) x = some m := via_setV_s hb
  refine ⟨W.bo2, W.bo8, W.li1, W.li6, W.mi1, W.mi8, W.svlt, W.cn30, fun i h => W.lt (by rw [busy_setV] at h; exact h), fun i c h => W.numlt (by rw [num_setV] at h; exact h), fun i u h => W.outlt (by rw [outl_setV] at h; exact h), fun i k h => ?_, fun i j u a b => W.outinj (by rw [outl_setV] at a; exact a) (by rw [outl_setV] at b; exact b), fun i j k a b c => ?_, fun i j k u u' a b c d e => ?_⟩
  · by_cases hi : i = x
    · rw [hi, vx] at h; cases h; exact ⟨a1, a2⟩
    · rw [via_setV_n hi] at h; exact ⟨W.vialt h, W.viasv h⟩
  · by_cases hi : i = x
    · by_cases hj : j = x
      · rw [hi, hj]
      · rw [hi, vx] at a; cases a
        rw [via_setV_n hj] at b
        exact absurd (by rw [← c, hi]) (W.lF_none.mp a3 j b)
    · rw [via_setV_n hi] at a
      by_cases hj : j = x
      · rw [hj, vx] at b; cases b
        exact absurd (by rw [c, hj]) (W.lF_none.mp a3 i a)
      · rw [via_setV_n hj] at b
        exact W.finj a b c
  · rw [outl_setV] at c d
    by_cases hi : i = x
    · by_cases hj : j = x
      · rw [hi, hj]
      · rw [hi, vx] at a; cases a
        rw [hi, hox] at c; cases c
        rw [via_setV_n hj] at b
        exact absurd e.symm (W.lL_none.mp b3 j u' b d)
    · rw [via_setV_n hi] at a
      by_cases hj : j = x
      · rw [hj, vx] at b; cases b
        rw [hj, hox] at d; cases d
        exact absurd e (W.lL_none.mp b3 i u a c)
      · rw [via_setV_n hj] at b
        exact W.linj a b c d e
theorem route {n n2 r g : OS} (hRA : RC bo li mi sv cn csA n) (WA : WF bo li mi sv cn csA) (hRB : RC bo li mi sv cn2 csB n2) (WB : WF bo li mi sv cn2 csB) (hM : RM bo li mi sv cn2 csB (blk g bb)) (hbb : bb ≤ 924)
    (hv : ∀ j, via csB j = via csA j) (hF : ∀ b m, lkF li csB b m = lkF li csA b m) (hL : ∀ m t, lkL li csB m t = lkL li csA m t) (hO : ∀ j, via csA j ≠ none → outl csB j = outl csA j)
    (hxl : x < bo * li) (hx : via csB x = none) (hox : outl csB x = some o) (h4 : n.1 4 = blk g bb 3) (h5 : n.1 5 = blk g bb 4) (hpr : blk g bb 4 = (0 : Int32) ∨ blk g bb 4 = (1 : Int32)) :
    ∃ (a : Int32) (r' g' : OS), fX3_findWay r n (nI x) (nI o) = some (a, r') ∧ fX6_routes g (nI bb) (nI x) = some (a, g') ∧ r'.2 1 = r.2 1 ∧ FRM bb g g' ∧ SMB (blk g bb) (blk g' bb) ∧
      ((a = (-4 : Int32) ∧ (frF li mi sv csA (x / li) = 0 ∨ frL li mi sv csA (o / li) = 0) ∧ RM bo li mi sv cn2 csB (blk g' bb) ∧ r'.1 1 = (0 : Int32) ∧ g'.1 10 = (0 : Int32) ∧ blk g' bb 8 = blk g bb 8) ∨
       ∃ (m c : Nat) (cs' : CS) (n' : OS), a = nI m ∧ m < 8 ∧ fX3_settle r' n2 (nI x) (nI m) = some n' ∧ RC bo li mi sv cn2 cs' n' ∧ WF bo li mi sv cn2 cs' ∧ RM bo li mi sv cn2 cs' (blk g' bb) ∧ (∀ j, num cs' j = num csB j) ∧ (∀ j, outl cs' j = outl csB j) ∧ via cs' x = some m ∧ (∀ j, j ≠ x → (via cs' j = none ↔ via csB j = none)) ∧
         n'.1 = upd n2.1 9 (n2.1 9 + nI c) ∧ blk g' bb 8 = blk g bb 8 + nI c ∧ r'.1 1 = nI c ∧ g'.1 10 = nI c ∧ c ≤ 16 ∧ (c = 0 ↔ frF li mi sv csA (x / li) &&& frL li mi sv csA (o / li) ≠ 0) ∧ ∀ k, k < c → ∃ i, i < 48 ∧ via csA i ≠ none ∧ r'.2 0 k = nI i ∧ g'.2 2 k = nI i) := by
  have hol := WB.outlt hox
  have hbx := busy_of_out hox
  have eF := frF_same (mi := mi) (sv := sv) hF (x / li)
  have eL := frL_same (mi := mi) (sv := sv) hL (o / li)
  by_cases hblk : frF li mi sv csA (x / li) = 0 ∨ frL li mi sv csA (o / li) = 0
  · refine ⟨(-4 : Int32), setF r 1 (0 : Int32), setF g 10 (0 : Int32), c_way_b hRA WA hxl hol hblk, m_route_b hM WB hbb hox (by rw [eF, eL]; exact hblk), rfl, FRM.ten, SMB.rfl, Or.inl ⟨rfl, hblk, hM, rfl, rfl, rfl⟩⟩
  · have h10 : frF li mi sv csA (x / li) ≠ 0 := fun e => hblk (Or.inl e)
    have h20 : frL li mi sv csA (o / li) ≠ 0 := fun e => hblk (Or.inr e)
    by_cases hand : frF li mi sv csA (x / li) &&& frL li mi sv csA (o / li) = 0
    · -- a chain
      obtain ⟨r', b, d0, d1, d2, d3, d4, d5, d6⟩ := c_way_c (r := r) hRA WA hxl hol h10 h20 hand
      obtain ⟨b', g', e0, e1, e2, e3, e4, e5, e6, e7⟩ := m_route_c (x := x) hM WB hbb hx hox (by rw [eF]; exact h10) (by rw [eL]; exact h20) (by rw [eF, eL]; exact hand) hpr
      have elen : ∀ i, lenOf li csB (o / li) i = lenOf li csA (o / li) i := fun i => clen_same WA hF hL hO
      have hbb' : b' = b := by
        rw [eF, eL, bpr_congr (fun i _ => elen i), ← h5, d0] at e0
        exact (Option.some.inj e0).symm
      subst hbb'
      obtain ⟨hb64, hbg⟩ := bpr_some d0
      obtain ⟨g1, g2⟩ := good2_bits hbg
      have hpq : b' / 8 ≠ b' % 8 := fun e => and0 hand g1 (e ▸ g2)
      obtain ⟨f1, f2, f3⟩ := frF_bit.mp g1
      obtain ⟨f4, f5, f6⟩ := frL_bit.mp g2
      have hqB : lkL li csB (b' % 8) (o / li) = none := by rw [hL]; exact f6
      have WX := kempe (x := x) WB hpq hqB (by rw [hF]; exact f3) hx hox rfl f1 f2 f4 f5
      have hcl : clen li csB (b' / 8) (b' % 8) (o / li) = lenOf li csA (o / li) b' := elen b'
      have hHB : HC (r'.2 0) li csB (b' / 8) (b' % 8) (o / li) (clen li csB (b' / 8) (b' % 8) (o / li)) := by
        intro k i hk hi
        rw [chn_same WA hF hL hO] at hi
        rw [hcl] at hk
        exact d6 k i hk hi
      obtain ⟨n', s1, s2, s3⟩ := c_settle (x := x) hRB WB hpq hqB hx hbx WX (by rw [hcl]; exact d2) d3 d4 hHB
      obtain ⟨c16, cend, cin⟩ := clen_spec WB hpq hqB
      refine ⟨nI (b' / 8), r', g', d1, e1, d5, e3, e6, Or.inr ⟨b' / 8, lenOf li csA (o / li) b', _, n', rfl, by omega, s1, s2, WX, e2, fun j => ?_, fun j => ?_, ?_, fun j hj => ?_, ?_, ?_, d2, ?_, ?_, ?_, fun k hk => ?_⟩⟩
      · rw [num_setV]; exact num_mapV j
      · rw [outl_setV]; exact outl_mapV j
      · exact via_setV_s (by unfold flip; rw [busy_mapV]; exact hbx)
      · rw [via_setV_n hj]
        cases hp : pos li csB (b' / 8) (b' % 8) (o / li) j with
        | none => rw [via_flip_out hp]
        | some l =>
          have hc := (pos_iff WB hpq hqB).mp hp
          rw [via_flip_in WB hpq hqB hc, chn_via WB hc]
          simp
      · rw [← hcl]; exact s3
      · rw [e7, elen]
      · rw [e4, elen]
      · rw [← hcl]; exact c16
      · refine ⟨fun h0 => ?_, fun h => absurd hand h⟩
        exfalso
        rw [← hcl] at h0
        rw [h0] at cend
        have cend : lkL li csB (b' / 8) (o / li) = none := cend
        rw [hL] at cend
        exact and0 hand g1 (frL_bit.mpr ⟨f1, f2, cend⟩)
      · rw [← hcl] at hk
        obtain ⟨i, hi⟩ := cin k hk
        refine ⟨i, chn_48 WB hi, by rw [← hv, chn_via WB hi]; simp, hHB k i hk hi, e5 k i (by rw [elen, ← hcl]; exact hk) hi⟩
    · -- straight
      have hand' : frF li mi sv csB (x / li) &&& frL li mi sv csB (o / li) ≠ 0 := by rw [eF, eL]; exact hand
      obtain ⟨m, e0, e1⟩ := m_route_d (x := x) hM WB hbb hox hand'
      have hld : ∀ m, ldc csB m = ldc csA m := fun m => cnt_congr (fun i _ => by rw [hv])
      have d1 := c_way_d (r := r) hRA WA hxl hol hand
      rw [eF, eL, chs_congr hld, ← h4] at e0
      rw [e0, eN_some] at d1
      have hm8 := (chs_some e0).1
      have hmb := (chs_some e0).2
      rw [Nat.testBit_and, Bool.and_eq_true] at hmb
      have WX := WB.direct hx hox (m := m) (by rw [eF]; exact hmb.1) (by rw [eL]; exact hmb.2)
      obtain ⟨n', s1, s2, s3⟩ := c_settle0 (r := setF r 1 (0 : Int32)) hRB WX hx hbx rfl
      have hx48 := WB.lt48 hbx
      have hm1 := hM.lay2 hx48 (some m)
      refine ⟨nI m, setF r 1 (0 : Int32), putS (setF g 10 (0 : Int32)) (bb + (10 + 3 * x + 2)) (nI m), d1, e1, rfl, FRM.ten.trans (FRM.put (by omega)), ?_, Or.inr ⟨m, 0, _, n', rfl, hm8, s1, s2, WX, ?_, num_setV, outl_setV, via_setV_s hbx, fun j hj => by rw [via_setV_n hj], s3, ?_, rfl, rfl, by omega, ⟨fun _ => hand, fun _ => rfl⟩, fun k hk => by omega⟩⟩
      · rw [blk_put]; exact SMB.put (by omega)
      · rw [blk_put]; exact hm1
      · rw [blk_put, upd_n (by omega)]
        show blk g bb 8 = blk g bb 8 + (0 : Int32)
        rw [nI_add0]
end BO
