/-! a call that is carried: taken back, nothing is left of it -/
section AP
variable {K bo li mi sv cn : Nat} {cs : CS} {n : OS} {B B' : Nat → Int32} {kx x : OS} {hi : HS}
theorem ahead_pos (v : VW K bo li mi sv cn cs n B) {i o m c : Nat} (hil : i < bo * li) (hol : o < bo * li) (hm : m < 8) (hc : c ≤ 16) (hz : c = 0 ↔ frF li mi sv cs (i / li) &&& frL li mi sv cs (o / li) ≠ 0)
    (htr : ∀ r, ∃ r' n' cs', fX3_tryCall r n (nI i) (nI o) = some (nI m, r') ∧ fX3_settle r' (fX1_addCall n (nI i) (nI o)) (nI i) (nI m) = some n' ∧ VW (K + 1) bo li mi sv (cn + 1) cs' n' B' ∧ (∀ j, num cs' j = if j = i then some cn else num cs j) ∧ (∀ j, outl cs' j = if j = i then some o else outl cs j) ∧ via cs' i = some m ∧ n'.1 9 = n.1 9 + nI c ∧ r'.1 1 = nI c ∧ ∀ k, k < c → ∃ u y, u < 48 ∧ r'.2 0 k = nI u ∧ num cs u = some y)
    (hw : fX5_reason kx n (nI i) (nI o) = some (if frF li mi sv cs (i / li) &&& frL li mi sv cs (o / li) = 0 then (1 : Int32) else (0 : Int32))) (hH : HOK K hi) (o0 r : OS) :
    ∃ hi' r', fL_isAhead kx hi x o0 r n (nI i) (nI o) = some ((1 : Int32), hi', n, r', n) ∧ HOK K hi' := by
  have h48 := v.W.n48
  have hl1 := v.W.li1
  have hl6 := v.W.li6
  have d1 := div_lt hil
  have d2 := div_lt hol
  have hli : ¬ nI li = (0 : Int32) := nI_ne0 (by omega) (by omega)
  have f1 : frF li mi sv cs (i / li) < 256 := frF256 v.W
  have hm0 : (0 : Int32) ≤ nI m := nI_pos' (by omega)
  have z3 : (nI (frF li mi sv cs (i / li)) &&& nI (frL li mi sv cs (o / li)) = (0 : Int32)) ↔ frF li mi sv cs (i / li) &&& frL li mi sv cs (o / li) = 0 := nI_and0 f1
  have zc : (nI c = (0 : Int32)) ↔ c = 0 := nI0 (by omega)
  obtain ⟨r1, n1, cs1, a1, -, -, -, -, -, -, a8, -⟩ := htr r
  have ew : fX5_wouldMove kx r n (nI i) (nI o) = some (nI c, r1) := by
    unfold fX5_wouldMove
    rw [a1, Option.bind_some, if_pos hm0, a8]
  obtain ⟨r2, n2, cs2, b1, b2, b3, b4, b5, b6, b7, b8, -⟩ := htr r1
  obtain ⟨hi1, cc, hcc, p0, p1, p2, p3, p4⟩ := push_ok hH v.sim
  have ec : fX5_connect kx hi o0 r1 n (nI i) (nI o) = some (nI m, hi1, n, r2, n2) := by
    unfold fX5_connect fX3_join
    rw [b1, Option.bind_some, if_pos hm0, jn_eq, b2, Option.bind_some, Option.bind_some, recd_p (show ¬ nI m < 0 from nI_pos (by omega)) p1, Option.bind_some]
  obtain ⟨hi2, p5, p6⟩ := p4 n2
  obtain ⟨st, hst⟩ : ∃ st, st = (if cc < 4 then cc + 1 else 4) - 1 := ⟨_, rfl⟩
  have hst4 : st < 4 := by
    by_cases hq : cc < 4
    · rw [if_pos hq] at hst; omega
    · rw [if_neg hq] at hst; omega
  rw [← hst] at p5
  have eu : fX5_undo kx hi1 n2 = some (nI st, hi2, n) := by
    unfold fX5_undo
    rw [p5, Option.bind_some]
  obtain ⟨r3, hr3⟩ := ahead_chain (kx := kx) (x := x) v hm hc (fun r => by
    obtain ⟨r', n', cs', q1, -, -, -, -, -, -, q8, q9⟩ := htr r
    exact ⟨r', q1, q8, q9⟩) hi2 n (c + 2) 0 FU r2 rfl (by omega) (FU_big (by omega))
  have hr3' : fL_isAhead_401 kx hi2 x n n (nI i) (nI o) (nI c) FU (1 : Int32) (0 : Int32) r2 = some ((1 : Int32), hi2, n, r3, n) := hr3
  have e11 : (if nI c ≤ (0 : Int32) then (0 : Int32) else (1 : Int32)) = (if frF li mi sv cs (i / li) &&& frL li mi sv cs (o / li) = 0 then (1 : Int32) else (0 : Int32)) := by
    by_cases h0 : c = 0
    · rw [h0, if_pos (show nI 0 ≤ (0 : Int32) by decide), if_neg (hz.mp h0)]
    · rw [if_neg (nI_nle (by omega) (by omega)), if_pos (by
        by_cases hq : frF li mi sv cs (i / li) &&& frL li mi sv cs (o / li) = 0
        · exact hq
        · exact absurd (hz.mpr hq) h0)]
  have e34 : (if nI (frF li mi sv cs (i / li)) &&& nI (frL li mi sv cs (o / li)) = (0 : Int32) then (0 : Int32) else (1 : Int32)) = (if nI c = (0 : Int32) then (1 : Int32) else (0 : Int32)) := by
    by_cases h0 : c = 0
    · rw [if_neg (fun e => hz.mp h0 (z3.mp e)), if_pos (zc.mpr h0)]
    · rw [if_neg (fun e => h0 (zc.mp e)), if_pos (z3.mpr (by
        by_cases hq : frF li mi sv cs (i / li) &&& frL li mi sv cs (o / li) = 0
        · exact hq
        · exact absurd (hz.mpr hq) h0))]
  have hn2 : num cs2 i = some cn := by rw [b4, if_pos rfl]
  have ho2 : outl cs2 i = some o := by rw [b5, if_pos rfl]
  have ecall : fX5_callOfInlet kx n2 (nI i) = nI cn := by rw [v_call b3 hil, hn2, eN_some]
  have he : endsH cs2 (nI i) (bo * li) = endsH cs (nI i) (bo * li) := endsH_congr (fun j hj hne => by
    have hji : j ≠ i := fun e => hne (by rw [e])
    exact ⟨by rw [b4, if_neg hji], by rw [b5, if_neg hji]⟩)
  refine ⟨hi2, r3, ?_, p6⟩
  unfold fL_isAhead
  rw [v_told v, Option.bind_some, v_ends v, Option.bind_some, v_t1 v, Option.bind_some, ew, Option.bind_some, hw, Option.bind_some, v_t9 v, Option.bind_some, ec, Option.bind_some, if_pos hm0]
  rw [if_neg (show ¬ nI c < (0 : Int32) from nI_pos (by omega)), jn_eq, e11, if_pos rfl, v_t9 b3, Option.bind_some, if_pos b7, v_ends b3, Option.bind_some, he, if_pos (lc0 _), ecall, v_middleOf b3 hn2 b6, Option.bind_some, if_pos (rfl : nI m = nI m), v_outletOf b3 hn2 ho2, Option.bind_some, if_pos (rfl : nI o = nI o), Option.bind_some, if_neg ne10, eu, Option.bind_some]
  rw [if_neg (show ¬ nI st < (0 : Int32) from nI_pos (by omega)), v_told v, Option.bind_some, if_pos (lc0 _), if_pos hli, pk_div (a := i) (by omega) (by omega) (by omega), v_ff v d1, Option.bind_some, if_pos hli, pk_div (a := o) (by omega) (by omega) (by omega), v_fl v d2, Option.bind_some, jn_eq, jn_eq, e34, if_pos rfl, Option.bind_some]
  exact hr3'
/-- where no board is out of service and the middle boards are no fewer than the lines, no call is blocked -/
theorem cap_ex (v : VW K bo li mi sv cn cs n B) (hK : K + 1 < 2 ^ 30) {i o : Nat} (hil : i < bo * li) (hol : o < bo * li) (hb : busy cs i = false) (hio : inlOf cs o = none) (h0 : frF li mi sv cs (i / li) = 0 ∨ frL li mi sv cs (o / li) = 0) (h1 : mi ≤ cnt sv.testBit 8) (h2 : li ≤ mi) : False := by
  have hcn1 : cn + 1 < 2 ^ 30 := by have := v.1.1; omega
  have W' := v.W.add hil hol hb hio hcn1
  obtain ⟨hv, hF, hL⟩ := add_lk v.W hil hol hb hio hcn1
  have hox : outl (addC cs i cn o) i = some o := by rw [outl_addC, if_pos rfl]
  have hvx : via (addC cs i cn o) i = none := by rw [via_addC, if_pos rfl]
  have hfb : ∀ b, fbN li (addC cs i cn o) b ≤ cnt sv.testBit 8 := fun b => by
    rw [← fbN_eq W']
    have := cnt_le (fun j => busy (addC cs i cn o) (b * li + j)) li
    omega
  have hlb : ∀ b, lbN li (addC cs i cn o) b ≤ cnt sv.testBit 8 := fun b => by
    rw [← lbN_eq W']
    have := cnt_le (fun j => (inlOf (addC cs i cn o) (b * li + j)).isSome) li
    omega
  rcases h0 with h0 | h0
  · exact cap_F W' (busy_of_out hox) hvx (hfb _) (by rw [frF_same hF]; exact h0)
  · exact cap_L W' hvx hox (hlb _) (by rw [frL_same hL]; exact h0)
theorem v_ahead (h : SIM K n B) (hK : K + 1 < 2 ^ 30) (hH : HOK K hi) (x1 x2 : Int32) (o0 r : OS) : ∃ hi' o' r', fL_isAhead kx hi x o0 r n x1 x2 = some ((1 : Int32), hi', o', r', n) ∧ HOK K hi' := by
  obtain ⟨bo, li, mi, sv, cn, cs, v⟩ := h.vw
  have h48 := v.W.n48
  have hl1 := v.W.li1
  have hl6 := v.W.li6
  have hm8 := v.W.mi8
  have hli : ¬ nI li = (0 : Int32) := nI_ne0 (by omega) (by omega)
  have n1 : ¬ (-1 : Int32) = (-4 : Int32) := by decide
  have n3 : ¬ (-3 : Int32) = (-4 : Int32) := by decide
  rcases try_ex v hK x1 x2 with ⟨h1, hw⟩ | ⟨i, o, hi1, ho1, rfl, rfl, ⟨h1, w, hw0, hw⟩ | ⟨hb, hio, ⟨h1, hw⟩ | ⟨hF0, hL0, hw, m, c, B', hm, hc, hz, h1⟩⟩⟩
  · obtain ⟨r', e⟩ := ahead_neg (x := x) v hi o0 r (a := (-1 : Int32)) (by decide) (fun r => ⟨r, h1 r⟩) (hw kx) (by decide) (by rw [if_neg n1]) (by rw [if_neg n1])
    exact ⟨hi, n, r', e, hH⟩
  · obtain ⟨r', e⟩ := ahead_neg (x := x) v hi o0 r (a := (-3 : Int32)) (by decide) (fun r => ⟨r, h1 r⟩) (hw kx) (by rcases hw0 with rfl | rfl <;> decide) (by rw [if_neg n3]) (by rw [if_neg n3])
    exact ⟨hi, n, r', e, hH⟩
  · have d1 := div_lt hi1
    have d2 := div_lt ho1
    have hblk : frF li mi sv cs (i / li) = 0 ∨ frL li mi sv cs (o / li) = 0 := by
      rcases hw with ⟨e, -⟩ | ⟨-, e, -⟩
      · exact Or.inl e
      · exact Or.inr e
    have q58 : (if (-4 : Int32) = (-4 : Int32) then Option.bind (α := Int32) (fL_bits (fX5_inService kx n)) (fun v53 => Option.bind (α := Int32) (fX5_total kx hi x n (2 : Int32)) (fun v54 => if v53 < v54 then some (1 : Int32) else Option.bind (α := Int32) (fX5_total kx hi x n (2 : Int32)) (fun v56 => if nI li ≤ v56 then some (0 : Int32) else some (1 : Int32)))) else some (1 : Int32)) = some (1 : Int32) := by
      have hc8 := cnt_le sv.testBit 8
      rw [if_pos rfl, v_serv v, v_bits v.W.sv256, Option.bind_some, v_t2 v, Option.bind_some]
      by_cases hlt : cnt sv.testBit 8 < mi
      · rw [if_pos (nI_lt hlt (by omega))]
      · rw [if_neg (nI_nlt (by omega) (by omega)), Option.bind_some]
        by_cases hle : li ≤ mi
        · exact (cap_ex v hK hi1 ho1 hb hio hblk (by omega) hle).elim
        · rw [if_neg (nI_ge (by omega) (by omega))]
    have fin : ∃ r', fL_isAhead kx hi x o0 r n (nI i) (nI o) = some ((1 : Int32), hi, n, r', n) := by
      rcases hw with ⟨e0, hw⟩ | ⟨-, e0, hw⟩
      · refine ahead_neg (x := x) v hi o0 r (a := (-4 : Int32)) (w := (4 : Int32)) (by decide) (fun r => ⟨_, h1 r⟩) (hw kx) (by decide) q58 ?_
        rw [if_pos rfl, if_pos rfl, if_pos hli, pk_div (by omega) (by omega) (by omega), v_ff v d1, Option.bind_some, Option.bind_some, e0, if_pos (show nI 0 = (0 : Int32) from rfl)]
      · refine ahead_neg (x := x) v hi o0 r (a := (-4 : Int32)) (w := (5 : Int32)) (by decide) (fun r => ⟨_, h1 r⟩) (hw kx) (by decide) q58 ?_
        rw [if_pos rfl, if_neg (show ¬ (5 : Int32) = (4 : Int32) by decide), if_pos hli, pk_div (by omega) (by omega) (by omega), v_fl v d2, Option.bind_some, Option.bind_some, e0, if_pos (show nI 0 = (0 : Int32) from rfl)]
    obtain ⟨r', e⟩ := fin
    exact ⟨hi, n, r', e, hH⟩
  · obtain ⟨hi', r', e, p⟩ := ahead_pos (x := x) v hi1 ho1 hm hc hz h1 (hw kx) hH o0 r
    exact ⟨hi', n, r', e, p⟩
end AP
