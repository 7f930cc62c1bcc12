/-! what there is, and what would be: both sides answer alike -/
section QU
variable {bo li mi sv cn : Nat} {cs : CS} {n g : OS}
theorem m0_isLine (hM : RM bo li mi sv cn cs (blk g 0)) (W : WF bo li mi sv cn cs) (x : Int32) : fX6_isLine g (0 : Int32) x = some (if x < 0 then (0 : Int32) else if nI (bo * li) ≤ x then (0 : Int32) else (1 : Int32)) := m_isLine (bb := 0) hM W (by omega) x
theorem m0_isMiddle (hM : RM bo li mi sv cn cs (blk g 0)) (W : WF bo li mi sv cn cs) (x : Int32) : fX6_isMiddle g (0 : Int32) x = some (if x < 0 then (0 : Int32) else if nI mi ≤ x then (0 : Int32) else (1 : Int32)) := m_isMiddle (bb := 0) hM W (by omega) x
theorem m0_of0 {i : Nat} (hi : i < 48) : fX6_of g (0 : Int32) (nI i) (0 : Int32) = some (blk g 0 (10 + 3 * i)) := m_of0 (bb := 0) (by omega) hi
theorem m0_of1 {i : Nat} (hi : i < 48) : fX6_of g (0 : Int32) (nI i) (1 : Int32) = some (blk g 0 (10 + 3 * i + 1)) := m_of1 (bb := 0) (by omega) hi
theorem m0_of2 {i : Nat} (hi : i < 48) : fX6_of g (0 : Int32) (nI i) (2 : Int32) = some (blk g 0 (10 + 3 * i + 2)) := m_of2 (bb := 0) (by omega) hi
theorem m0_lines (hM : RM bo li mi sv cn cs (blk g 0)) : fX6_lines g (0 : Int32) = some (nI (bo * li)) := m_lines (bb := 0) hM (by omega)
theorem m0_inletTo (hM : RM bo li mi sv cn cs (blk g 0)) (W : WF bo li mi sv cn cs) {o : Nat} (ho : o < 2 ^ 31) : fX6_inletTo g (0 : Int32) (nI o) = some (eN (inlOf cs o) (-1)) := m_inletTo (bb := 0) hM W (by omega) ho
theorem m0_onFirst (hM : RM bo li mi sv cn cs (blk g 0)) (W : WF bo li mi sv cn cs) {b m : Nat} (hb : b < 2 ^ 31) (hm : m < 2 ^ 31) : fX6_onFirst g (0 : Int32) (nI b) (nI m) = some (eN (lkF li cs b m) (-1)) := m_onFirst (bb := 0) hM W (by omega) hb hm
theorem m0_onLast (hM : RM bo li mi sv cn cs (blk g 0)) (W : WF bo li mi sv cn cs) {t m : Nat} (ht : t < 2 ^ 31) (hm : m < 2 ^ 31) : fX6_onLast g (0 : Int32) (nI m) (nI t) = some (eN (lkL li cs m t) (-1)) := m_onLast (bb := 0) hM W (by omega) ht hm
theorem m0_load (hM : RM bo li mi sv cn cs (blk g 0)) (W : WF bo li mi sv cn cs) {m : Nat} (hm : m < 2 ^ 31) : fX6_loadOf g (0 : Int32) (nI m) = some (nI (cnt (fun i => via cs i == some m) 48)) := m_load (bb := 0) hM W (by omega) hm
theorem m0_ahead (hM : RM bo li mi sv cn cs (blk g 0)) (W : WF bo li mi sv cn cs) {b : Nat} (hb : b < 2 ^ 31) : fX6_freeAhead g (0 : Int32) (nI b) = some (nI (frF li mi sv cs b)) := m_freeAhead (bb := 0) hM W (by omega) hb
theorem m0_behind (hM : RM bo li mi sv cn cs (blk g 0)) (W : WF bo li mi sv cn cs) {b : Nat} (hb : b < 2 ^ 31) : fX6_freeBehind g (0 : Int32) (nI b) = some (nI (frL li mi sv cs b)) := m_freeBehind (bb := 0) hM W (by omega) hb
theorem m0_calls (hM : RM bo li mi sv cn cs (blk g 0)) (W : WF bo li mi sv cn cs) : fX6_calls g (0 : Int32) = some (nI (cnt (busy cs) 48)) := m_calls (bb := 0) hM W (by omega)
theorem m0_least (hM : RM bo li mi sv cn cs (blk g 0)) (W : WF bo li mi sv cn cs) : fX6_least g (0 : Int32) = some (nI (lst li cs bo)) := m_least (bb := 0) hM W (by omega)
theorem m0_li (hM : RM bo li mi sv cn cs (blk g 0)) : ((g.2 0) (1 : Int32).toNatClampNeg) = nI li := hM.b1
theorem in0_1 : inb (1 : Int32) 1078 = true := by decide
end QU
section QS
variable {K : Nat} {kx n g : OS}
theorem q_callOfInlet (h : SIM K n (blk g 0)) (x : Int32) : fX6_callOfInlet g x = some (fX5_callOfInlet kx n x) := by
  obtain ⟨bo, li, mi, sv, cn, cs, hcn, ⟨W, hR, hM, e4, e5, ep, e7, e8, e9⟩, hall⟩ := h.1
  have h48 := W.n48
  unfold fX6_callOfInlet fX5_callOfInlet
  rw [c_isLine hR, m0_isLine hM W, Option.bind_some]
  rcases rng (bo * li) (by omega) x with hx | ⟨hx, i, hi, rfl⟩
  · rw [hx, if_pos rfl, if_pos rfl]
  · rw [hx, if_neg ne10, if_neg ne10, hR.r0 (by omega), m0_of0 (by omega), Option.bind_some, Option.bind_some, hM.nm (by omega)]
    cases hn : num cs i with
    | none => rw [eN_none, if_pos rfl, eN_none]
    | some c => rw [eN_some, if_neg (nI_ne_of_neg (W.num31 hn) (by decide)), eN_some]
theorem q_callOfOutlet (h : SIM K n (blk g 0)) (x : Int32) : fX6_callOfOutlet g x = some (fX5_callOfOutlet kx n x) := by
  obtain ⟨bo, li, mi, sv, cn, cs, hcn, ⟨W, hR, hM, e4, e5, ep, e7, e8, e9⟩, hall⟩ := h.1
  have h48 := W.n48
  unfold fX6_callOfOutlet fX5_callOfOutlet
  rw [c_isLine hR, m0_isLine hM W, Option.bind_some]
  rcases rng (bo * li) (by omega) x with hx | ⟨hx, o, ho, rfl⟩
  · rw [hx, if_pos rfl, if_pos rfl]
  · rw [hx, if_neg ne10, if_neg ne10, hR.r3 (by omega), m0_inletTo hM W (by omega), Option.bind_some]
    cases hi : inlOf cs o with
    | none => rw [eN_none, if_pos rfl, eN_none, rget_neg (by decide)]
    | some i =>
      have hi48 := findI_lt hi
      obtain ⟨c, hc⟩ := num_of_busy (busy_of_out (W.inl.mp hi))
      rw [eN_some, if_neg (nI_ne_of_neg (inl48 hi) (by decide)), m0_of0 hi48, Option.bind_some, eN_some, hR.r0 hi48, hM.nm hi48, hc, eN_some, eN_some]
/-- the inlet of a number -/
theorem q_find {bo li mi sv cn : Nat} {cs : CS} (W : WF bo li mi sv cn cs) (hR : RC bo li mi sv cn cs n) (hM : RM bo li mi sv cn cs (blk g 0)) (x : Int32) : ∃ q, fX1_findInlet n x = some (eN q (-1)) ∧ fX6_inletOf g x = some (eN q (-1)) ∧ ∀ i, q = some i → i < 48 ∧ busy cs i = true := by
  have h48 := W.n48
  by_cases h0 : x < 0
  · refine ⟨none, ?_, ?_, fun i h => by cases h⟩
    · unfold fX1_findInlet
      rw [if_neg (by rw [Int32.le_iff_toInt_le]; rw [Int32.lt_iff_toInt_lt] at h0; omega)]; rfl
    · unfold fX6_inletOf
      have h := m_find (F := fun k i => fX6_inletOf_2 g x k i) (p := fun _ => false) h48 (fun _ _ _ => rfl) (fun k => ?_) (fun k i hi => ?_)
      · rw [findI_none.mpr (fun _ _ => rfl)] at h
        exact h
      · show fX6_inletOf_2 g x (k + 1) _ = _
        rw [fX6_inletOf_2_s, m0_lines hM, Option.bind_some, if_pos (nI_le (Nat.le_refl _) (by omega))]
      · show fX6_inletOf_2 g x (k + 1) _ = _
        rw [fX6_inletOf_2_s, m0_lines hM, Option.bind_some, if_neg (nI_ge hi (by omega)), if_pos h0, nI_succ1]; rfl
  · obtain ⟨c, hc, rfl⟩ := nI_of h0
    refine ⟨findI (fun i => num cs i == some c) 48, c_findInlet hR W hc, ?_, fun i h => ?_⟩
    · unfold fX6_inletOf
      refine m_find (F := fun k i => fX6_inletOf_2 g (nI c) k i) h48 (fun i h1 h2 => ?_) (fun k => ?_) (fun k i hi => ?_)
      · cases hb : busy cs i with
        | true => have := W.lt hb; omega
        | false => rw [busy_num.mpr hb]; rfl
      · show fX6_inletOf_2 g (nI c) (k + 1) _ = _
        rw [fX6_inletOf_2_s, m0_lines hM, Option.bind_some, if_pos (nI_le (Nat.le_refl _) (by omega))]
      · show fX6_inletOf_2 g (nI c) (k + 1) _ = _
        rw [fX6_inletOf_2_s, m0_lines hM, Option.bind_some, if_neg (nI_ge hi (by omega)), if_neg h0, m0_of0 (by omega), Option.bind_some, hM.nm (by omega), nI_succ1]
        by_cases hn : num cs i = some c
        · rw [if_pos (by rw [hn]; rfl), if_pos (by simp [hn])]
        · rw [if_neg (by rw [eN_eqn m1 hc (fun k hk => W.num31 hk)]; exact hn), if_neg (by simpa using hn)]
    · obtain ⟨h1, h2, -⟩ := findI_some h
      exact ⟨h1, busy_of_num (by simpa using h2)⟩
theorem q_inletOf (h : SIM K n (blk g 0)) (x : Int32) : ∃ r0, fX5_inletOf kx n x = some r0 ∧ fX6_inletOf g x = some r0 := by
  obtain ⟨bo, li, mi, sv, cn, cs, hcn, ⟨W, hR, hM, e4, e5, ep, e7, e8, e9⟩, hall⟩ := h.1
  obtain ⟨q, h1, h2, -⟩ := q_find W hR hM x
  refine ⟨_, ?_, h2⟩
  unfold fX5_inletOf
  rw [h1, Option.bind_some]
theorem q_outletOf (h : SIM K n (blk g 0)) (x : Int32) : ∃ r0, fX5_outletOf kx n x = some r0 ∧ fX6_outletOf g x = some r0 := by
  obtain ⟨bo, li, mi, sv, cn, cs, hcn, ⟨W, hR, hM, e4, e5, ep, e7, e8, e9⟩, hall⟩ := h.1
  obtain ⟨q, h1, h2, h3⟩ := q_find W hR hM x
  unfold fX5_outletOf fX6_outletOf
  rw [h1, h2, Option.bind_some, Option.bind_some]
  cases q with
  | none => exact ⟨(-1 : Int32), if_neg (by decide), if_pos rfl⟩
  | some i =>
    obtain ⟨hi, hb⟩ := h3 i rfl
    obtain ⟨o, ho⟩ := out_of_busy hb
    refine ⟨nI o, ?_, ?_⟩
    · rw [eN_some, if_pos (nI_pos' (by omega)), hR.r1 hi, ho, eN_some]
    · rw [eN_some, if_neg (nI_ne_of_neg (by omega) (by decide)), m0_of1 hi, Option.bind_some, hM.ou hi ho]
theorem q_middleOf (h : SIM K n (blk g 0)) (x : Int32) : ∃ r0, fX5_middleOf kx n x = some r0 ∧ fX6_middleOf g x = some r0 := by
  obtain ⟨bo, li, mi, sv, cn, cs, hcn, ⟨W, hR, hM, e4, e5, ep, e7, e8, e9⟩, hall⟩ := h.1
  obtain ⟨q, h1, h2, h3⟩ := q_find W hR hM x
  unfold fX5_middleOf fX6_middleOf
  rw [h1, h2, Option.bind_some, Option.bind_some]
  cases q with
  | none => exact ⟨(-1 : Int32), if_neg (by decide), if_pos rfl⟩
  | some i =>
    obtain ⟨hi, hb⟩ := h3 i rfl
    cases hv : via cs i with
    | none => exact absurd hv (hall i hb)
    | some m =>
      refine ⟨nI m, ?_, ?_⟩
      · rw [eN_some, if_pos (nI_pos' (by omega)), hR.r2 hi, hv, eN_some]
      · rw [eN_some, if_neg (nI_ne_of_neg (by omega) (by decide)), m0_of2 hi, Option.bind_some, hM.vi hi hb, hv, eN_some]
theorem q_onFirstLink (h : SIM K n (blk g 0)) (x1 x2 : Int32) : fX6_onFirstLink g x1 x2 = some (fX5_onFirstLink kx n x1 x2) := by
  obtain ⟨bo, li, mi, sv, cn, cs, hcn, ⟨W, hR, hM, e4, e5, ep, e7, e8, e9⟩, hall⟩ := h.1
  have h8 := W.bo8
  have hm8 := W.mi8
  unfold fX6_onFirstLink fX5_onFirstLink
  rw [c_isBoard hR, m_isBoard hM W, Option.bind_some]
  rcases rng bo (by omega) x1 with hx | ⟨hx, b, hb, rfl⟩
  · rw [hx, if_pos rfl, if_pos rfl]
  · rw [hx, if_neg ne10, if_neg ne10, c_isMiddle hR, m0_isMiddle hM W, Option.bind_some]
    rcases rng mi (by omega) x2 with hy | ⟨hy, m, hm, rfl⟩
    · rw [hy, if_pos rfl, if_pos rfl]
    · rw [hy, if_neg ne10, if_neg ne10, hR.r4 (by omega) (by omega), m0_onFirst hM W (by omega) (by omega), Option.bind_some]
      cases hl : lkF li cs b m with
      | none => rw [eN_none, if_pos rfl, eN_none, rget_neg (by decide)]
      | some i =>
        have hi48 := findI_lt hl
        obtain ⟨c, hc⟩ := num_of_busy (busy_of_via (W.lF.mp hl).1)
        rw [eN_some, if_neg (nI_ne_of_neg (lkF48 hl) (by decide)), m0_of0 hi48, Option.bind_some, eN_some, hR.r0 hi48, hM.nm hi48, hc, eN_some, eN_some]
theorem q_onLastLink (h : SIM K n (blk g 0)) (x1 x2 : Int32) : fX6_onLastLink g x1 x2 = some (fX5_onLastLink kx n x1 x2) := by
  obtain ⟨bo, li, mi, sv, cn, cs, hcn, ⟨W, hR, hM, e4, e5, ep, e7, e8, e9⟩, hall⟩ := h.1
  have h8 := W.bo8
  have hm8 := W.mi8
  unfold fX6_onLastLink fX5_onLastLink
  rw [c_isBoard hR, c_isMiddle hR, m_isBoard hM W, Option.bind_some, m0_isMiddle hM W, Option.bind_some]
  rcases rng bo (by omega) x2 with hx | ⟨hx, t, ht, rfl⟩
  · rw [hx, if_pos rfl, if_pos rfl]
    rw [ite_self]
  · rw [hx, if_neg ne10, if_neg ne10]
    rcases rng mi (by omega) x1 with hy | ⟨hy, m, hm, rfl⟩
    · rw [hy, if_pos rfl, if_pos rfl]
    · rw [hy, if_neg ne10, if_neg ne10, hR.r5 (by omega) (by omega), m0_onLast hM W (by omega) (by omega), Option.bind_some]
      cases hl : lkL li cs m t with
      | none => rw [eN_none, if_pos rfl, eN_none, rget_neg (by decide)]
      | some i =>
        have hi48 := findI_lt hl
        obtain ⟨c, hc⟩ := num_of_busy (busy_of_via (W.lL.mp hl).1)
        rw [eN_some, if_neg (nI_ne_of_neg (lkL48 hl) (by decide)), m0_of0 hi48, Option.bind_some, eN_some, hR.r0 hi48, hM.nm hi48, hc, eN_some, eN_some]
theorem q_load (h : SIM K n (blk g 0)) (x : Int32) : ∃ r0, fX5_load kx n x = some r0 ∧ fX6_load g x = some r0 := by
  obtain ⟨bo, li, mi, sv, cn, cs, hcn, ⟨W, hR, hM, e4, e5, ep, e7, e8, e9⟩, hall⟩ := h.1
  have hm8 := W.mi8
  unfold fX5_load fX6_load
  rw [c_isMiddle hR, m0_isMiddle hM W, Option.bind_some]
  rcases rng mi (by omega) x with hy | ⟨hy, m, hm, rfl⟩
  · rw [hy, if_pos rfl, if_pos rfl]; exact ⟨_, rfl, rfl⟩
  · rw [hy, if_neg ne10, if_neg ne10, c_load hR W (by omega), m0_load hM W (by omega), load_eq W]
    exact ⟨_, rfl, rfl⟩
theorem q_freeForFirst (h : SIM K n (blk g 0)) (x : Int32) : ∃ r0, fX5_freeForFirst kx n x = some r0 ∧ fX6_freeForFirst g x = some r0 := by
  obtain ⟨bo, li, mi, sv, cn, cs, hcn, ⟨W, hR, hM, e4, e5, ep, e7, e8, e9⟩, hall⟩ := h.1
  have h8 := W.bo8
  unfold fX5_freeForFirst fX6_freeForFirst
  rw [c_isBoard hR, m_isBoard hM W, Option.bind_some]
  rcases rng bo (by omega) x with hy | ⟨hy, b, hb, rfl⟩
  · rw [hy, if_pos rfl, if_pos rfl]; exact ⟨_, rfl, rfl⟩
  · rw [hy, if_neg ne10, if_neg ne10, c_frF hR W (by omega), m0_ahead hM W (by omega)]
    exact ⟨_, rfl, rfl⟩
theorem q_freeForLast (h : SIM K n (blk g 0)) (x : Int32) : ∃ r0, fX5_freeForLast kx n x = some r0 ∧ fX6_freeForLast g x = some r0 := by
  obtain ⟨bo, li, mi, sv, cn, cs, hcn, ⟨W, hR, hM, e4, e5, ep, e7, e8, e9⟩, hall⟩ := h.1
  have h8 := W.bo8
  unfold fX5_freeForLast fX6_freeForLast
  rw [c_isBoard hR, m_isBoard hM W, Option.bind_some]
  rcases rng bo (by omega) x with hy | ⟨hy, b, hb, rfl⟩
  · rw [hy, if_pos rfl, if_pos rfl]; exact ⟨_, rfl, rfl⟩
  · rw [hy, if_neg ne10, if_neg ne10, c_frL hR W (by omega), m0_behind hM W (by omega)]
    exact ⟨_, rfl, rfl⟩
theorem q_inService (h : SIM K n (blk g 0)) : fX6_inService g = some (fX5_inService kx n) := by
  obtain ⟨bo, li, mi, sv, cn, cs, hcn, ⟨W, hR, hM, e4, e5, ep, e7, e8, e9⟩, hall⟩ := h.1
  have hf : ((g.2 0) (9 : Int32).toNatClampNeg) = nI sv := hM.b9
  unfold fX6_inService fX5_inService
  rw [if_pos (by decide), hf, hR.f3]
theorem q_leastMiddles (h : SIM K n (blk g 0)) : ∃ r0, fX5_leastMiddles kx n = some r0 ∧ fX6_leastMiddles g = some r0 := by
  obtain ⟨bo, li, mi, sv, cn, cs, hcn, ⟨W, hR, hM, e4, e5, ep, e7, e8, e9⟩, hall⟩ := h.1
  unfold fX5_leastMiddles fX6_leastMiddles
  rw [c_least hR W, m0_least hM W]
  exact ⟨_, rfl, rfl⟩
theorem q_total {hi : HS} {x : OS} (h : SIM K n (blk g 0)) (hc : hi.1 2 = g.1 1) (hx : x.1 1 = g.1 4) (x1 : Int32) : ∃ r0, fX5_total kx hi x n x1 = some r0 ∧ fX6_total g x1 = some r0 := by
  obtain ⟨bo, li, mi, sv, cn, cs, hcn, ⟨W, hR, hM, e4, e5, ep, e7, e8, e9⟩, hall⟩ := h.1
  unfold fX5_total fX6_total
  by_cases h0 : x1 = (0 : Int32)
  · subst h0; exact ⟨_, if_pos rfl, by rw [if_pos rfl, if_pos (by decide), show (0 : Int32).toNatClampNeg = 0 by decide, hR.f0]; exact congrArg some hM.b0⟩
  rw [if_neg h0, if_neg h0]
  by_cases h1 : x1 = (1 : Int32)
  · subst h1; exact ⟨_, if_pos rfl, by rw [if_pos rfl, if_pos (by decide), show (1 : Int32).toNatClampNeg = 1 by decide, hR.f1]; exact congrArg some hM.b1⟩
  rw [if_neg h1, if_neg h1]
  by_cases h2 : x1 = (2 : Int32)
  · subst h2; exact ⟨_, if_pos rfl, by rw [if_pos rfl, if_pos (by decide), show (2 : Int32).toNatClampNeg = 2 by decide, hR.f2]; exact congrArg some hM.b2⟩
  rw [if_neg h2, if_neg h2]
  by_cases h3 : x1 = (3 : Int32)
  · subst h3; exact ⟨_, if_pos rfl, by rw [if_pos rfl, if_pos (by decide), show (3 : Int32).toNatClampNeg = 3 by decide]; exact congrArg some e4.symm⟩
  rw [if_neg h3, if_neg h3]
  by_cases h4 : x1 = (4 : Int32)
  · subst h4; exact ⟨_, if_pos rfl, by rw [if_pos rfl, if_pos (by decide), show (4 : Int32).toNatClampNeg = 4 by decide]; exact congrArg some e5.symm⟩
  rw [if_neg h4, if_neg h4]
  by_cases h5 : x1 = (5 : Int32)
  · rw [if_pos h5, if_pos h5, c_count hR W, m0_calls hM W]
    exact ⟨_, rfl, rfl⟩
  rw [if_neg h5, if_neg h5]
  by_cases h6 : x1 = (6 : Int32)
  · subst h6; exact ⟨_, if_pos rfl, by rw [if_pos rfl, if_pos (by decide), show ((6 : Int32) - (1 : Int32)).toNatClampNeg = 5 by decide, hR.f6]; exact congrArg some hM.b5⟩
  rw [if_neg h6, if_neg h6]
  by_cases h7 : x1 = (7 : Int32)
  · subst h7; exact ⟨_, if_pos rfl, by rw [if_pos rfl, if_pos (by decide), show ((7 : Int32) - (1 : Int32)).toNatClampNeg = 6 by decide]; exact congrArg some e7.symm⟩
  rw [if_neg h7, if_neg h7]
  by_cases h8 : x1 = (8 : Int32)
  · subst h8; exact ⟨_, if_pos rfl, by rw [if_pos rfl, if_pos (by decide), show ((8 : Int32) - (1 : Int32)).toNatClampNeg = 7 by decide]; exact congrArg some e8.symm⟩
  rw [if_neg h8, if_neg h8]
  by_cases h9 : x1 = (9 : Int32)
  · subst h9; exact ⟨_, if_pos rfl, by rw [if_pos rfl, if_pos (by decide), show ((9 : Int32) - (1 : Int32)).toNatClampNeg = 8 by decide]; exact congrArg some e9.symm⟩
  rw [if_neg h9, if_neg h9]
  by_cases h10 : x1 = (10 : Int32)
  · rw [if_pos h10, if_pos h10, hc]; exact ⟨_, rfl, rfl⟩
  rw [if_neg h10, if_neg h10]
  by_cases h11 : x1 = (11 : Int32)
  · rw [if_pos h11, if_pos h11, hx]; exact ⟨_, rfl, rfl⟩
  rw [if_neg h11, if_neg h11]
  exact ⟨_, rfl, rfl⟩
theorem q_reason (h : SIM K n (blk g 0)) (x1 x2 : Int32) : ∃ r0, fX5_reason kx n x1 x2 = some r0 ∧ fX6_reason g x1 x2 = some r0 := by
  obtain ⟨bo, li, mi, sv, cn, cs, hcn, ⟨W, hR, hM, e4, e5, ep, e7, e8, e9⟩, hall⟩ := h.1
  have h48 := W.n48
  have h8 := W.bo8
  have hl1 := W.li1
  have hl6 := W.li6
  unfold fX5_reason fX6_reason
  rw [c_isLine hR, m0_isLine hM W, Option.bind_some]
  rcases rng (bo * li) (by omega) x1 with hx | ⟨hx, i, hi, rfl⟩
  · rw [hx, if_pos rfl, if_pos rfl]; exact ⟨_, rfl, rfl⟩
  · rw [hx, if_neg ne10, if_neg ne10, c_isLine hR, m0_isLine hM W, Option.bind_some]
    rcases rng (bo * li) (by omega) x2 with hy | ⟨hy, o, ho, rfl⟩
    · rw [hy, if_pos rfl, if_pos rfl]; exact ⟨_, rfl, rfl⟩
    · rw [hy, if_neg ne10, if_neg ne10, c_busy hR W (by omega), m0_of0 (by omega), Option.bind_some]
      by_cases hb : busy cs i = true
      · rw [if_pos hb, if_neg ne10, if_neg (by rw [m_numeq hM W (by omega)]; simp [hb])]; exact ⟨_, rfl, rfl⟩
      · have hb : busy cs i = false := by simpa using hb
        rw [hb, if_neg (by decide : ¬ false = true), if_pos rfl, if_pos ((m_numeq hM W (by omega)).mpr hb), c_obusy hR (by omega), m0_inletTo hM W (by omega), Option.bind_some]
        cases hio : inlOf cs o with
        | some u =>
          rw [if_pos (by rfl : (some u).isSome = true), if_neg ne10, eN_some, if_neg (nI_ne_of_neg (inl48 hio) (by decide))]; exact ⟨_, rfl, rfl⟩
        | none =>
          have d1 := div_lt hi
          have d2 := div_lt ho
          rw [if_neg (by decide : ¬ (none : Option Nat).isSome = true), if_pos rfl, eN_none, if_pos rfl, if_pos in0_1, m0_li hM, if_pos (nI_ne0 (by omega) (by omega)), pk_div (by omega) (by omega) (by omega), m0_ahead hM W (by omega), Option.bind_some, if_pos in0_1, if_pos (nI_ne0 (by omega) (by omega)), pk_div (by omega) (by omega) (by omega), m0_behind hM W (by omega), Option.bind_some, c_board hR W (by omega), c_board hR W (by omega), c_frF hR W (by omega), Option.bind_some, c_frL hR W (by omega), Option.bind_some]
          by_cases z1 : nI (frF li mi sv cs (i / li)) = (0 : Int32)
          · rw [if_pos z1]; exact ⟨_, rfl, rfl⟩
          · rw [if_neg z1]
            by_cases z2 : nI (frL li mi sv cs (o / li)) = (0 : Int32)
            · rw [if_pos z2]; exact ⟨_, rfl, rfl⟩
            · rw [if_neg z2]
              by_cases z3 : nI (frF li mi sv cs (i / li)) &&& nI (frL li mi sv cs (o / li)) = (0 : Int32)
              · rw [if_pos z3]; exact ⟨_, rfl, rfl⟩
              · rw [if_neg z3]; exact ⟨_, rfl, rfl⟩
/-- an outlet that could be reached -/
def rch (li mi sv : Nat) (cs : CS) (F o : Nat) : Bool := (inlOf cs o).isNone && !(F &&& frL li mi sv cs (o / li) == 0)
theorem q_reachable (h : SIM K n (blk g 0)) (x1 : Int32) : ∃ r0, fX5_reachable kx n x1 = some r0 ∧ fX6_reachable g x1 = some r0 := by
  obtain ⟨bo, li, mi, sv, cn, cs, hcn, ⟨W, hR, hM, e4, e5, ep, e7, e8, e9⟩, hall⟩ := h.1
  have h48 := W.n48
  have h8 := W.bo8
  have hl1 := W.li1
  have hl6 := W.li6
  unfold fX5_reachable fX6_reachable
  rw [c_isLine hR, m0_isLine hM W, Option.bind_some]
  rcases rng (bo * li) (by omega) x1 with hx | ⟨hx, i, hi, rfl⟩
  · rw [hx, if_pos rfl, if_pos rfl]; exact ⟨_, rfl, rfl⟩
  · rw [hx, if_neg ne10, if_neg ne10, c_busy hR W (by omega), m0_of0 (by omega), Option.bind_some]
    by_cases hb : busy cs i = true
    · rw [if_pos hb, if_neg ne10, if_neg (by rw [m_numeq hM W (by omega)]; simp [hb])]; exact ⟨_, rfl, rfl⟩
    · have hb : busy cs i = false := by simpa using hb
      have d1 := div_lt hi
      rw [hb, if_neg (by decide : ¬ false = true), if_pos rfl, if_pos ((m_numeq hM W (by omega)).mpr hb), if_pos in0_1, m0_li hM, if_pos (nI_ne0 (by omega) (by omega)), pk_div (by omega) (by omega) (by omega), m0_ahead hM W (by omega), Option.bind_some, c_board hR W (by omega), c_frF hR W (by omega), Option.bind_some]
      obtain ⟨F, hF⟩ : ∃ F, F = frF li mi sv cs (i / li) := ⟨_, rfl⟩
      have hF256 : F < 256 := by rw [hF]; exact frF256 W
      rw [← hF]
      have zF : ∀ t, (nI F &&& nI (frL li mi sv cs t) = (0 : Int32)) ↔ F &&& frL li mi sv cs t = 0 := fun t => nI_and0 hF256
      refine ⟨nI (cnt (rch li mi sv cs F) (bo * li)), ?_, ?_⟩
      · have ee : cnt (rch li mi sv cs F) (bo * li) = cnt (fun o => decide (o < bo * li) && rch li mi sv cs F o) 48 := by
          rw [cnt_ext h48 (fun i a _ => by
            have : ¬ i < bo * li := by omega
            simp [this])]
          exact cnt_congr (fun i hi => by simp [hi])
        rw [ee]
        have h := iloop (fun k i (a : Int32) => fX5_reachable_55 kx n (nI F) k a i) 48 (fun i a => a = nI (cnt (fun o => decide (o < bo * li) && rch li mi sv cs F o) i)) (nI (cnt (fun o => decide (o < bo * li) && rch li mi sv cs F o) 48)) ?_ ?_ FU 0 (0 : Int32) (by omega) (FU_big (by omega)) rfl
        · exact h
        · intro k o s ho hI
          subst hI
          refine Or.inl ⟨_, rfl, ?_⟩
          show fX5_reachable_55 kx n (nI F) (k + 1) _ _ = fX5_reachable_55 kx n (nI F) k _ _
          have hc : cnt (fun o => decide (o < bo * li) && rch li mi sv cs F o) (o + 1) = cnt (fun o => decide (o < bo * li) && rch li mi sv cs F o) o + (if (decide (o < bo * li) && rch li mi sv cs F o) = true then 1 else 0) := rfl
          rw [fX5_reachable_55_s, if_neg (ge48 ho), c_isLine hR, if_neg (nI_pos (by omega)), nI_succ1 o, hc]
          by_cases hol : o < bo * li
          · rw [if_neg (nI_ge hol (by omega)), if_neg ne10, c_obusy hR (by omega)]
            cases hio : inlOf cs o with
            | some u =>
              have hz : ¬ (decide (o < bo * li) && rch li mi sv cs F o) = true := by unfold rch; rw [hio]; simp
              rw [if_pos (by rfl : (some u).isSome = true), if_neg ne10, if_neg hz]; rfl
            | none =>
              have d2 := div_lt hol
              rw [if_neg (by decide : ¬ (none : Option Nat).isSome = true), if_pos rfl, c_board hR W (by omega), c_frL hR W (by omega), Option.bind_some]
              by_cases hz : F &&& frL li mi sv cs (o / li) = 0
              · have hz2 : ¬ (decide (o < bo * li) && rch li mi sv cs F o) = true := by unfold rch; rw [hz]; simp
                rw [if_pos ((zF _).mpr hz), nI_add0, if_neg hz2]; rfl
              · have hz2 : (decide (o < bo * li) && rch li mi sv cs F o) = true := by unfold rch; rw [hio]; simp [hol, hz]
                rw [if_neg (fun e => hz ((zF _).mp e)), nI_succ1, if_pos hz2]
          · have hz : ¬ (decide (o < bo * li) && rch li mi sv cs F o) = true := by simp [hol]
            rw [if_pos (nI_le (by omega) (by omega)), if_pos rfl, if_neg hz]; rfl
        · intro k s hI
          subst hI
          show fX5_reachable_55 kx n (nI F) (k + 1) _ _ = _
          rw [fX5_reachable_55_s, if_pos (by decide)]
      · have h := iloop (fun k i (a : Int32) => fX6_reachable_44 g (nI F) k a i) (bo * li) (fun i a => a = nI (cnt (rch li mi sv cs F) i)) (nI (cnt (rch li mi sv cs F) (bo * li))) ?_ ?_ FU 0 (0 : Int32) (by omega) (FU_big (by omega)) rfl
        · exact h
        · intro k o s hol hI
          subst hI
          refine Or.inl ⟨_, rfl, ?_⟩
          show fX6_reachable_44 g (nI F) (k + 1) _ _ = fX6_reachable_44 g (nI F) k _ _
          have hc : cnt (rch li mi sv cs F) (o + 1) = cnt (rch li mi sv cs F) o + (if rch li mi sv cs F o = true then 1 else 0) := rfl
          have d2 := div_lt hol
          rw [fX6_reachable_44_s, m0_lines hM, Option.bind_some, if_neg (nI_ge hol (by omega)), m0_inletTo hM W (by omega), Option.bind_some, nI_succ1 o, hc]
          cases hio : inlOf cs o with
          | some u =>
            have hz : ¬ rch li mi sv cs F o = true := by unfold rch; rw [hio]; simp
            rw [eN_some, if_neg (nI_ne_of_neg (inl48 hio) (by decide)), Option.bind_some, if_pos rfl, nI_add0, if_neg hz]; rfl
          | none =>
            rw [eN_none, if_pos rfl, if_pos in0_1, m0_li hM, if_pos (nI_ne0 (by omega) (by omega)), pk_div (by omega) (by omega) (by omega), m0_behind hM W (by omega), Option.bind_some]
            by_cases hz : F &&& frL li mi sv cs (o / li) = 0
            · have hz2 : ¬ rch li mi sv cs F o = true := by unfold rch; rw [hz]; simp
              rw [if_pos ((zF _).mpr hz), Option.bind_some, if_pos rfl, nI_add0, if_neg hz2]; rfl
            · have hz2 : rch li mi sv cs F o = true := by unfold rch; rw [hio]; simp [hz]
              rw [if_neg (fun e => hz ((zF _).mp e)), Option.bind_some, if_neg ne10, nI_succ1, if_pos hz2]
        · intro k s hI
          subst hI
          show fX6_reachable_44 g (nI F) (k + 1) _ _ = _
          rw [fX6_reachable_44_s, m0_lines hM, Option.bind_some, if_pos (nI_le (Nat.le_refl _) (by omega))]
end QS
