/-! a way for a call: both sides look alike -/
section RO
variable {bo li mi sv cn : Nat} {cs : CS} {x o : Nat}
theorem nI_and0 {a b : Nat} (ha : a < 256) : (nI a &&& nI b = (0 : Int32)) ↔ a &&& b = 0 := by
  rw [fa_and]
  have : a &&& b ≤ a := Nat.and_le_left
  exact nI0 (by omega)
def ldc (cs : CS) : Nat → Nat := fun m => cnt (fun i => via cs i == some m) 48
theorem c_way_b {n r : OS} (hR : RC bo li mi sv cn cs n) (W : WF bo li mi sv cn cs) (hx : x < bo * li) (ho : o < bo * li) (h : frF li mi sv cs (x / li) = 0 ∨ frL li mi sv cs (o / li) = 0) : fX3_findWay r n (nI x) (nI o) = some ((-4 : Int32), setF r 1 (0 : Int32)) := by
  have h48 := W.n48
  have hb8 := W.bo8
  have h1 := div_lt hx
  have h2 := div_lt ho
  have f1 := frF256 W (b := x / li)
  have f2 := frL256 W (b := o / li)
  unfold fX3_findWay
  rw [c_board hR W (by omega), c_board hR W (by omega), c_frF hR W (by omega), Option.bind_some, c_frL hR W (by omega), Option.bind_some]
  by_cases h0 : frF li mi sv cs (x / li) = 0
  · rw [if_pos ((nI_and0 f1).mpr (by rw [h0, Nat.zero_and])), if_pos ((nI0 (by omega)).mpr h0)]
  · have hl := h.resolve_left h0
    rw [if_pos ((nI_and0 f1).mpr (by rw [hl, Nat.and_zero])), if_neg (fun e => h0 ((nI0 (by omega)).mp e)), if_pos ((nI0 (by omega)).mpr hl)]
theorem c_way_d {n r : OS} (hR : RC bo li mi sv cn cs n) (W : WF bo li mi sv cn cs) (hx : x < bo * li) (ho : o < bo * li) (h : frF li mi sv cs (x / li) &&& frL li mi sv cs (o / li) ≠ 0) : fX3_findWay r n (nI x) (nI o) = some (eN (chs (n.1 4) (ldc cs) (frF li mi sv cs (x / li) &&& frL li mi sv cs (o / li)) 8) (-6), setF r 1 (0 : Int32)) := by
  have h48 := W.n48
  have hb8 := W.bo8
  have h1 := div_lt hx
  have h2 := div_lt ho
  have f1 := frF256 W (b := x / li)
  have f2 := frL256 W (b := o / li)
  have f3 : frF li mi sv cs (x / li) &&& frL li mi sv cs (o / li) ≤ frF li mi sv cs (x / li) := Nat.and_le_left
  unfold fX3_findWay
  rw [c_board hR W (by omega), c_board hR W (by omega), c_frF hR W (by omega), Option.bind_some, c_frL hR W (by omega), Option.bind_some, if_neg (fun e => h ((nI_and0 f1).mp e)), fa_and, c_choose hR W _ (by omega), Option.bind_some]
  rfl
theorem frL_none {m t : Nat} (h : (frL li mi sv cs t).testBit m = true) : lkL li cs m t = none := (frL_bit.mp h).2.2
theorem frF_none {m b : Nat} (h : (frF li mi sv cs b).testBit m = true) : lkF li cs b m = none := (frF_bit.mp h).2.2
theorem c_way_c {n r : OS} (hR : RC bo li mi sv cn cs n) (W : WF bo li mi sv cn cs) (hx : x < bo * li) (ho : o < bo * li) (h10 : frF li mi sv cs (x / li) ≠ 0) (h20 : frL li mi sv cs (o / li) ≠ 0) (h12 : frF li mi sv cs (x / li) &&& frL li mi sv cs (o / li) = 0) :
    ∃ r' b, bpr (n.1 5) (lenOf li cs (o / li)) (frF li mi sv cs (x / li)) (frL li mi sv cs (o / li)) 64 = some b ∧ fX3_findWay r n (nI x) (nI o) = some (nI (b / 8), r') ∧ r'.1 1 = nI (lenOf li cs (o / li) b) ∧ r'.1 2 = nI (b / 8) ∧ r'.1 3 = nI (b % 8) ∧ r'.2 1 = r.2 1 ∧ HC (r'.2 0) li cs (b / 8) (b % 8) (o / li) (lenOf li cs (o / li) b) := by
  have h48 := W.n48
  have hb8 := W.bo8
  have h1 := div_lt hx
  have h2 := div_lt ho
  have f1 := frF256 W (b := x / li)
  have f2 := frL256 W (b := o / li)
  obtain ⟨r', b, e0, e1, e2, e3, e4, e5, e6⟩ := c_findPair hR W (setF r 1 (0 : Int32)) f1 f2 h12 h10 h20 (by omega : o / li < 8) (fun m hm => frL_none hm)
  refine ⟨r', b, e0, ?_, e2, e3, e4, e5, e6⟩
  unfold fX3_findWay
  rw [c_board hR W (by omega), c_board hR W (by omega), c_frF hR W (by omega), Option.bind_some, c_frL hR W (by omega), Option.bind_some, if_pos ((nI_and0 f1).mpr h12), if_neg (fun e => h10 ((nI0 (by omega)).mp e)), if_neg (fun e => h20 ((nI0 (by omega)).mp e)), e1, Option.bind_some, e3]
/-- what the model's routes begins with -/
theorem m_route_b {g : OS} {bb : Nat} (hM : RM bo li mi sv cn cs (blk g bb)) (W : WF bo li mi sv cn cs) (hbb : bb ≤ 924) (hox : outl cs x = some o) (h : frF li mi sv cs (x / li) = 0 ∨ frL li mi sv cs (o / li) = 0) : fX6_routes g (nI bb) (nI x) = some ((-4 : Int32), setF g 10 (0 : Int32)) := by
  have hx48 := W.lt48 (busy_of_out hox)
  have ho48 := W.out48 hox
  have h1 := W.li1
  have h6 := W.li6
  have f1 := frF256 W (b := x / li)
  have f2 := frL256 W (b := o / li)
  have hd1 := Nat.div_le_self x li
  have hd2 := Nat.div_le_self o li
  have hl : ((g.2 0) (nI bb + (1 : Int32)).toNatClampNeg) = nI li := (m_fld (j := 1) hbb (by decide)).trans hM.b1
  unfold fX6_routes
  rw [m_of1 hbb hx48, Option.bind_some, hM.ou hx48 hox, if_pos (in_1 hbb), hl, if_pos (nI_ne0 (by omega) (by omega)), if_pos (in_1 hbb), if_pos (nI_ne0 (by omega) (by omega)), pk_div (by omega) (by omega) (by omega), pk_div (by omega) (by omega) (by omega), m_freeAhead hM W hbb (by omega), Option.bind_some, m_freeBehind hM W hbb (by omega), Option.bind_some]
  by_cases h0 : frF li mi sv cs (x / li) = 0
  · rw [if_pos ((nI0 (by omega)).mpr h0)]
  · have hl := h.resolve_left h0
    rw [if_neg (fun e => h0 ((nI0 (by omega)).mp e)), if_pos ((nI0 (by omega)).mpr hl)]
theorem m_route_d {g : OS} {bb : Nat} (hM : RM bo li mi sv cn cs (blk g bb)) (W : WF bo li mi sv cn cs) (hbb : bb ≤ 924) (hox : outl cs x = some o) (h : frF li mi sv cs (x / li) &&& frL li mi sv cs (o / li) ≠ 0) :
    ∃ m, chs (blk g bb 3) (ldc cs) (frF li mi sv cs (x / li) &&& frL li mi sv cs (o / li)) 8 = some m ∧ fX6_routes g (nI bb) (nI x) = some (nI m, putS (setF g 10 (0 : Int32)) (bb + (10 + 3 * x + 2)) (nI m)) := by
  have hx48 := W.lt48 (busy_of_out hox)
  have ho48 := W.out48 hox
  have h1 := W.li1
  have h6 := W.li6
  have f1 := frF256 W (b := x / li)
  have f2 := frL256 W (b := o / li)
  have hd1 := Nat.div_le_self x li
  have hd2 := Nat.div_le_self o li
  have hl : ((g.2 0) (nI bb + (1 : Int32)).toNatClampNeg) = nI li := (m_fld (j := 1) hbb (by decide)).trans hM.b1
  obtain ⟨w, hw⟩ : ∃ w, w = frF li mi sv cs (x / li) &&& frL li mi sv cs (o / li) := ⟨_, rfl⟩
  have hwl : w ≤ frF li mi sv cs (x / li) := by rw [hw]; exact Nat.and_le_left
  have hwm : w < 2 ^ mi := Nat.lt_of_le_of_lt hwl (bitsOf_lt _ _)
  have hF0 : frF li mi sv cs (x / li) ≠ 0 := fun e => h (by rw [e, Nat.zero_and])
  have hL0 : frL li mi sv cs (o / li) ≠ 0 := fun e => h (by rw [e, Nat.and_zero])
  have hM' : RM bo li mi sv cn cs (blk (setF g 10 (0 : Int32)) bb) := hM
  have hch := m_choice hM' W hbb hwm (by rw [hw]; exact h)
  have hcs : ∃ m, chs (blk g bb 3) (ldc cs) w 8 = some m := by
    cases hc : chs (blk g bb 3) (ldc cs) w 8 with
    | some m => exact ⟨m, rfl⟩
    | none =>
      exfalso
      obtain ⟨m, g1, g2, -⟩ := bit_low (v := w) (by omega) (by rw [hw]; exact h)
      rw [chs_none.mp hc m g1] at g2; cases g2
  obtain ⟨m, hm⟩ := hcs
  refine ⟨m, by rw [← hw]; exact hm, ?_⟩
  have hch : fX6_chosen (setF g 10 (0 : Int32)) (nI bb) (nI w) = some (eN (chs (blk g bb 3) (ldc cs) w 8) (-6)) := hch
  rw [hm, eN_some] at hch
  unfold fX6_routes
  rw [m_of1 hbb hx48, Option.bind_some, hM.ou hx48 hox, if_pos (in_1 hbb), hl, if_pos (nI_ne0 (by omega) (by omega)), if_pos (in_1 hbb), if_pos (nI_ne0 (by omega) (by omega)), pk_div (by omega) (by omega) (by omega), pk_div (by omega) (by omega) (by omega), m_freeAhead hM W hbb (by omega), Option.bind_some, m_freeBehind hM W hbb (by omega), Option.bind_some, if_neg (fun e => hF0 ((nI0 (by omega)).mp e)), if_neg (fun e => hL0 ((nI0 (by omega)).mp e)), if_neg (fun e => h ((nI_and0 f1).mp e)), fa_and, ← hw, hch, Option.bind_some, m_lay2 hbb hx48, Option.bind_some, m_of2 hbb hx48, Option.bind_some, blk_put, upd_s]
theorem m_route_c {g : OS} {bb : Nat} (hM : RM bo li mi sv cn cs (blk g bb)) (W : WF bo li mi sv cn cs) (hbb : bb ≤ 924) (hx : via cs x = none) (hox : outl cs x = some o) (h10 : frF li mi sv cs (x / li) ≠ 0) (h20 : frL li mi sv cs (o / li) ≠ 0) (h12 : frF li mi sv cs (x / li) &&& frL li mi sv cs (o / li) = 0) (hpr : blk g bb 4 = (0 : Int32) ∨ blk g bb 4 = (1 : Int32)) :
    ∃ b g', bpr (blk g bb 4) (lenOf li cs (o / li)) (frF li mi sv cs (x / li)) (frL li mi sv cs (o / li)) 64 = some b ∧ fX6_routes g (nI bb) (nI x) = some (nI (b / 8), g') ∧ RM bo li mi sv cn (setV (flip li cs (b / 8) (b % 8) (o / li)) x (some (b / 8))) (blk g' bb) ∧ FRM bb g g' ∧ g'.1 10 = nI (lenOf li cs (o / li) b) ∧ HC (g'.2 2) li cs (b / 8) (b % 8) (o / li) (lenOf li cs (o / li) b) ∧ SMB (blk g bb) (blk g' bb) ∧ blk g' bb 8 = blk g bb 8 + nI (lenOf li cs (o / li) b) := by
  have hx48 := W.lt48 (busy_of_out hox)
  have ho48 := W.out48 hox
  have hb8 := W.bo8
  have h1 := W.li1
  have h6 := W.li6
  have f1 := frF256 W (b := x / li)
  have f2 := frL256 W (b := o / li)
  have hd1 := Nat.div_le_self x li
  have hd2 := Nat.div_le_self o li
  have ht : o / li < 8 := by have := div_lt (W.outlt hox); omega
  have hl : ((g.2 0) (nI bb + (1 : Int32)).toNatClampNeg) = nI li := (m_fld (j := 1) hbb (by decide)).trans hM.b1
  have hM' : RM bo li mi sv cn cs (blk (setF g 10 (0 : Int32)) bb) := hM
  obtain ⟨w, b, e0, e1⟩ := m_pairOf hM' W hbb f1 f2 h12 h10 h20 ht (fun m hm => frL_none hm) hpr
  obtain ⟨hb64, hbg⟩ := bpr_some e0
  obtain ⟨g1, g2⟩ := good2_bits hbg
  have hpq : b / 8 ≠ b % 8 := fun e => and0 h12 g1 (e ▸ g2)
  have hM2 : RM bo li mi sv cn cs (blk (setR (setF g 10 (0 : Int32)) 2 w) bb) := hM
  obtain ⟨w', e2, hH⟩ := m_lays (p := b / 8) (q := b % 8) (t := o / li) hM2 W hbb (by omega) (by omega) ht hpq (frL_none g2)
  obtain ⟨k, hk⟩ : ∃ k, k = setF (setR (setR (setF g 10 (0 : Int32)) 2 w) 2 w') 10 (nI (clen li cs (b / 8) (b % 8) (o / li))) := ⟨_, rfl⟩
  have hM3 : RM bo li mi sv cn cs (blk k bb) := by rw [hk]; exact hM
  have k10 : k.1 10 = nI (clen li cs (b / 8) (b % 8) (o / li)) := by rw [hk]; rfl
  have kc : k.2 2 = w' := by rw [hk]; rfl
  obtain ⟨g', e3, e4, e5, e6, e7, e8, e9⟩ := m_move (x := x) hM3 W hbb hpq (frL_none g2) hx (busy_of_out hox) hb64 rfl rfl k10 (by rw [kc]; exact hH)
  refine ⟨b, g', e0, ?_, e4, ?_, by rw [e6, k10]; rfl, by rw [e7, kc]; exact hH, ?_, ?_⟩
  · unfold fX6_routes
    rw [m_of1 hbb hx48, Option.bind_some, hM.ou hx48 hox, if_pos (in_1 hbb), hl, if_pos (nI_ne0 (by omega) (by omega)), if_pos (in_1 hbb), if_pos (nI_ne0 (by omega) (by omega)), pk_div (by omega) (by omega) (by omega), pk_div (by omega) (by omega) (by omega), m_freeAhead hM W hbb (by omega), Option.bind_some, m_freeBehind hM W hbb (by omega), Option.bind_some, if_neg (fun e => h10 ((nI0 (by omega)).mp e)), if_neg (fun e => h20 ((nI0 (by omega)).mp e)), if_pos ((nI_and0 f1).mpr h12), e1, Option.bind_some]
    show Option.bind (fX6_lays (setR (setF g 10 (0 : Int32)) 2 w) (nI bb) (nI b / (8 : Int32)) (nI b - nI b / (8 : Int32) * (8 : Int32)) (nI (o / li))) (fun v12 => fX6_routes_132 (nI bb) (nI x) (nI b) (nI b / (8 : Int32)) FU (0 : Int32) (setF v12.2 10 v12.1)) = _
    rw [rem8 (by omega), div8 (by omega), e2, Option.bind_some]
    show fX6_routes_132 (nI bb) (nI x) (nI b) (nI (b / 8)) FU (0 : Int32) (setF (setR (setR (setF g 10 (0 : Int32)) 2 w) 2 w') 10 (nI (clen li cs (b / 8) (b % 8) (o / li)))) = _
    rw [← hk]; exact e3
  · refine FRM.trans ?_ e5
    rw [hk]
    exact ((FRM.ten.trans FRM.chain).trans FRM.chain).trans FRM.ten
  · refine SMB.trans ?_ e8
    rw [hk]; exact SMB.rfl
  · rw [e9, hk]; rfl
end RO
