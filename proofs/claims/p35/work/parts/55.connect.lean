/-! connect and disconnect -/
/-- the class's network and the model's block hold the same calls, rules and counters -/
def NB (bo li mi sv cn : Nat) (cs : CS) (n : OS) (B : Nat → Int32) : Prop :=
  WF bo li mi sv cn cs ∧ RC bo li mi sv cn cs n ∧ RM bo li mi sv cn cs B ∧ n.1 4 = B 3 ∧ n.1 5 = B 4 ∧ (B 4 = (0 : Int32) ∨ B 4 = (1 : Int32)) ∧ n.1 7 = B 6 ∧ n.1 8 = B 7 ∧ n.1 9 = B 8
/-- numbers are not used twice; what was connected is what is there, what ended and what was dropped -/
def INJ (cs : CS) : Prop := ∀ i j c, num cs i = some c → num cs j = some c → i = j
def EXT (cs : CS) (n : OS) : Prop := INJ cs ∧ n.1 6 = nI (cnt (busy cs) 48) + n.1 7 + n.1 8
/-- .. and every call is on links; at most K calls were connected -/
def SIM (K : Nat) (n : OS) (B : Nat → Int32) : Prop := (∃ bo li mi sv cn cs, (cn ≤ K ∧ EXT cs n) ∧ NB bo li mi sv cn cs n B ∧ ∀ i, busy cs i = true → via cs i ≠ none) ∧ (0 : Int32) ≤ n.1 4
theorem SIM.mono {K K' : Nat} {n : OS} {B : Nat → Int32} (h : SIM K n B) (hK : K ≤ K') : SIM K' n B := by
  obtain ⟨⟨bo, li, mi, sv, cn, cs, h1, h2⟩, h3⟩ := id h
  exact ⟨⟨bo, li, mi, sv, cn, cs, ⟨Nat.le_trans h1.1 hK, h1.2⟩, h2⟩, h3⟩
section CO
variable {bo li mi sv cn : Nat} {cs : CS} {bb : Nat}
theorem c_isLine {n : OS} (hR : RC bo li mi sv cn cs n) (x : Int32) : fX1_isLine n x = (if x < 0 then (0 : Int32) else if nI (bo * li) ≤ x then (0 : Int32) else (1 : Int32)) := by
  unfold fX1_isLine
  rw [hR.f0, hR.f1, pk_mul]
theorem c_isBoard {n : OS} (hR : RC bo li mi sv cn cs n) (x : Int32) : fX1_isBoard n x = (if x < 0 then (0 : Int32) else if nI bo ≤ x then (0 : Int32) else (1 : Int32)) := by
  unfold fX1_isBoard
  rw [hR.f0]
theorem c_isMiddle {n : OS} (hR : RC bo li mi sv cn cs n) (x : Int32) : fX1_isMiddle n x = (if x < 0 then (0 : Int32) else if nI mi ≤ x then (0 : Int32) else (1 : Int32)) := by
  unfold fX1_isMiddle
  rw [hR.f2]
/-- in range or not -/
theorem rng (N : Nat) (hN : N < 2 ^ 31) (x : Int32) : (if x < 0 then (0 : Int32) else if nI N ≤ x then (0 : Int32) else (1 : Int32)) = (0 : Int32) ∨ ((if x < 0 then (0 : Int32) else if nI N ≤ x then (0 : Int32) else (1 : Int32)) = (1 : Int32) ∧ ∃ j, j < N ∧ x = nI j) := by
  rcases pk_ix x hN with h | h | ⟨j, hj, rfl⟩
  · left; rw [if_pos h]
  · left
    by_cases h0 : x < 0
    · rw [if_pos h0]
    · rw [if_neg h0, if_pos h]
  · right
    rw [if_neg (nI_pos (by omega)), if_neg (nI_ge hj hN)]
    exact ⟨rfl, j, hj, rfl⟩
theorem ne10 : ¬ (1 : Int32) = (0 : Int32) := by decide
theorem cnt_dec1 {p q : Nat → Bool} {x : Nat} (hp : p x = true) (hq : q x = false) (h : ∀ j, j ≠ x → p j = q j) : ∀ {N : Nat}, x < N → cnt p N = cnt q N + 1
  | N + 1, hx => by
    show cnt p N + _ = cnt q N + _ + 1
    by_cases hxN : x = N
    · subst hxN
      rw [if_pos hp, if_neg (by rw [hq]; decide), cnt_congr (fun i hi => h i (by omega))]
    · rw [cnt_dec1 hp hq h (by omega : x < N), h N (fun e => hxN e.symm)]
      omega
theorem ar1 (a b c : Int32) : a + b + c + (1 : Int32) = a + (1 : Int32) + b + c := by ac_rfl
theorem ar2 (a b c : Int32) : a + (1 : Int32) + b + c = a + (b + (1 : Int32)) + c := by ac_rfl
theorem ar3 (a d b c : Int32) : a + (1 : Int32) + d + b + c = a + (d + (1 : Int32)) + b + c := by ac_rfl
theorem ar4 (a d b c : Int32) : a + d + b + c = a + b + (c + d) := by ac_rfl
theorem ext_add {bo li mi sv cn i o : Nat} {cs cs' : CS} {n n' : OS} (h : EXT cs n) (W : WF bo li mi sv cn cs) (hi : i < bo * li) (hi48 : i < 48) (hb : busy cs i = false) (hn : ∀ j, num cs' j = num (addC cs i cn o) j) (e6 : n.1 6 = nI cn) (e6' : n'.1 6 = nI (cn + 1)) (e7 : n'.1 7 = n.1 7) (e8 : n'.1 8 = n.1 8) : EXT cs' n' := by
  refine ⟨fun a b c ha hb => ?_, ?_⟩
  · rw [hn, num_addC] at ha hb
    by_cases hai : a = i
    · rw [if_pos hai] at ha
      cases ha
      by_cases hbi : b = i
      · rw [hai, hbi]
      · rw [if_neg hbi] at hb
        have := W.numlt hb
        omega
    · rw [if_neg hai] at ha
      by_cases hbi : b = i
      · rw [if_pos hbi] at hb
        cases hb
        have := W.numlt ha
        omega
      · rw [if_neg hbi] at hb
        exact h.1 a b c ha hb
  · have hc : cnt (busy cs') 48 = cnt (busy cs) 48 + 1 := by
      refine cnt_dec1 (x := i) ?_ hb (fun j hj => ?_) hi48
      · rw [busy_iff_num, hn, num_addC, if_pos rfl]; rfl
      · rw [busy_iff_num, busy_iff_num, hn, num_addC, if_neg hj]
    rw [e6', hc, e7, e8, ← nI_succ1, ← nI_succ1, ← e6, h.2]
    exact ar1 _ _ _
theorem del_inj {cs : CS} {i : Nat} (h : INJ cs) : INJ (delC cs i) := by
  intro a b c ha hb
  have ha' : num cs a = some c := by
    rw [num_delC] at ha
    by_cases e : a = i
    · rw [if_pos e] at ha; cases ha
    · rw [if_neg e] at ha; exact ha
  have hb' : num cs b = some c := by
    rw [num_delC] at hb
    by_cases e : b = i
    · rw [if_pos e] at hb; cases hb
    · rw [if_neg e] at hb; exact hb
  exact h a b c ha' hb'
theorem del_cnt {cs : CS} {i : Nat} (hi : i < 48) (hb : busy cs i = true) : cnt (busy cs) 48 = cnt (busy (delC cs i)) 48 + 1 :=
  cnt_dec1 (x := i) hb (by rw [busy_delC, if_pos rfl]) (fun j hj => by rw [busy_delC, if_neg hj]) hi
theorem ext_del {i : Nat} {cs : CS} {n n' : OS} (h : EXT cs n) (hi : i < 48) (hb : busy cs i = true) (e6 : n'.1 6 = n.1 6) (e7 : n'.1 7 = n.1 7 + (1 : Int32)) (e8 : n'.1 8 = n.1 8) : EXT (delC cs i) n' := by
  refine ⟨del_inj h.1, ?_⟩
  rw [e6, e7, e8, h.2, del_cnt hi hb, ← nI_succ1]
  exact ar2 _ _ _
theorem connect_try {K : Nat} {n g r : OS} (h : SIM K n (blk g bb)) (hbb : bb ≤ 924) (hK : K + 1 < 2 ^ 30) (x1 x2 : Int32) :
    ∃ (a : Int32) (r' g' : OS), fX3_tryCall r n x1 x2 = some (a, r') ∧ fX6_connects g (nI bb) x1 x2 = some (a, g') ∧ FRM bb g g' ∧
      ((a = (-1 : Int32) ∨ a = (-3 : Int32) ∨ a = (-4 : Int32)) ∨
       ∃ (m c : Nat) (n' : OS), a = nI m ∧ m < 8 ∧ fX3_settle r' (fX1_addCall n x1 x2) x1 a = some n' ∧ SIM (K + 1) n' (blk g' bb) ∧ r'.1 1 = nI c ∧ g'.1 10 = nI c ∧ c ≤ 16 ∧
         ∀ k, k < c → ∃ i y, i < 48 ∧ r'.2 0 k = nI i ∧ g'.2 2 k = nI i ∧ n.2 0 i = nI y ∧ blk g bb (10 + 3 * i) = nI y) := by
  obtain ⟨bo, li, mi, sv, cn, cs, hcn, ⟨W, hR, hM, e4, e5, ep, e7, e8, e9⟩, hall⟩ := h.1
  have h4 := h.2
  have h48 := W.n48
  unfold fX3_tryCall fX6_connects
  rw [c_isLine hR, c_isLine hR, m_isLine hM W hbb, Option.bind_some, m_isLine hM W hbb]
  rcases rng (bo * li) (by omega) x1 with hx1 | ⟨hx1, i, hi, rfl⟩
  · rw [hx1, if_pos rfl, if_pos rfl]
    exact ⟨_, _, _, rfl, rfl, FRM.rfl, Or.inl (Or.inl rfl)⟩
  · rw [hx1, if_neg ne10, if_neg ne10, Option.bind_some]
    rcases rng (bo * li) (by omega) x2 with hx2 | ⟨hx2, o, ho, rfl⟩
    · rw [hx2, if_pos rfl, if_pos rfl]
      exact ⟨_, _, _, rfl, rfl, FRM.rfl, Or.inl (Or.inl rfl)⟩
    · rw [hx2, if_neg ne10, if_neg ne10, c_busy hR W (by omega), c_obusy hR (by omega), m_of0 hbb (by omega), Option.bind_some]
      by_cases hb : busy cs i = true
      · rw [if_pos hb, if_neg ne10, if_neg (by rw [m_numeq hM W (by omega)]; simp [hb])]
        exact ⟨_, _, _, rfl, rfl, FRM.rfl, Or.inl (Or.inr (Or.inl rfl))⟩
      · have hb : busy cs i = false := by simpa using hb
        rw [hb, if_neg (by decide : ¬ false = true), if_pos rfl, if_pos ((m_numeq hM W (by omega)).mpr hb), m_inletTo hM W hbb (by omega), Option.bind_some]
        cases hio : inlOf cs o with
        | some u =>
          rw [if_pos (by rfl : (some u).isSome = true), if_neg ne10, eN_some, if_neg (nI_ne_of_neg (inl48 hio) (by decide))]
          exact ⟨_, _, _, rfl, rfl, FRM.rfl, Or.inl (Or.inr (Or.inl rfl))⟩
        | none =>
          rw [if_neg (by decide : ¬ (none : Option Nat).isSome = true), if_pos rfl, eN_none, if_pos rfl, if_pos (in_5 hbb)]
          have hcn1 : cn + 1 < 2 ^ 30 := by have := hcn.1; omega
          have W' := W.add hi ho hb hio hcn1
          obtain ⟨hv, hF, hL⟩ := add_lk W hi ho hb hio hcn1
          obtain ⟨hR', hf'⟩ := c_add hR W hi ho hb hio hcn1
          have hM' := hM.add (o := o) (i := i) (by omega)
          have hox : outl (addC cs i cn o) i = some o := by rw [outl_addC, if_pos rfl]
          have hvx : via (addC cs i cn o) i = none := by rw [via_addC, if_pos rfl]
          -- the model lays the call
          have h5a : ((g.2 0) (nI bb + (5 : Int32)).toNatClampNeg) = nI cn := (m_fld (j := 5) hbb (by decide)).trans hM.b5
          rw [h5a, m_lay0 hbb (by omega), Option.bind_some, m_lay1 hbb (by omega), Option.bind_some, m_lay2 hbb (by omega), Option.bind_some, if_pos (in_5 hbb), if_pos (in_5 hbb)]
          obtain ⟨g3, hg3⟩ : ∃ g3, g3 = putS (putS (putS g (bb + (10 + 3 * i)) (nI cn)) (bb + (10 + 3 * i + 1)) (nI o)) (bb + (10 + 3 * i + 2)) (-1 : Int32) := ⟨_, rfl⟩
          rw [← hg3]
          have hb3 : blk g3 bb = upd (upd (upd (blk g bb) (10 + 3 * i) (nI cn)) (10 + 3 * i + 1) (nI o)) (10 + 3 * i + 2) (-1 : Int32) := by
            rw [hg3, blk_put, blk_put, blk_put]
          have h5b : ((g3.2 0) (nI bb + (5 : Int32)).toNatClampNeg) = nI cn := (m_fld (g := g3) (j := 5) hbb (by decide)).trans (by rw [hb3, upd_n (by omega), upd_n (by omega), upd_n (by omega)]; exact hM.b5)
          simp only [jn]
          rw [h5b, nI_succ1, show nI bb + (5 : Int32) = nI bb + nI 5 from rfl, put_fld hbb (by decide)]
          obtain ⟨g4, hg4⟩ : ∃ g4, g4 = putS g3 (bb + 5) (nI (cn + 1)) := ⟨_, rfl⟩
          rw [← hg4]
          have hb4 : blk g4 bb = upd (upd (upd (upd (blk g bb) (10 + 3 * i) (nI cn)) (10 + 3 * i + 1) (nI o)) (10 + 3 * i + 2) (-1 : Int32)) 5 (nI (cn + 1)) := by
            rw [hg4, blk_put, hb3]
          rw [← hb4] at hM'
          have fr4 : FRM bb g g4 := by
            rw [hg4, hg3]
            exact ((FRM.put (by omega)).trans ((FRM.put (by omega)).trans (FRM.put (by omega)))).trans (FRM.put (by omega))
          have sm4 : SMB (blk g bb) (blk g4 bb) := by
            rw [hb4]
            exact ((SMB.put (by omega)).trans ((SMB.put (by omega)).trans (SMB.put (by omega)))).trans (SMB.put (by omega))
          have h84 : blk g4 bb 8 = blk g bb 8 := by rw [hb4, upd_n (by omega), upd_n (by omega), upd_n (by omega), upd_n (by omega)]
          obtain ⟨a, r', g', w1, w2, -, w4, w5, hor⟩ := route (r := r) (o := o) hR W hR' W' hM' hbb hv hF hL (fun j hj => by
            rw [outl_addC, if_neg]
            intro e
            rw [e, via_nobusy hb] at hj; exact hj rfl) hi hvx hox (e4.trans sm4.1.symm) (e5.trans sm4.2.1.symm) (by rw [sm4.2.1]; exact ep)
          rw [w1, w2, Option.bind_some, Option.bind_some]
          refine ⟨a, r', g', rfl, rfl, fr4.trans w4, ?_⟩
          rcases hor with ⟨ha, -⟩ | ⟨m, c, cs', n', ha, hm8, s1, s2, s3, s4, s5, s6, s7, s8, s9, s10, s11, s12, s13, -, s14⟩
          · exact Or.inl (Or.inr (Or.inr ha))
          · right
            refine ⟨m, c, n', ha, hm8, by rw [ha]; exact s1, ?_, s11, s12, s13, fun k hk => ?_⟩
            · have sm := sm4.trans w5
              refine ⟨⟨bo, li, mi, sv, cn + 1, cs', ⟨by have := hcn.1; omega, ext_add hcn.2 W hi (by omega) hb s5 hR.f6 s2.f6 (by rw [s9, upd_n (by decide), hf' 7 (by decide)]) (by rw [s9, upd_n (by decide), hf' 8 (by decide)])⟩, ⟨s3, s2, s4, ?_, ?_, ?_, ?_, ?_, ?_⟩, fun j hj => ?_⟩, by rw [s9, upd_n (by decide), hf' 4 (by decide)]; exact h4⟩
              · rw [s9, upd_n (by decide), hf' 4 (by decide), e4, sm.1]
              · rw [s9, upd_n (by decide), hf' 5 (by decide), e5, sm.2.1]
              · rw [sm.2.1]; exact ep
              · rw [s9, upd_n (by decide), hf' 7 (by decide), e7, sm.2.2.1]
              · rw [s9, upd_n (by decide), hf' 8 (by decide), e8, sm.2.2.2]
              · rw [s9, upd_s, hf' 9 (by decide), e9, s10, h84]
              · by_cases hji : j = i
                · rw [hji, s7]; simp
                · intro hn
                  rw [s8 j hji, hv] at hn
                  refine hall j ?_ hn
                  rw [busy_iff_num, s5, num_addC, if_neg hji, ← busy_iff_num] at hj
                  exact hj
            · obtain ⟨u, hu48, huv, hu1, hu2⟩ := s14 k hk
              have hbu : busy cs u = true := by
                cases hvu : via cs u with
                | none => exact absurd hvu huv
                | some v => exact busy_of_via hvu
              obtain ⟨y, hy⟩ := num_of_busy hbu
              exact ⟨u, y, hu48, hu1, hu2, by rw [hR.2.2.2.2.2.1 u hu48, hy]; rfl, by rw [hM.nm hu48, hy]; rfl⟩
theorem neg134 {a : Int32} (h : a = (-1 : Int32) ∨ a = (-3 : Int32) ∨ a = (-4 : Int32)) : ¬ (0 : Int32) ≤ a ∧ a ≠ (-6 : Int32) := by
  rcases h with rfl | rfl | rfl <;> decide
theorem join_sim {K : Nat} {n g r : OS} (h : SIM K n (blk g bb)) (hbb : bb ≤ 924) (hK : K + 1 < 2 ^ 30) (x1 x2 : Int32) :
    ∃ (a : Int32) (r' n' g' : OS), fX3_join r n x1 x2 = some (a, r', n') ∧ fX6_connects g (nI bb) x1 x2 = some (a, g') ∧ FRM bb g g' ∧ ((¬ (0 : Int32) ≤ a ∧ a ≠ (-6 : Int32) ∧ n' = n) ∨ ((0 : Int32) ≤ a ∧ SIM (K + 1) n' (blk g' bb))) := by
  obtain ⟨a, r', g', h1, h2, h3, h4⟩ := connect_try (r := r) h hbb hK x1 x2
  unfold fX3_join
  rw [h1, Option.bind_some]
  rcases h4 with h4 | ⟨m, c, n', ha, hm8, h5, h6, -⟩
  · obtain ⟨n1, n2⟩ := neg134 h4
    rw [if_neg n1]
    exact ⟨a, r', n, g', rfl, h2, h3, Or.inl ⟨n1, n2, rfl⟩⟩
  · have h0 : (0 : Int32) ≤ a := by rw [ha]; exact nI_pos' (by omega)
    rw [if_pos h0]
    simp only [jn]
    rw [h5, Option.bind_some]
    exact ⟨a, r', n', g', rfl, h2, h3, Or.inr ⟨h0, h6⟩⟩
theorem part_sim {K : Nat} {n g : OS} (h : SIM K n (blk g bb)) (hbb : bb ≤ 924) (x1 : Int32) :
    ∃ (a : Int32) (n' g' : OS), fX3_part (fun _ => 0, fun _ _ => 0) n x1 = (a, n') ∧ fX6_disconnects g (nI bb) x1 = some (a, g') ∧ FRM bb g g' ∧ ((¬ (0 : Int32) ≤ a ∧ a ≠ (-6 : Int32) ∧ n' = n) ∨ ((0 : Int32) ≤ a ∧ SIM K n' (blk g' bb))) := by
  obtain ⟨bo, li, mi, sv, cn, cs, hcn, ⟨W, hR, hM, e4, e5, ep, e7, e8, e9⟩, hall⟩ := h.1
  have h4 := h.2
  have h48 := W.n48
  unfold fX3_part fX6_disconnects
  rw [c_isLine hR, m_isLine hM W hbb, Option.bind_some]
  rcases rng (bo * li) (by omega) x1 with hx1 | ⟨hx1, i, hi, rfl⟩
  · rw [hx1, if_pos rfl, if_pos rfl]
    exact ⟨_, _, _, rfl, rfl, FRM.rfl, Or.inl ⟨by decide, by decide, rfl⟩⟩
  · rw [hx1, if_neg ne10, if_neg ne10, c_busy hR W (by omega), m_of0 hbb (by omega), Option.bind_some]
    by_cases hb : busy cs i = true
    · rw [if_pos hb, if_neg ne10, if_neg (by rw [m_numeq hM W (by omega)]; simp [hb]), m_lay0 hbb (by omega), Option.bind_some, if_pos (in_6 hbb), if_pos (in_6 hbb)]
      simp only [jn]
      obtain ⟨hR', hf'⟩ := c_del hR W (i := i) (by omega) hb
      obtain ⟨y, hy⟩ := num_of_busy hb
      have hM' := (hM.lay0 (i := i) (by omega)).put (k := 6) (x := blk g bb 6 + (1 : Int32)) (by omega)
      rw [← blk_put] at hM'
      have h6a : (((putS g (bb + (10 + 3 * i)) (-1 : Int32)).2 0) (nI bb + (6 : Int32)).toNatClampNeg) = blk g bb 6 := (m_fld (j := 6) hbb (by decide)).trans (by rw [blk_put, upd_n (by omega)])
      rw [h6a, show nI bb + (6 : Int32) = nI bb + nI 6 from rfl, put_fld hbb (by decide), hR.r0 (by omega), hy, hM.nm (by omega), hy, eN_some, eN_some]
      rw [← blk_put] at hM'
      refine ⟨_, _, _, rfl, rfl, (FRM.put (by omega)).trans (FRM.put (by omega)), Or.inr ⟨nI_pos' (W.num31 hy), ⟨bo, li, mi, sv, cn, delC cs i, ⟨hcn.1, ext_del hcn.2 (by omega) hb (by show (fX1_removeCall n (nI i)).1 6 = _; rw [hf']) (by show (fX1_removeCall n (nI i)).1 7 + (1 : Int32) = _; rw [hf']) (by show (fX1_removeCall n (nI i)).1 8 = _; rw [hf'])⟩, ⟨W.del, hR', hM', ?_, ?_, ?_, ?_, ?_, ?_⟩, fun j hj => ?_⟩, by show (0 : Int32) ≤ (fX1_removeCall n (nI i)).1 4; rw [hf']; exact h4⟩⟩
      · show (fX1_removeCall n (nI i)).1 4 = _
        rw [hf', blk_put, blk_put, upd_n (by omega), upd_n (by omega)]; exact e4
      · show (fX1_removeCall n (nI i)).1 5 = _
        rw [hf', blk_put, blk_put, upd_n (by omega), upd_n (by omega)]; exact e5
      · rw [blk_put, blk_put, upd_n (by omega), upd_n (by omega)]; exact ep
      · show (fX1_removeCall n (nI i)).1 7 + (1 : Int32) = _
        rw [hf', blk_put, upd_s, e7]
      · show (fX1_removeCall n (nI i)).1 8 = _
        rw [hf', blk_put, blk_put, upd_n (by omega), upd_n (by omega)]; exact e8
      · show (fX1_removeCall n (nI i)).1 9 = _
        rw [hf', blk_put, blk_put, upd_n (by omega), upd_n (by omega)]; exact e9
      · rw [busy_delC] at hj
        rw [via_delC]
        by_cases hji : j = i
        · rw [if_pos hji] at hj; cases hj
        · rw [if_neg hji] at hj; rw [if_neg hji]; exact hall j hj
    · have hb : busy cs i = false := by simpa using hb
      rw [hb, if_neg (by decide : ¬ false = true), if_pos rfl, if_pos ((m_numeq hM W (by omega)).mpr hb)]
      exact ⟨_, _, _, rfl, rfl, FRM.rfl, Or.inl ⟨by decide, by decide, rfl⟩⟩
end CO
