/-! a network without calls -/
def noC : CS := fun _ => none
theorem m_builds {g : OS} {bb b l m : Nat} (hbb : bb ≤ 924) (hm : 1 ≤ m) (hm8 : m ≤ 8) : ∃ g', fX6_builds g (nI bb) (nI b) (nI l) (nI m) = some g' ∧ FRM bb g g' ∧ g'.1 = g.1 ∧ (∀ r, r ≠ 0 → g'.2 r = g.2 r) ∧ blk g' bb 0 = nI b ∧ blk g' bb 1 = nI l ∧ blk g' bb 2 = nI m ∧ blk g' bb 9 = nI (2 ^ m - 1) ∧ (∀ k, 3 ≤ k → k ≤ 8 → blk g' bb k = blk g bb k) ∧ ∀ i, i < 48 → blk g' bb (10 + 3 * i) = (-1 : Int32) := by
  have h2 : (1 : Int32) <<< (nI m &&& 31) - (1 : Int32) = nI (2 ^ m - 1) := by
    rw [shl1 m (by omega)]
    exact pk_sub (a := 2 ^ m) (b := 1) Nat.one_le_two_pow
  obtain ⟨w, hw⟩ : ∃ w, w = upd (upd (upd (upd (g.2 0) (bb + 0) (nI b)) (bb + 1) (nI l)) (bb + 2) (nI m)) (bb + 9) (nI (2 ^ m - 1)) := ⟨_, rfl⟩
  have key : ∀ (d k fu : Nat) (g1 : OS), 48 - k = d → k ≤ 48 → d < fu → (∀ i, i < k → blk g1 bb (10 + 3 * i) = (-1 : Int32)) → (∀ j, j < 10 → blk g1 bb j = w (bb + j)) → FRM bb g g1 → g1.1 = g.1 → (∀ r, r ≠ 0 → g1.2 r = g.2 r) →
      ∃ g', fX6_builds_46 (nI bb) fu (nI k) g1 = some g' ∧ FRM bb g g' ∧ g'.1 = g.1 ∧ (∀ r, r ≠ 0 → g'.2 r = g.2 r) ∧ (∀ j, j < 10 → blk g' bb j = w (bb + j)) ∧ ∀ i, i < 48 → blk g' bb (10 + 3 * i) = (-1 : Int32) := by
    intro d
    induction d with
    | zero =>
      intro k fu g1 hd hk hfu h1 h2 h3 h4 h5
      obtain ⟨fu, rfl⟩ : ∃ f, fu = f + 1 := ⟨fu - 1, by omega⟩
      have hk : k = 48 := by omega
      subst hk
      rw [fX6_builds_46_s, if_pos (by decide)]
      exact ⟨g1, rfl, h3, h4, h5, h2, h1⟩
    | succ d ih =>
      intro k fu g1 hd hk hfu h1 h2 h3 h4 h5
      obtain ⟨fu, rfl⟩ : ∃ f, fu = f + 1 := ⟨fu - 1, by omega⟩
      rw [fX6_builds_46_s, if_neg (ge48 (by omega)), m_lay0 hbb (by omega), Option.bind_some, m_lay1 hbb (by omega), Option.bind_some, m_lay2 hbb (by omega), Option.bind_some, nI_succ1 k]
      refine ih (k + 1) fu _ (by omega) (by omega) (by omega) (fun i hi => ?_) (fun j hj => ?_) (((h3.trans (FRM.put (by omega))).trans (FRM.put (by omega))).trans (FRM.put (by omega))) h4 (fun r hr => ?_)
      · rw [blk_put, blk_put, blk_put, upd_n (by omega), upd_n (by omega)]
        by_cases hik : i = k
        · rw [hik, upd_s]
        · rw [upd_n (by omega)]; exact h1 i (by omega)
      · rw [blk_put, blk_put, blk_put, upd_n (by omega), upd_n (by omega), upd_n (by omega)]
        exact h2 j hj
      · rw [putS_r hr, putS_r hr, putS_r hr]; exact h5 r hr
  have f0 : FRM bb g (setR g 0 w) := by
    refine ⟨fun r a _ => if_neg a, fun _ _ => rfl, fun j hj => ?_⟩
    show w j = g.2 0 j
    rw [hw, upd_n (by omega), upd_n (by omega), upd_n (by omega), upd_n (by omega)]
  obtain ⟨g', e1, e2, e3, e4, e5, e6⟩ := key 48 0 FU (setR g 0 w) (by omega) (by omega) (FU_big (by omega)) (fun i hi => by omega) (fun j _ => rfl) f0 rfl (fun r hr => if_neg hr)
  refine ⟨g', ?_, e2, e3, e4, ?_, ?_, ?_, ?_, fun k h1 h2 => ?_, e6⟩
  · unfold fX6_builds
    simp only [jn]
    rw [if_pos (in_0 hbb), if_pos (in_1 hbb), if_pos (in_2 hbb), if_pos (in_9 hbb), h2, show nI bb + (0 : Int32) = nI bb + nI 0 from rfl, show nI bb + (1 : Int32) = nI bb + nI 1 from rfl, show nI bb + (2 : Int32) = nI bb + nI 2 from rfl, show nI bb + (9 : Int32) = nI bb + nI 9 from rfl, cl_k hbb (by decide), cl_k hbb (by decide), cl_k hbb (by decide), cl_k hbb (by decide), ← hw]
    exact e1
  · rw [e5 0 (by decide), hw, upd_n (by omega), upd_n (by omega), upd_n (by omega), upd_s]
  · rw [e5 1 (by decide), hw, upd_n (by omega), upd_n (by omega), upd_s]
  · rw [e5 2 (by decide), hw, upd_n (by omega), upd_s]
  · rw [e5 9 (by decide), hw, upd_s]
  · rw [e5 k (by omega), hw, upd_n (by omega), upd_n (by omega), upd_n (by omega), upd_n (by omega)]; rfl
theorem ar5 (a b c : Int32) : a + b + c = b + a + c := by ac_rfl
theorem noC_find (p : Nat → Bool) (hp : ∀ i, p i = false) : findI p 48 = none := findI_none.mpr (fun j _ => hp j)
theorem nI_0add (x : Int32) : (0 : Int32) + x = x := by simp
theorem fresh_sim {K b l m cn : Nat} {n : OS} {B : Nat → Int32} (hb2 : 2 ≤ b) (hb8 : b ≤ 8) (hl1 : 1 ≤ l) (hl6 : l ≤ 6) (hm1 : 1 ≤ m) (hm8 : m ≤ 8) (hcn : cn ≤ K) (hc30 : cn < 2 ^ 30) (n0 : n.1 0 = nI b) (n1 : n.1 1 = nI l) (n2 : n.1 2 = nI m) (n3 : n.1 3 = nI (2 ^ m - 1)) (n6 : n.1 6 = nI cn) (nr : ∀ r, r < 6 → n.2 r = rowN) (b0 : B 0 = nI b) (b1 : B 1 = nI l) (b2 : B 2 = nI m) (b9 : B 9 = nI (2 ^ m - 1)) (b5 : B 5 = nI cn) (bn : ∀ i, i < 48 → B (10 + 3 * i) = (-1 : Int32)) (e4 : n.1 4 = B 3) (e5 : n.1 5 = B 4) (ep : B 4 = (0 : Int32) ∨ B 4 = (1 : Int32)) (e7 : n.1 7 = B 6) (e8 : n.1 8 = B 7) (e9 : n.1 9 = B 8) (h4 : (0 : Int32) ≤ n.1 4) (nE : n.1 6 = n.1 7 + n.1 8) : SIM K n B := by
  have W : WF b l m (2 ^ m - 1) cn noC := ⟨hb2, hb8, hl1, hl6, hm1, hm8, by have := Nat.two_pow_pos m; omega, hc30, fun _ h => (by cases h), fun _ _ h => (by cases h), fun _ _ h => (by cases h), fun _ _ h => (by cases h), fun _ _ _ h => (by cases h), fun _ _ _ h => (by cases h), fun _ _ _ _ _ h => (by cases h)⟩
  have hF : ∀ x y, lkF l noC x y = none := fun x y => noC_find _ (fun i => rfl)
  have hL : ∀ x y, lkL l noC x y = none := fun x y => noC_find _ (fun i => rfl)
  have hI : ∀ o, inlOf noC o = none := fun o => noC_find _ (fun i => rfl)
  refine ⟨⟨b, l, m, 2 ^ m - 1, cn, noC, ⟨hcn, (fun _ _ _ h => by cases h), by rw [nE, show cnt (busy noC) 48 = 0 from cnt_zero.mpr (fun i _ => rfl), show nI 0 = (0 : Int32) from rfl, nI_0add]⟩, ⟨W, ⟨n0, n1, n2, n3, n6, fun i _ => ?_, fun i _ => ?_, fun i _ => ?_, fun o _ => ?_, fun x y _ _ => ?_, fun x y _ _ => ?_⟩, ⟨b0, b1, b2, b9, b5, fun i hi => bn i hi, fun i o _ h => (by cases h), fun i _ h => (by cases h)⟩, e4, e5, ep, e7, e8, e9⟩, fun i h => (by cases h)⟩, h4⟩
  · rw [nr 0 (by decide)]; rfl
  · rw [nr 1 (by decide)]; rfl
  · rw [nr 2 (by decide)]; rfl
  · rw [nr 3 (by decide), hI]; rfl
  · rw [nr 4 (by decide), hF]; rfl
  · rw [nr 5 (by decide), hL]; rfl
theorem calls_sim {K bb : Nat} {n g : OS} (h : SIM K n (blk g bb)) (hbb : bb ≤ 924) : ∃ c, c ≤ 48 ∧ fX1_countCalls n = some (nI c) ∧ fX6_calls g (nI bb) = some (nI c) := by
  obtain ⟨bo, li, mi, sv, cn, cs, hcn, ⟨W, hR, hM, e4, e5, ep, e7, e8, e9⟩, hall⟩ := h.1
  exact ⟨_, cnt_le (busy cs) 48, c_count hR W, m_calls hM W hbb⟩
theorem SIM.pair {K : Nat} {n : OS} {B : Nat → Int32} (h : SIM K n B) : n.1 5 = B 4 ∧ (B 4 = (0 : Int32) ∨ B 4 = (1 : Int32)) ∧ n.1 4 = B 3 ∧ (0 : Int32) ≤ B 3 := by
  obtain ⟨bo, li, mi, sv, cn, cs, hcn, ⟨W, hR, hM, e4, e5, ep, e7, e8, e9⟩, hall⟩ := h.1
  exact ⟨e5, ep, e4, by rw [← e4]; exact h.2⟩
/-- another rule -/
theorem SIM.rule4 {K bb : Nat} {n g : OS} {v : Int32} (h : SIM K n (blk g bb)) (hv : (0 : Int32) ≤ v) : SIM K (setF n 4 v) (blk (putS g (bb + 3) v) bb) := by
  obtain ⟨bo, li, mi, sv, cn, cs, hcn, ⟨W, hR, hM, e4, e5, ep, e7, e8, e9⟩, hall⟩ := h.1
  rw [blk_put]
  refine ⟨⟨bo, li, mi, sv, cn, cs, hcn, ⟨W, hR, hM.put (by omega), ?_, ?_, ?_, ?_, ?_, ?_⟩, hall⟩, hv⟩
  · rw [upd_s]; rfl
  · rw [upd_n (by decide)]; exact e5
  · rw [upd_n (by decide)]; exact ep
  · rw [upd_n (by decide)]; exact e7
  · rw [upd_n (by decide)]; exact e8
  · rw [upd_n (by decide)]; exact e9
theorem SIM.rule5 {K bb : Nat} {n g : OS} {v : Int32} (h : SIM K n (blk g bb)) (hv : v = (0 : Int32) ∨ v = (1 : Int32)) : SIM K (setF n 5 v) (blk (putS g (bb + 4) v) bb) := by
  obtain ⟨bo, li, mi, sv, cn, cs, hcn, ⟨W, hR, hM, e4, e5, ep, e7, e8, e9⟩, hall⟩ := h.1
  rw [blk_put]
  refine ⟨⟨bo, li, mi, sv, cn, cs, hcn, ⟨W, hR, hM.put (by omega), ?_, ?_, ?_, ?_, ?_, ?_⟩, hall⟩, h.2⟩
  · rw [upd_n (by decide)]; exact e4
  · rw [upd_s]; rfl
  · rw [upd_s]; exact hv
  · rw [upd_n (by decide)]; exact e7
  · rw [upd_n (by decide)]; exact e8
  · rw [upd_n (by decide)]; exact e9
/-- the network is built anew -/
theorem rebuild_sim {K b l m : Nat} {n g : OS} (h : SIM K n (blk g 0)) (h9 : SIM K n (blk g 924)) (hb2 : 2 ≤ b) (hb8 : b ≤ 8) (hl1 : 1 ≤ l) (hl6 : l ≤ 6) (hm1 : 1 ≤ m) (hm8 : m ≤ 8) :
    ∃ c n' g', c ≤ 48 ∧ fX1_rebuild n (nI b) (nI l) (nI m) = some (nI c, n') ∧ fX6_calls g (0 : Int32) = some (nI c) ∧ fX6_builds (putS g 930 (g.2 0 930 + nI c)) (924 : Int32) (nI b) (nI l) (nI m) = some g' ∧ FRM 924 g g' ∧ SIM K n' (blk g' 924) := by
  obtain ⟨c, hc, c1, c2⟩ := calls_sim (bb := 0) h (by decide)
  have c2' : fX6_calls g (0 : Int32) = some (nI c) := c2
  obtain ⟨bo, li, mi, sv, cn, cs, hcn, ⟨W, hR, hM, e4, e5, ep, e7, e8, e9⟩, hall⟩ := h9.1
  obtain ⟨g', m1, m2, m3, m4, b0, b1, b2, b9, bk, bi⟩ := m_builds (g := putS g (924 + 6) (g.2 0 930 + nI c)) (bb := 924) (b := b) (l := l) (m := m) (by decide) hm1 hm8
  have m1' : fX6_builds (putS g 930 (g.2 0 930 + nI c)) (924 : Int32) (nI b) (nI l) (nI m) = some g' := m1
  have hs : (1 : Int32) <<< (nI m &&& 31) - (1 : Int32) = nI (2 ^ m - 1) := by
    rw [shl1 m (by omega)]
    exact pk_sub (a := 2 ^ m) (b := 1) Nat.one_le_two_pow
  have hB : ∀ k, 3 ≤ k → k ≤ 8 → k ≠ 6 → blk g' 924 k = blk g 924 k := fun k h1 h2 h3 => by rw [bk k h1 h2, blk_put, upd_n h3]
  have hrb : fX1_rebuild n (nI b) (nI l) (nI m) = some (nI c, setR (setR (setR (setR (setR (setR (setF (setF (setF (setF (setF n 7 (n.1 7 + nI c)) 0 (nI b)) 1 (nI l)) 2 (nI m)) 3 (nI (2 ^ m - 1))) 0 rowN) 1 rowN) 2 rowN) 3 rowN) 4 rowN) 5 rowN) := by
    unfold fX1_rebuild
    rw [c1, Option.bind_some]
    simp only [jn]
    rw [hs]
  refine ⟨c, _, g', hc, hrb, c2', m1', (FRM.put (by omega)).trans m2, ?_⟩
  · refine fresh_sim (b := b) (l := l) (m := m) (cn := cn) hb2 hb8 hl1 hl6 hm1 hm8 hcn.1 W.cn30 rfl rfl rfl rfl hR.f6 (fun r hr => ?_) b0 b1 b2 b9 ?_ bi ?_ ?_ ?_ ?_ ?_ ?_ h9.2 ?_
    · rcases (by omega : r = 0 ∨ r = 1 ∨ r = 2 ∨ r = 3 ∨ r = 4 ∨ r = 5) with rfl | rfl | rfl | rfl | rfl | rfl <;> rfl
    · rw [hB 5 (by decide) (by decide) (by decide)]; exact hM.b5
    · rw [hB 3 (by decide) (by decide) (by decide)]; exact e4
    · rw [hB 4 (by decide) (by decide) (by decide)]; exact e5
    · rw [hB 4 (by decide) (by decide) (by decide)]; exact ep
    · rw [bk 6 (by decide) (by decide), blk_put, upd_s]
      show n.1 7 + nI c = g.2 0 (924 + 6) + nI c
      rw [e7]; rfl
    · rw [hB 7 (by decide) (by decide) (by decide)]; exact e8
    · rw [hB 8 (by decide) (by decide) (by decide)]; exact e9
    · have hcc := c_count hR W
      rw [c1] at hcc
      have hcc := Option.some.inj hcc
      show n.1 6 = n.1 7 + nI c + n.1 8
      rw [hcn.2.2, ← hcc]
      exact ar5 _ _ _
