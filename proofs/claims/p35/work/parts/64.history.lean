/-! blocks are copied; histories -/
theorem set_s {x : OS} {k : Nat} {v : Int32} : (setF x k v).1 k = v := pk_us
theorem set_n {x : OS} {k j : Nat} {v : Int32} (h : j ≠ k) : (setF x k v).1 j = x.1 j := pk_un h
theorem RM.congr {bo li mi sv cn : Nat} {cs : CS} {B B' : Nat → Int32} (h : RM bo li mi sv cn cs B) (he : ∀ j, j < 154 → B' j = B j) : RM bo li mi sv cn cs B' := by
  refine ⟨by rw [he 0 (by decide)]; exact h.b0, by rw [he 1 (by decide)]; exact h.b1, by rw [he 2 (by decide)]; exact h.b2, by rw [he 9 (by decide)]; exact h.b9, by rw [he 5 (by decide)]; exact h.b5, fun i hi => ?_, fun i o hi ho => ?_, fun i hi hb => ?_⟩
  · rw [he _ (by omega)]; exact h.nm hi
  · rw [he _ (by omega)]; exact h.ou hi ho
  · rw [he _ (by omega)]; exact h.vi hi hb
theorem SIM.congr {K : Nat} {n : OS} {B B' : Nat → Int32} (h : SIM K n B) (he : ∀ j, j < 154 → B' j = B j) : SIM K n B' := by
  obtain ⟨bo, li, mi, sv, cn, cs, hcn, ⟨W, hR, hM, e4, e5, ep, e7, e8, e9⟩, hall⟩ := h.1
  refine ⟨⟨bo, li, mi, sv, cn, cs, hcn, ⟨W, hR, hM.congr he, ?_, ?_, ?_, ?_, ?_, ?_⟩, hall⟩, h.2⟩
  · rw [he 3 (by decide)]; exact e4
  · rw [he 4 (by decide)]; exact e5
  · rw [he 4 (by decide)]; exact ep
  · rw [he 6 (by decide)]; exact e7
  · rw [he 7 (by decide)]; exact e8
  · rw [he 8 (by decide)]; exact e9
theorem m_copies {g : OS} {a b : Nat} (ha : a ≤ 6) (hb : b ≤ 6) (hab : a ≠ b) : ∃ g', fX6_copies g (nI a) (nI b) = some g' ∧ (∀ j, j < 154 → blk g' (154 * b) j = blk g (154 * a) j) ∧ (∀ j, (j < 154 * b ∨ 154 * b + 154 ≤ j) → g'.2 0 j = g.2 0 j) ∧ (∀ r, r ≠ 0 → g'.2 r = g.2 r) ∧ g'.1 = g.1 := by
  have key : ∀ (d k fu : Nat) (g1 : OS), 154 - k = d → k ≤ 154 → d < fu → (∀ j, j < k → g1.2 0 (154 * b + j) = g.2 0 (154 * a + j)) → (∀ j, (j < 154 * b ∨ 154 * b + k ≤ j) → g1.2 0 j = g.2 0 j) → (∀ r, r ≠ 0 → g1.2 r = g.2 r) → g1.1 = g.1 →
      ∃ g', fX6_copies_2 (nI a) (nI b) fu (nI k) g1 = some g' ∧ (∀ j, j < 154 → blk g' (154 * b) j = blk g (154 * a) j) ∧ (∀ j, (j < 154 * b ∨ 154 * b + 154 ≤ j) → g'.2 0 j = g.2 0 j) ∧ (∀ r, r ≠ 0 → g'.2 r = g.2 r) ∧ g'.1 = g.1 := by
    intro d
    induction d with
    | zero =>
      intro k fu g1 hd hk hfu h1 h2 h3 h4
      obtain ⟨fu, rfl⟩ : ∃ f, fu = f + 1 := ⟨fu - 1, by omega⟩
      have hk : k = 154 := by omega
      subst hk
      rw [fX6_copies_2_s, if_pos (by decide)]
      exact ⟨g1, rfl, h1, h2, h3, h4⟩
    | succ d ih =>
      intro k fu g1 hd hk hfu h1 h2 h3 h4
      obtain ⟨fu, rfl⟩ : ∃ f, fu = f + 1 := ⟨fu - 1, by omega⟩
      rw [fX6_copies_2_s, if_neg (show ¬ (154 : Int32) ≤ nI k from nI_ge (b := 154) (by omega) (by decide)), show (154 : Int32) = nI 154 from rfl, pk_mul, pk_mul, nI_add, nI_add, if_pos (inb_nI (by omega) (by decide)), if_pos (inb_nI (by omega) (by decide)), nI_clamp (by omega), nI_clamp (by omega), h2 (154 * a + k) (by omega), nI_succ1]
      simp only [jn]
      refine ih (k + 1) fu _ (by omega) (by omega) (by omega) (fun j hj => ?_) (fun j hj => ?_) (fun r hr => ?_) h4
      · show upd (g1.2 0) (154 * b + k) (g.2 0 (154 * a + k)) (154 * b + j) = _
        by_cases hjk : j = k
        · rw [hjk, upd_s]
        · rw [upd_n (by omega)]; exact h1 j (by omega)
      · show upd (g1.2 0) (154 * b + k) (g.2 0 (154 * a + k)) j = _
        rw [upd_n (by omega)]; exact h2 j (by omega)
      · show (if r = 0 then _ else g1.2 r) = _
        rw [if_neg hr]; exact h3 r hr
  exact key 154 0 FU g (by omega) (by omega) (FU_big (by omega)) (fun j hj => by omega) (fun _ _ => rfl) (fun _ _ => rfl) rfl
/-- the class's ring and the model's list hold the same states -/
def HIST (K : Nat) (hi : HS) (g : OS) : Prop := ∃ c lt, c ≤ 4 ∧ lt < 4 ∧ g.1 1 = nI c ∧ hi.1 1 = nI lt ∧ hi.1 2 = nI c ∧ ∀ d, d < c → SIM K (hi.2 ((lt + 4 - d) % 4)) (blk g (154 * (c - d)))
theorem HIST.mono {K K' : Nat} {hi : HS} {g : OS} (h : HIST K hi g) (hK : K ≤ K') : HIST K' hi g := by
  obtain ⟨c, lt, h1, h2, h3, h4, h5, h6⟩ := h
  exact ⟨c, lt, h1, h2, h3, h4, h5, fun d hd => (h6 d hd).mono hK⟩
theorem HIST.keep {K : Nat} {hi : HS} {g g' : OS} (h : HIST K hi g) (e1 : g'.1 1 = g.1 1) (e0 : ∀ j, 154 ≤ j → j < 770 → g'.2 0 j = g.2 0 j) : HIST K hi g' := by
  obtain ⟨c, lt, h1, h2, h3, h4, h5, h6⟩ := h
  exact ⟨c, lt, h1, h2, e1.trans h3, h4, h5, fun d hd => (h6 d hd).congr (fun j hj => e0 _ (by omega) (by omega))⟩
theorem HIST.len {K : Nat} {hi : HS} {g : OS} (h : HIST K hi g) : hi.1 2 = g.1 1 := by
  obtain ⟨c, lt, h1, h2, h3, h4, h5, h6⟩ := h
  rw [h3, h5]
theorem c_push {hi : HS} {o : OS} {lt : Nat} (h1 : hi.1 1 = nI lt) (hlt : lt < 4) : fX0_push hi o = some (pushK hi o ((lt + 1) % 4)) := by
  unfold fX0_push
  rw [h1]
  rcases (by omega : lt = 0 ∨ lt = 1 ∨ lt = 2 ∨ lt = 3) with rfl | rfl | rfl | rfl
  · rw [if_pos rfl]
  · rw [if_neg (by decide), if_pos rfl]
  · rw [if_neg (by decide), if_neg (by decide), if_pos rfl]
  · rw [if_neg (by decide), if_neg (by decide), if_neg (by decide), if_pos rfl]
theorem c_back {hi : HS} {n : OS} {lt c : Nat} (h1 : hi.1 1 = nI lt) (hlt : lt < 4) (h2 : hi.1 2 = nI c) (hc : c ≤ 4) : fX0_takeBack hi n = if c = 0 then some ((-6 : Int32), hi, n) else some (nI c - (1 : Int32), backK hi ((lt + 3) % 4), hi.2 lt) := by
  have z : (hi.1 2 = (0 : Int32)) ↔ c = 0 := by rw [h2]; exact nI0 (by omega)
  unfold fX0_takeBack
  rw [h1]
  rcases (by omega : lt = 0 ∨ lt = 1 ∨ lt = 2 ∨ lt = 3) with rfl | rfl | rfl | rfl
  · rw [if_pos rfl]
    by_cases hc0 : c = 0
    · rw [if_pos (z.mpr hc0), if_pos hc0]
    · rw [if_neg (fun e => hc0 (z.mp e)), if_neg hc0, h2]
  · rw [if_neg (by decide), if_pos rfl]
    by_cases hc0 : c = 0
    · rw [if_pos (z.mpr hc0), if_pos hc0]
    · rw [if_neg (fun e => hc0 (z.mp e)), if_neg hc0, h2]
  · rw [if_neg (by decide), if_neg (by decide), if_pos rfl]
    by_cases hc0 : c = 0
    · rw [if_pos (z.mpr hc0), if_pos hc0]
    · rw [if_neg (fun e => hc0 (z.mp e)), if_neg hc0, h2]
  · rw [if_neg (by decide), if_neg (by decide), if_neg (by decide), if_pos rfl]
    by_cases hc0 : c = 0
    · rw [if_pos (z.mpr hc0), if_pos hc0]
    · rw [if_neg (fun e => hc0 (z.mp e)), if_neg hc0, h2]
theorem acc35 {g : OS} {a : Int32} {c c' : Nat} (hc : g.1 1 = nI c) (hc4 : c ≤ 4) (hc' : c' = if 4 ≤ c then c else c + 1) : ∃ g', fX6_accepts_35 g a = some (a, g') ∧ g'.1 1 = nI c' ∧ (∀ k, k ≠ 1 → g'.1 k = g.1 k) ∧ (∀ r, r ≠ 0 → g'.2 r = g.2 r) ∧ (∀ j, j < 154 → blk g' 0 j = blk g 924 j) ∧ (∀ j, j < 154 → blk g' (154 * c') j = blk g 0 j) ∧ ∀ j, 154 ≤ j → (j < 154 * c' ∨ 154 * c' + 154 ≤ j) → g'.2 0 j = g.2 0 j := by
  have hcc : 1 ≤ c' ∧ c' ≤ 4 := by
    by_cases h : 4 ≤ c
    · rw [if_pos h] at hc'; omega
    · rw [if_neg h] at hc'; omega
  have hw : g.1 1 + (if (4 : Int32) ≤ g.1 1 then (0 : Int32) else (1 : Int32)) = nI c' := by
    rw [hc]
    by_cases h : 4 ≤ c
    · rw [if_pos (show (4 : Int32) ≤ nI c from nI_le (a := 4) h (by omega)), nI_add0, hc', if_pos h]
    · rw [if_neg (show ¬ (4 : Int32) ≤ nI c from nI_ge (b := 4) (by omega) (by decide)), nI_succ1, hc', if_neg h]
  unfold fX6_accepts_35
  simp only [jn]
  rw [hw]
  obtain ⟨g1, a1, a2, a3, a4, a5⟩ := m_copies (g := setF g 1 (nI c')) (a := 0) (b := c') (by omega) (by omega) (by omega)
  obtain ⟨g2, b1, b2, b3, b4, b5⟩ := m_copies (g := g1) (a := 6) (b := 0) (by omega) (by omega) (by omega)
  have a1' : fX6_copies (setF g 1 (nI c')) (0 : Int32) (nI c') = some g1 := a1
  have b1' : fX6_copies g1 (6 : Int32) (0 : Int32) = some g2 := b1
  rw [a1', Option.bind_some, b1', Option.bind_some]
  refine ⟨g2, rfl, ?_, fun k hk => ?_, fun r hr => ?_, fun j hj => ?_, fun j hj => ?_, fun j h1 h2 => ?_⟩
  · rw [b5, a5, set_s]
  · rw [b5, a5, set_n hk]
  · rw [b4 r hr, a4 r hr]; rfl
  · have e := b2 j hj
    show blk g2 0 j = _
    have e : blk g2 0 j = blk g1 924 j := e
    rw [e]
    show g1.2 0 (924 + j) = g.2 0 (924 + j)
    exact a3 _ (by omega)
  · show g2.2 0 (154 * c' + j) = _
    rw [b3 _ (by omega)]
    exact a2 j hj
  · rw [b3 _ (by omega)]
    exact a3 _ h2
/-- four states: the oldest one goes -/
theorem acc8 {g : OS} {a : Int32} (hc : g.1 1 = (4 : Int32)) : ∃ g', fX6_accepts_8 a FU (1 : Int32) g = fX6_accepts_35 g' a ∧ g'.1 = g.1 ∧ (∀ r, r ≠ 0 → g'.2 r = g.2 r) ∧ (∀ b j, 1 ≤ b → b ≤ 3 → j < 154 → blk g' (154 * b) j = blk g (154 * (b + 1)) j) ∧ ∀ j, (j < 154 ∨ 616 ≤ j) → g'.2 0 j = g.2 0 j := by
  obtain ⟨g1, a1, a2, a3, a4, a5⟩ := m_copies (g := g) (a := 2) (b := 1) (by omega) (by omega) (by omega)
  obtain ⟨g2, b1, b2, b3, b4, b5⟩ := m_copies (g := g1) (a := 3) (b := 2) (by omega) (by omega) (by omega)
  obtain ⟨g3, c1, c2, c3, c4, c5⟩ := m_copies (g := g2) (a := 4) (b := 3) (by omega) (by omega) (by omega)
  have a1' : fX6_copies g ((1 : Int32) + (1 : Int32)) (1 : Int32) = some g1 := a1
  have b1' : fX6_copies g1 ((1 : Int32) + (1 : Int32) + (1 : Int32)) ((1 : Int32) + (1 : Int32)) = some g2 := b1
  have c1' : fX6_copies g2 ((1 : Int32) + (1 : Int32) + (1 : Int32) + (1 : Int32)) ((1 : Int32) + (1 : Int32) + (1 : Int32)) = some g3 := c1
  refine ⟨g3, ?_, ?_, fun r hr => ?_, fun b j h1 h2 hj => ?_, fun j hj => ?_⟩
  · rw [show FU = 999996 + 1 + 1 + 1 + 1 from rfl, fX6_accepts_8_s, if_neg (by decide), if_pos hc, a1', Option.bind_some, fX6_accepts_8_s, if_neg (by decide), if_pos (show g1.1 1 = (4 : Int32) by rw [a5]; exact hc), b1', Option.bind_some, fX6_accepts_8_s, if_neg (by decide), if_pos (show g2.1 1 = (4 : Int32) by rw [b5, a5]; exact hc), c1', Option.bind_some, fX6_accepts_8_s, if_pos (by decide)]
  · rw [c5, b5, a5]
  · rw [c4 r hr, b4 r hr, a4 r hr]
  · rcases (by omega : b = 1 ∨ b = 2 ∨ b = 3) with rfl | rfl | rfl
    · show g3.2 0 (154 * 1 + j) = _
      rw [c3 _ (by omega), b3 _ (by omega)]
      exact a2 j hj
    · show g3.2 0 (154 * 2 + j) = _
      rw [c3 _ (by omega)]
      have e : g2.2 0 (154 * 2 + j) = g1.2 0 (154 * 3 + j) := b2 j hj
      rw [e, a3 _ (by omega)]; rfl
    · have e : g3.2 0 (154 * 3 + j) = g2.2 0 (154 * 4 + j) := c2 j hj
      show g3.2 0 (154 * 3 + j) = _
      rw [e, b3 _ (by omega), a3 _ (by omega)]; rfl
  · rw [c3 _ (by omega), b3 _ (by omega), a3 _ (by omega)]
theorem accept_sim {K : Nat} {hi : HS} {g o n' : OS} {a : Int32} (hH : HIST K hi g) (ho : SIM K o (blk g 0)) (hn : SIM K n' (blk g 924)) (ha : (0 : Int32) ≤ a) :
    ∃ hi' g', fX0_push hi o = some hi' ∧ fX6_accepts g a = some (a, g') ∧ HIST K hi' g' ∧ SIM K n' (blk g' 0) ∧ (∀ j, 770 ≤ j → g'.2 0 j = g.2 0 j) ∧ (∀ r, r ≠ 0 → g'.2 r = g.2 r) ∧ ∀ k, k ≠ 1 → g'.1 k = g.1 k := by
  obtain ⟨c, lt, hc4, hlt, e1, e2, e3, hS⟩ := hH
  refine ⟨pushK hi o ((lt + 1) % 4), ?_⟩
  rw [c_push e2 hlt]
  unfold fX6_accepts
  rw [if_pos ha]
  by_cases hc : c = 4
  · subst hc
    obtain ⟨g1, a1, a2, a3, a4, a5⟩ := acc8 (a := a) (show g.1 1 = (4 : Int32) from e1)
    obtain ⟨g2, b1, b2, b3, b4, b5, b6, b7⟩ := acc35 (g := g1) (a := a) (c := 4) (c' := 4) (by rw [a2]; exact e1) (by decide) (by decide)
    refine ⟨g2, rfl, by rw [a1, b1], ⟨4, (lt + 1) % 4, by decide, by omega, b2, rfl, ?_, fun d hd => ?_⟩, ?_, fun j hj => ?_, fun r hr => by rw [b4 r hr, a3 r hr], fun k hk => by rw [b3 k hk, a2]⟩
    · show (if (4 : Int32) < hi.1 2 + (1 : Int32) then (4 : Int32) else hi.1 2 + (1 : Int32)) = nI 4
      rw [e3]; decide
    · cases d with
      | zero =>
        have e : (pushK hi o ((lt + 1) % 4)).2 (((lt + 1) % 4 + 4 - 0) % 4) = o := if_pos (by omega)
        rw [e]
        refine ho.congr (fun j hj => ?_)
        rw [b6 j hj]
        show g1.2 0 (0 + j) = g.2 0 (0 + j)
        exact a5 _ (by omega)
      | succ d =>
        have hne : ¬ (((lt + 1) % 4 + 4 - (d + 1)) % 4) = (lt + 1) % 4 := by omega
        have e : (pushK hi o ((lt + 1) % 4)).2 (((lt + 1) % 4 + 4 - (d + 1)) % 4) = hi.2 (((lt + 1) % 4 + 4 - (d + 1)) % 4) := if_neg hne
        rw [e, show ((lt + 1) % 4 + 4 - (d + 1)) % 4 = (lt + 4 - d) % 4 by omega]
        refine (hS d (by omega)).congr (fun j hj => ?_)
        show g2.2 0 (154 * (4 - (d + 1)) + j) = _
        rw [b7 _ (by omega) (by omega)]
        have := a4 (4 - (d + 1)) j (by omega) (by omega) hj
        rw [show 4 - (d + 1) + 1 = 4 - d by omega] at this
        exact this
    · refine hn.congr (fun j hj => ?_)
      rw [b5 j hj]
      show g1.2 0 (924 + j) = g.2 0 (924 + j)
      exact a5 _ (by omega)
    · rw [b7 _ (by omega) (by omega)]; exact a5 _ (by omega)
  · have h8 : fX6_accepts_8 a FU (1 : Int32) g = fX6_accepts_35 g a := by
      rw [show FU = 999999 + 1 from rfl, fX6_accepts_8_s, if_neg (by decide), if_neg (show ¬ g.1 1 = (4 : Int32) by rw [e1]; exact fun e => hc ((nI_eq (b := 4) (by omega) (by decide)).mp e))]
    obtain ⟨g2, b1, b2, b3, b4, b5, b6, b7⟩ := acc35 (g := g) (a := a) (c := c) (c' := c + 1) e1 hc4 (by rw [if_neg (by omega)])
    refine ⟨g2, rfl, by rw [h8, b1], ⟨c + 1, (lt + 1) % 4, by omega, by omega, b2, rfl, ?_, fun d hd => ?_⟩, hn.congr b5, fun j hj => ?_, b4, b3⟩
    · show (if (4 : Int32) < hi.1 2 + (1 : Int32) then (4 : Int32) else hi.1 2 + (1 : Int32)) = nI (c + 1)
      rw [e3, nI_succ1, if_neg (show ¬ (4 : Int32) < nI (c + 1) from nI_nlt (b := c + 1) (a := 4) (by omega) (by decide))]
    · cases d with
      | zero =>
        have e : (pushK hi o ((lt + 1) % 4)).2 (((lt + 1) % 4 + 4 - 0) % 4) = o := if_pos (by omega)
        rw [e]
        exact ho.congr b6
      | succ d =>
        have hne : ¬ (((lt + 1) % 4 + 4 - (d + 1)) % 4) = (lt + 1) % 4 := by omega
        have e : (pushK hi o ((lt + 1) % 4)).2 (((lt + 1) % 4 + 4 - (d + 1)) % 4) = hi.2 (((lt + 1) % 4 + 4 - (d + 1)) % 4) := if_neg hne
        rw [e, show ((lt + 1) % 4 + 4 - (d + 1)) % 4 = (lt + 4 - d) % 4 by omega, show c + 1 - (d + 1) = c - d by omega]
        refine (hS d (by omega)).congr (fun j hj => ?_)
        show g2.2 0 (154 * (c - d) + j) = g.2 0 (154 * (c - d) + j)
        exact b7 _ (by omega) (by omega)
    · exact b7 _ (by omega) (by omega)
theorem undo_sim {K : Nat} {hi : HS} {g n : OS} (hH : HIST K hi g) (hn : SIM K n (blk g 0)) :
    ∃ a hi' n' g', fX0_takeBack hi n = some (a, hi', n') ∧ fX6_undo g = some (a, g') ∧ HIST K hi' g' ∧ SIM K n' (blk g' 0) ∧ (∀ j, 770 ≤ j → g'.2 0 j = g.2 0 j) ∧ (∀ r, r ≠ 0 → g'.2 r = g.2 r) ∧ ∀ k, k ≠ 1 → g'.1 k = g.1 k := by
  obtain ⟨c, lt, hc4, hlt, e1, e2, e3, hS⟩ := hH
  rw [c_back e2 hlt e3 hc4]
  unfold fX6_undo
  rw [e1]
  by_cases hc : c = 0
  · rw [if_pos hc, if_pos (show nI c = (0 : Int32) by rw [hc]; rfl)]
    exact ⟨_, _, _, _, rfl, rfl, ⟨c, lt, hc4, hlt, e1, e2, e3, hS⟩, hn, fun _ _ => rfl, fun _ _ => rfl, fun _ _ => rfl⟩
  · obtain ⟨g1, a1, a2, a3, a4, a5⟩ := m_copies (g := g) (a := c) (b := 0) (by omega) (by omega) hc
    have a1' : fX6_copies g (nI c) (0 : Int32) = some g1 := a1
    have e4 : nI c - (1 : Int32) = nI (c - 1) := pk_sub (a := c) (b := 1) (by omega)
    rw [if_neg hc, if_neg (show ¬ nI c = (0 : Int32) from nI_ne0 (by omega) (by omega)), a1', Option.bind_some]
    simp only [jn]
    rw [a5, e1, e4]
    refine ⟨_, _, _, _, rfl, rfl, ⟨c - 1, (lt + 3) % 4, by omega, by omega, set_s, rfl, ?_, fun d hd => ?_⟩, ?_, fun j hj => a3 _ (by omega), a4, fun k hk => by rw [set_n hk, a5]⟩
    · show hi.1 2 - (1 : Int32) = _
      rw [e3, e4]
    · show SIM K (hi.2 (((lt + 3) % 4 + 4 - d) % 4)) _
      rw [show ((lt + 3) % 4 + 4 - d) % 4 = (lt + 4 - (d + 1)) % 4 by omega, show c - 1 - d = c - (d + 1) by omega]
      refine (hS (d + 1) (by omega)).congr (fun j hj => ?_)
      exact a3 _ (by omega)
    · have h0 := hS 0 (by omega)
      rw [show (lt + 4 - 0) % 4 = lt by omega, Nat.sub_zero] at h0
      exact h0.congr a2
