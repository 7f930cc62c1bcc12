/-! the orders of a text are carried out alike -/
/-- perform leaves the states, the snapshot and the text alone -/
def GF (g g' : OS) : Prop := (∀ r, r ≠ 0 → r ≠ 2 → r ≠ 3 → g'.2 r = g.2 r) ∧ (∀ k, k < 5 → g'.1 k = g.1 k) ∧ ∀ j, j < 924 → g'.2 0 j = g.2 0 j
theorem GF.trans {g g' g'' : OS} (h : GF g g') (h' : GF g' g'') : GF g g'' := ⟨fun r a b c => (h'.1 r a b c).trans (h.1 r a b c), fun k a => (h'.2.1 k a).trans (h.2.1 k a), fun j a => (h'.2.2 j a).trans (h.2.2 j a)⟩
theorem FR3.gf {g g' : OS} (h : FR3 924 g g') : GF g g' := ⟨h.1, fun k hk => h.2.1 k (by omega), fun j hj => h.2.2 j (Or.inl hj)⟩
theorem GT.gf {g g' : OS} (h : GT g g') : GF g g' := ⟨fun r _ _ _ => by rw [h.1], fun k hk => h.2 k (by omega) (by omega) (by omega) (by omega), fun j _ => by rw [h.1]⟩
theorem TM.gf {len : Nat} {T : Nat → Nat} {g g' : OS} (h : TM len T g) (h' : GF g g') : TM len T g' := ⟨(h'.2.1 4 (by decide)).trans h.1, h.2.1, fun k hk => by rw [h'.1 1 (by decide) (by decide) (by decide)]; exact h.2.2 k hk⟩
theorem GT.sim {K : Nat} {n g g' : OS} (h : GT g g') {bb : Nat} (hs : SIM K n (blk g bb)) : SIM K n (blk g' bb) := by
  refine hs.congr (fun j hj => ?_)
  show g'.2 0 (bb + j) = g.2 0 (bb + j)
  rw [h.1]
theorem obey_sim {K k a b : Nat} {kx x r n g : OS} (h : SIM K n (blk g 924)) (hK : K + 1 < 2 ^ 30) (hk : k = 99 ∨ k = 100 ∨ k = 111 ∨ k = 105 ∨ k = 112) (x3 : x.1 3 = nI k) (x4 : k ≠ 112 → x.1 4 = nI a) (x5 : k = 99 → x.1 5 = nI b) (g6 : g.1 6 = nI (ordN k)) (g7 : k ≠ 112 → g.1 7 = nI a) (g8 : k = 99 → g.1 8 = nI b) :
    ∃ (z : Int32) (r' n' g' : OS), fX5_obey kx x r n = some (z, r', n') ∧ fX6_carries g = some (z, g') ∧ FR3 924 g g' ∧ ((¬ (0 : Int32) ≤ z ∧ z ≠ (-6 : Int32)) ∨ (((0 : Int32) ≤ z ∨ z = (-6 : Int32)) ∧ SIM (K + 1) n' (blk g' 924))) := by
  unfold fX5_obey fX6_carries
  rw [x3, g6]
  rcases hk with rfl | rfl | rfl | rfl | rfl
  · rw [x4 (by decide), x5 rfl, g7 (by decide), g8 rfl]
    obtain ⟨z, r', n', g', h1, h2, h3, h4⟩ := join_sim (r := r) h (by decide) hK (nI a) (nI b)
    have h2' : fX6_connects g (924 : Int32) (nI a) (nI b) = some (z, g') := h2
    rw [if_pos (show nI 99 = (99 : Int32) from rfl), if_pos (show nI (ordN 99) = (0 : Int32) from rfl), h1, h2', Option.bind_some, Option.bind_some]
    refine ⟨z, r', n', g', rfl, rfl, h3.three, ?_⟩
    rcases h4 with ⟨c1, c2, -⟩ | ⟨c1, c2⟩
    · exact Or.inl ⟨c1, c2⟩
    · exact Or.inr ⟨Or.inl c1, c2⟩
  · rw [x4 (by decide), g7 (by decide)]
    obtain ⟨z, n', g', h1, h2, h3, h4⟩ := part_sim h (by decide) (nI a)
    have h1' : fX3_part r n (nI a) = (z, n') := h1
    have h2' : fX6_disconnects g (924 : Int32) (nI a) = some (z, g') := h2
    rw [if_neg (show ¬ nI 100 = (99 : Int32) by decide), if_pos (show nI 100 = (100 : Int32) from rfl), if_neg (show ¬ nI (ordN 100) = (0 : Int32) by decide), if_pos (show nI (ordN 100) = (1 : Int32) from rfl), h1', h2', Option.bind_some]
    refine ⟨z, r, n', g', rfl, rfl, h3.three, ?_⟩
    rcases h4 with ⟨c1, c2, -⟩ | ⟨c1, c2⟩
    · exact Or.inl ⟨c1, c2⟩
    · exact Or.inr ⟨Or.inl c1, c2.mono (by omega)⟩
  · rw [x4 (by decide), g7 (by decide)]
    obtain ⟨z, r', n', g', h1, h2, h3, h4⟩ := retire_sim (r := r) h (by decide) (nI a)
    have h2' : fX6_takesOut g (924 : Int32) (nI a) = some (z, g') := h2
    rw [if_neg (show ¬ nI 111 = (99 : Int32) by decide), if_neg (show ¬ nI 111 = (100 : Int32) by decide), if_neg (show ¬ nI 111 = (101 : Int32) by decide), if_neg (show ¬ nI 111 = (102 : Int32) by decide), if_neg (show ¬ nI 111 = (103 : Int32) by decide), if_neg (show ¬ nI 111 = (104 : Int32) by decide), if_neg (show ¬ nI 111 = (105 : Int32) by decide), if_neg (show ¬ nI 111 = (106 : Int32) by decide), if_neg (show ¬ nI 111 = (107 : Int32) by decide), if_neg (show ¬ nI 111 = (108 : Int32) by decide), if_neg (show ¬ nI 111 = (109 : Int32) by decide), if_neg (show ¬ nI 111 = (110 : Int32) by decide), if_pos (show nI 111 = (111 : Int32) from rfl), if_neg (show ¬ nI (ordN 111) = (0 : Int32) by decide), if_neg (show ¬ nI (ordN 111) = (1 : Int32) by decide), if_pos (show nI (ordN 111) = (2 : Int32) from rfl), h1, h2', Option.bind_some, Option.bind_some]
    refine ⟨z, r', n', g', rfl, rfl, h3.three, ?_⟩
    rcases h4 with ⟨c1, c2, -⟩ | ⟨c1, c2, c3⟩ | ⟨c1, c2⟩
    · exact Or.inl ⟨c1, c2⟩
    · refine Or.inr ⟨Or.inr c1, ?_⟩
      rw [c2, c3]; exact h.mono (by omega)
    · exact Or.inr ⟨Or.inl c1, c2.mono (by omega)⟩
  · rw [x4 (by decide), g7 (by decide)]
    obtain ⟨z, n', g', h1, h2, h3, h4⟩ := revive_sim h (by decide) (nI a)
    have h1' : fX3_revive r n (nI a) = (z, n') := h1
    have h2' : fX6_putsBack g (924 : Int32) (nI a) = some (z, g') := h2
    rw [if_neg (show ¬ nI 105 = (99 : Int32) by decide), if_neg (show ¬ nI 105 = (100 : Int32) by decide), if_neg (show ¬ nI 105 = (101 : Int32) by decide), if_neg (show ¬ nI 105 = (102 : Int32) by decide), if_neg (show ¬ nI 105 = (103 : Int32) by decide), if_neg (show ¬ nI 105 = (104 : Int32) by decide), if_pos (show nI 105 = (105 : Int32) from rfl), if_neg (show ¬ nI (ordN 105) = (0 : Int32) by decide), if_neg (show ¬ nI (ordN 105) = (1 : Int32) by decide), if_neg (show ¬ nI (ordN 105) = (2 : Int32) by decide), if_pos (show nI (ordN 105) = (3 : Int32) from rfl), h1', h2', Option.bind_some]
    refine ⟨z, r, n', g', rfl, rfl, h3.three, ?_⟩
    rcases h4 with ⟨c1, c2, -⟩ | ⟨c1, c2, c3⟩ | ⟨c1, c2⟩
    · exact Or.inl ⟨c1, c2⟩
    · refine Or.inr ⟨Or.inr c1, ?_⟩
      rw [c2, c3]; exact h.mono (by omega)
    · exact Or.inr ⟨Or.inl c1, c2.mono (by omega)⟩
  · obtain ⟨z, r', n', g', h1, h2, h3, h4⟩ := repack_sim (r := r) h (by decide)
    have h2' : fX6_packs g (924 : Int32) = some (z, g') := h2
    rw [if_neg (show ¬ nI 112 = (99 : Int32) by decide), if_neg (show ¬ nI 112 = (100 : Int32) by decide), if_neg (show ¬ nI 112 = (101 : Int32) by decide), if_neg (show ¬ nI 112 = (102 : Int32) by decide), if_neg (show ¬ nI 112 = (103 : Int32) by decide), if_neg (show ¬ nI 112 = (104 : Int32) by decide), if_neg (show ¬ nI 112 = (105 : Int32) by decide), if_neg (show ¬ nI 112 = (106 : Int32) by decide), if_neg (show ¬ nI 112 = (107 : Int32) by decide), if_neg (show ¬ nI 112 = (108 : Int32) by decide), if_neg (show ¬ nI 112 = (109 : Int32) by decide), if_neg (show ¬ nI 112 = (110 : Int32) by decide), if_neg (show ¬ nI 112 = (111 : Int32) by decide), if_pos (show nI 112 = (112 : Int32) from rfl), if_neg (show ¬ nI (ordN 112) = (0 : Int32) by decide), if_neg (show ¬ nI (ordN 112) = (1 : Int32) by decide), if_neg (show ¬ nI (ordN 112) = (2 : Int32) by decide), if_neg (show ¬ nI (ordN 112) = (3 : Int32) by decide), h1, h2', Option.bind_some, Option.bind_some]
    refine ⟨z, r', n', g', rfl, rfl, h3, ?_⟩
    rcases h4 with ⟨c1, c2, c3⟩ | ⟨c1, c2⟩
    · refine Or.inr ⟨Or.inr c1, ?_⟩
      rw [c2, c3]; exact h.mono (by omega)
    · exact Or.inr ⟨Or.inl c1, c2.mono (by omega)⟩
section PF
variable {len : Nat} {T : Nat → Nat}
theorem rd_end : rd len T len = (none, len) := by
  have z : ∀ c, ¬ at_ len T len c = true := fun c e => by have := (at_iff.mp e).1; omega
  exact rd_x (z _) (z _) (z _) (z _) (z _)
theorem perf (kx : OS) (hi : HS) (o : OS) : ∀ (d p c k k' K : Nat) (x r n g : OS), len + 1 ≤ p + d → p ≤ len → 2 * c ≤ p → d < k → d < k' → flt len T d p = none → TC len T x → x.1 2 = nI p → TM len T g → g.1 5 = nI p → SIM K n (blk g 924) → K + d < 2 ^ 30 →
    (∃ c' x' r' n' g', c' ≤ 60 ∧ fX5_perform_39 kx hi o k (nI c) x r n = fX5_perform_99 kx hi x' o r' n' (nI c') ∧ Option.bind (fX6_reads g) (fun v4 => fX6_perform_34 k' (nI c) v4.1 v4.2) = Option.bind (fX6_accepts g' (nI c')) (fun v6 => some (v6.1, v6.2)) ∧ TC len T x' ∧ GF g g' ∧ SIM (K + d) n' (blk g' 924)) ∨
    (∃ z x' r' g', ¬ (0 : Int32) ≤ z ∧ fX5_perform_39 kx hi o k (nI c) x r n = some (z, hi, x', o, r', o) ∧ Option.bind (fX6_reads g) (fun v4 => fX6_perform_34 k' (nI c) v4.1 v4.2) = some (z, g') ∧ TC len T x' ∧ GF g g') := by
  intro d
  induction d with
  | zero => intro p c k k' K x r n g h1 h2; omega
  | succ d ih =>
    intro p c k k' K x r n g h1 h2 h3 h4 h5 hfl hx hp hg hq hS hK
    have h60 := hx.2.1
    obtain ⟨k, rfl⟩ : ∃ f, k = f + 1 := ⟨k - 1, by omega⟩
    obtain ⟨k', rfl⟩ : ∃ f, k' = f + 1 := ⟨k' - 1, by omega⟩
    obtain ⟨f, x', e1, t1, t2, t3⟩ := c_rd hx hp h2
    obtain ⟨f', g', e2, u1, u2, u3⟩ := m_rd hg hq h2
    obtain ⟨rl, rs⟩ := rd_le (len := len) (T := T) (p := p) h2
    cases hr : (rd len T p).1 with
    | none => rw [flt_n hr] at hfl; cases hfl
    | some kk =>
      obtain ⟨ko, ka, kb⟩ := kk
      have hkk := rd_kind hr
      have hlt := rs _ hr
      rcases t3 with ⟨-, z⟩ | ⟨hf, k1, a1, b1, z, tx3, tx4, tx5⟩
      · rw [hr] at z; cases z
      rcases u3 with ⟨-, z2⟩ | ⟨hf', k2, a2, b2, z2, ux3, ux4, ux5⟩
      · rw [hr] at z2; cases z2
      rw [hr] at z z2
      cases z
      cases z2
      rw [fX5_perform_39_s, if_neg (show ¬ (60 : Int32) < nI c from nI_nlt (b := c) (a := 60) (by omega) (by decide)), e1, Option.bind_some, if_neg (show ¬ f = (0 : Int32) by rw [hf]; decide), e2, Option.bind_some, fX6_perform_34_s, if_neg (show ¬ f' = (0 : Int32) by rw [hf']; decide)]
      obtain ⟨zz, r', n', g2, o1, o2, o3, o4⟩ := obey_sim (kx := kx) (x := x') (r := r) (u1.sim hS) (by omega) hkk tx3 tx4 tx5 ux3 ux4 ux5
      rw [o1, Option.bind_some, o2, Option.bind_some]
      have gf2 : GF g g2 := u1.gf.trans o3.gf
      have hg2 : TM len T g2 := hg.gf gf2
      rcases o4 with ⟨n1, n2⟩ | ⟨y1, y2⟩
      · right
        rw [if_neg n1, if_neg n2, if_neg n1, if_neg n2]
        exact ⟨zz, x', r', g2, n1, rfl, rfl, t1, gf2⟩
      · have eC : ∀ {α : Type} (A B : α), (if (0 : Int32) ≤ zz then A else if zz = (-6 : Int32) then A else B) = A := by
          intro α A B
          rcases y1 with y1 | y1
          · rw [if_pos y1]
          · by_cases y0 : (0 : Int32) ≤ zz
            · rw [if_pos y0]
            · rw [if_neg y0, if_pos y1]
        rw [eC, eC]
        obtain ⟨p', hp'⟩ : ∃ p', p' = (rd len T p).2 := ⟨_, rfl⟩
        rw [← hp'] at t2 u2 rl hlt
        rw [flt_s hr, ← hp'] at hfl
        have q2 : g2.1 5 = nI p' := (o3.2.1 5 (by decide)).trans u2
        by_cases hl : p' = len
        · have hna : ¬ at_ len T p' 59 = true := fun e => by have := (at_iff.mp e).1; omega
          left
          rw [c_skip_n (x1 := (59 : Int32)) (c := 59) t1 t2 rl (by decide) rfl hna, m_takes_n (x1 := (59 : Int32)) (c := 59) hg2 q2 rl (by decide) rfl hna, Option.bind_some]
          simp only [jn]
          rw [if_pos trivial, nI_succ1]
          obtain ⟨k, rfl⟩ : ∃ f, k = f + 1 := ⟨k - 1, by omega⟩
          obtain ⟨k', rfl⟩ : ∃ f, k' = f + 1 := ⟨k' - 1, by omega⟩
          obtain ⟨f3, x3, e3, v1, v2, v3⟩ := c_rd t1 t2 rl
          have hf3 : f3 = (0 : Int32) := by
            rcases v3 with ⟨a, -⟩ | ⟨-, k0, a, b, z, -⟩
            · exact a
            · rw [hl, rd_end] at z; cases z
          rw [fX5_perform_39_s, if_neg (show ¬ (60 : Int32) < nI (c + 1) from nI_nlt (b := c + 1) (a := 60) (by omega) (by decide)), e3, Option.bind_some, if_pos (show f3 = (0 : Int32) from hf3), fX6_perform_34_s, if_pos (show (0 : Int32) = 0 from rfl)]
          exact ⟨c + 1, x3, r', n', g2, by omega, rfl, rfl, v1, gf2, y2.mono (by omega)⟩
        · rw [if_neg hl] at hfl
          by_cases ha : at_ len T p' 59 = true
          · rw [if_pos ha] at hfl
            have hl2 := (at_iff.mp ha).1
            rw [c_skip_y (x1 := (59 : Int32)) (c := 59) t1 t2 rl (by decide) rfl ha, m_takes_y (x1 := (59 : Int32)) (c := 59) hg2 q2 rl (by decide) rfl ha, Option.bind_some]
            simp only [jn]
            rw [if_neg (show ¬ (1 : Int32) = 0 by decide), nI_succ1]
            have hg3 : TM len T (setF g2 5 (nI (p' + 1))) := hg2.set (by decide)
            have gt3 : GT g2 (setF g2 5 (nI (p' + 1))) := GT.set (by decide)
            obtain ⟨f6, g6, e6, w1, w2, w3⟩ := m_rd hg3 (p := p' + 1) set_s hl2
            have em : Option.bind (fX6_reads (setF g2 5 (nI (p' + 1)))) (fun v11 => if v11.1 = (0 : Int32) then fX6_perform_34 k' (nI (c + 1)) (0 : Int32) v11.2 else fX6_perform_34 k' (nI (c + 1)) (1 : Int32) v11.2) = Option.bind (fX6_reads (setF g2 5 (nI (p' + 1)))) (fun v4 => fX6_perform_34 k' (nI (c + 1)) v4.1 v4.2) := by
              rw [e6, Option.bind_some, Option.bind_some]
              rcases w3 with ⟨a, -⟩ | ⟨a, -⟩
              · rw [a]; rfl
              · rw [a]; rfl
            rw [em]
            rcases ih (p' + 1) (c + 1) k k' (K + 1) (setF x' 2 (nI (p' + 1))) r' n' (setF g2 5 (nI (p' + 1))) (by omega) hl2 (by omega) (by omega) (by omega) hfl (t1.set (by decide)) set_s hg3 set_s (gt3.sim y2) (by omega) with ⟨c', xx, rr, nn, gg, s1, s2, s3, s4, s5, s6⟩ | ⟨z', xx, rr, gg, s1, s2, s3, s4, s5⟩
            · left
              exact ⟨c', xx, rr, nn, gg, s1, s2, s3, s4, (gf2.trans gt3.gf).trans s5, s6.mono (by omega)⟩
            · right
              exact ⟨z', xx, rr, gg, s1, s2, s3, s4, (gf2.trans gt3.gf).trans s5⟩
          · rw [if_neg ha] at hfl; cases hfl
theorem perform_sim {K : Nat} {kx x o r n g : OS} {hi : HS} (hT : TC len T x) (hM : TM len T g) (hH : HIST K hi g) (hn : SIM K n (blk g 0)) (hK : K + 62 < 2 ^ 30) :
    ∃ a hi' x' o' r' n' g', fX5_perform kx hi x o r n = some (a, hi', x', o', r', n') ∧ fX6_perform g = some (a, g') ∧ HIST (K + 62) hi' g' ∧ SIM (K + 62) n' (blk g' 0) ∧ TC len T x' ∧ TM len T g' ∧ (∀ j, 770 ≤ j → j < 924 → g'.2 0 j = g.2 0 j) ∧ g'.1 2 = g.1 2 := by
  have h60 := hT.2.1
  obtain ⟨x1, g1, f1, f2, f3, f4, f5⟩ := both_fault (len := len) (T := T) 62 0 0 FU FU (setF x 2 (nI 0)) (setF g 5 (nI 0)) (by omega) (by omega) (by omega) (Nat.le_of_lt (FU_big (by omega))) (Nat.le_of_lt (FU_big (by omega))) (hT.set (by decide)) set_s (hM.set (by decide)) set_s
  have z0 : nI 0 = (0 : Int32) := rfl
  rw [z0] at f1 f2
  have f1' : fX2_findFault x = some (eN (flt len T 62 0) (-6), x1) := by
    unfold fX2_findFault fX2_rewind
    simp only [jn]
    exact f1
  have f2' : fX6_fault g = some (eN (flt len T 62 0) (-1), g1) := by
    unfold fX6_fault
    exact f2
  have gt1 : GT g g1 := (GT.set (by decide)).trans f4
  have hM1 : TM len T g1 := hM.of gt1
  have hH1 : HIST K hi g1 := hH.keep (gt1.2 1 (by decide) (by decide) (by decide) (by decide)) (fun j _ _ => by rw [gt1.1])
  have hn1 : SIM K n (blk g1 0) := gt1.sim hn
  unfold fX5_perform fX6_perform
  rw [f1', f2', Option.bind_some, Option.bind_some]
  cases hq : flt len T 62 0 with
  | some f =>
    have hfl := f5 f hq
    rw [eN_some, eN_some, if_neg (show ¬ nI f = (-6 : Int32) from nI_ne_of_neg (by omega) (by decide)), if_neg (show ¬ nI f = (-1 : Int32) from nI_ne_of_neg (by omega) (by decide))]
    exact ⟨_, _, _, _, _, _, _, rfl, rfl, hH1.mono (by omega), hn1.mono (by omega), f3, hM1, fun j _ _ => by rw [gt1.1], gt1.2 2 (by decide) (by decide) (by decide) (by decide)⟩
  | none =>
    rw [eN_none, eN_none, if_pos (show (-6 : Int32) = -6 from rfl), if_pos (show (-1 : Int32) = -1 from rfl)]
    simp only [jn, fX2_rewind]
    obtain ⟨g2, a1, a2, a3, a4, a5⟩ := m_copies (g := g1) (a := 0) (b := 6) (by decide) (by decide) (by decide)
    rw [z0, show nI 6 = (6 : Int32) from rfl] at a1
    rw [a1, Option.bind_some]
    have hx2 : TC len T (setF x1 2 (nI 0)) := f3.set (by decide)
    have hg2 : TM len T (setF g2 5 (nI 0)) := by
      refine TM.set ⟨?_, hM1.2.1, fun k hk => ?_⟩ (by decide)
      · rw [a5]; exact hM1.1
      · rw [a4 1 (by decide)]; exact hM1.2.2 k hk
    have gt2 : GT g2 (setF g2 5 (nI 0)) := GT.set (by decide)
    have hS2 : SIM K n (blk (setF g2 5 (nI 0)) 924) := gt2.sim (hn1.congr (fun j hj => a2 j hj))
    have lo : ∀ j, j < 924 → g2.2 0 j = g1.2 0 j := fun j hj => a3 j (Or.inl hj)
    rcases perf (len := len) (T := T) kx hi n 62 0 0 FU FU K (setF x1 2 (nI 0)) r n (setF g2 5 (nI 0)) (by omega) (by omega) (by omega) (FU_big (by omega)) (FU_big (by omega)) hq hx2 set_s hg2 set_s hS2 hK with ⟨c', xx, rr, nn, gg, s1, s2, s3, s4, s5, s6⟩ | ⟨z', xx, rr, gg, s1, s2, s3, s4, s5⟩
    · rw [z0] at s2 s3
      have gfx : GF g2 gg := gt2.gf.trans s5
      have lo2 : ∀ j, j < 924 → gg.2 0 j = g1.2 0 j := fun j hj => (gfx.2.2 j hj).trans (lo j hj)
      have hHg : HIST (K + 62) hi gg := (hH1.keep (g' := gg) (by rw [gfx.2.1 1 (by decide), a5]) (fun j _ hj => lo2 j (by omega))).mono (by omega)
      have hog : SIM (K + 62) n (blk gg 0) := (hn1.congr (B' := blk gg 0) (fun j hj => lo2 _ (by omega))).mono (by omega)
      have h0 : (0 : Int32) ≤ nI c' := nI_pos' (by omega)
      obtain ⟨hi', g', p1, p2, p3, p4, p5, p6, p7⟩ := accept_sim hHg hog s6 h0
      rw [s2, s3, p2, Option.bind_some]
      unfold fX5_perform_99 fX5_recorded
      rw [if_neg (show ¬ nI c' < 0 from nI_pos (by omega)), p1, Option.bind_some, Option.bind_some]
      refine ⟨_, _, _, _, _, _, _, rfl, rfl, p3, p4, s4, ?_, fun j h1 h2 => ?_, ?_⟩
      · have hMg : TM len T gg := by
          have h2 : TM len T g2 := ⟨by rw [a5]; exact hM1.1, hM1.2.1, fun k hk => by rw [a4 1 (by decide)]; exact hM1.2.2 k hk⟩
          exact h2.gf gfx
        exact ⟨(p7 4 (by decide)).trans hMg.1, hMg.2.1, fun k hk => by rw [p6 1 (by decide)]; exact hMg.2.2 k hk⟩
      · rw [p5 j h1, lo2 j h2, gt1.1]
      · rw [p7 2 (by decide), gfx.2.1 2 (by decide), a5, gt1.2 2 (by decide) (by decide) (by decide) (by decide)]
    · rw [z0] at s2 s3
      have gfx : GF g2 gg := gt2.gf.trans s5
      have lo2 : ∀ j, j < 924 → gg.2 0 j = g1.2 0 j := fun j hj => (gfx.2.2 j hj).trans (lo j hj)
      rw [s2, s3]
      refine ⟨_, _, _, _, _, _, _, rfl, rfl, (hH1.keep (g' := gg) (by rw [gfx.2.1 1 (by decide), a5]) (fun j _ hj => lo2 j (by omega))).mono (by omega), (hn1.congr (B' := blk gg 0) (fun j hj => lo2 _ (by omega))).mono (by omega), s4, ?_, fun j h1 h2 => ?_, ?_⟩
      · have h2 : TM len T g2 := ⟨by rw [a5]; exact hM1.1, hM1.2.1, fun k hk => by rw [a4 1 (by decide)]; exact hM1.2.2 k hk⟩
        exact h2.gf gfx
      · rw [lo2 j h2, gt1.1]
      · rw [gfx.2.1 2 (by decide), a5, gt1.2 2 (by decide) (by decide) (by decide) (by decide)]
end PF
