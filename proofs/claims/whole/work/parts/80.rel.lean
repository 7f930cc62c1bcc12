/-! the relation between the class's world and the model's, kept by every call -/
def TXT (x g : OS) : Prop := ∃ len T, TC len T x ∧ TM len T g
def KEP (K : Nat) (kx sn g : OS) : Prop := (kx.1 7 = (0 : Int32) ∧ g.1 2 = (0 : Int32)) ∨ (kx.1 7 = (1 : Int32) ∧ g.1 2 = (1 : Int32) ∧ SIM K sn (blk g 770))
def REL (j : Nat) (kx : OS) (hi : HS) (x o sn r tr n g : OS) : Prop := SIM (64 * j) n (blk g 0) ∧ HIST (64 * j) hi g ∧ TXT x g ∧ KEP (64 * j) kx sn g
theorem KEP.keep {K K' : Nat} {kx sn g g' : OS} (h : KEP K kx sn g) (hK : K ≤ K') (e2 : g'.1 2 = g.1 2) (e0 : ∀ j, 770 ≤ j → j < 924 → g'.2 0 j = g.2 0 j) : KEP K' kx sn g' := by
  rcases h with ⟨h1, h2⟩ | ⟨h1, h2, h3⟩
  · exact Or.inl ⟨h1, e2.trans h2⟩
  · exact Or.inr ⟨h1, e2.trans h2, (h3.mono hK).congr (fun j hj => e0 _ (by omega) (by omega))⟩
theorem TXT.keep {x g g' : OS} (h : TXT x g) (e4 : g'.1 4 = g.1 4) (e1 : g'.2 1 = g.2 1) : TXT x g' := by
  obtain ⟨len, T, h1, h2⟩ := h
  exact ⟨len, T, h1, e4.trans h2.1, h2.2.1, fun k hk => by rw [e1]; exact h2.2.2 k hk⟩
theorem REL.next {j : Nat} {kx : OS} {hi : HS} {x o o' sn r r' tr tr' n g : OS} (h : REL j kx hi x o sn r tr n g) : REL (j + 1) kx hi x o' sn r' tr' n g :=
  ⟨h.1.mono (by omega), h.2.1.mono (by omega), h.2.2.1, h.2.2.2.keep (by omega) rfl (fun _ _ _ => rfl)⟩
theorem REL.gf {j : Nat} {kx : OS} {hi : HS} {x o sn r tr n g g' : OS} (h : REL j kx hi x o sn r tr n g) (gf : GF g g') : REL j kx hi x o sn r tr n g' :=
  ⟨h.1.congr (fun k hk => gf.2.2 _ (by omega)), h.2.1.keep (gf.2.1 1 (by decide)) (fun k _ hk => gf.2.2 k (by omega)), h.2.2.1.keep (gf.2.1 4 (by decide)) (gf.1 1 (by decide) (by decide) (by decide)), h.2.2.2.keep (Nat.le_refl _) (gf.2.1 2 (by decide)) (fun k _ hk => gf.2.2 k hk)⟩
theorem copy06 (g : OS) : ∃ g1, fX6_copies g (0 : Int32) (6 : Int32) = some g1 ∧ (∀ j, j < 154 → blk g1 924 j = blk g 0 j) ∧ GF g g1 := by
  obtain ⟨g1, a1, a2, a3, a4, a5⟩ := m_copies (g := g) (a := 0) (b := 6) (by decide) (by decide) (by decide)
  exact ⟨g1, a1, fun j hj => a2 j hj, fun r hr _ _ => a4 r hr, fun k _ => by rw [a5], fun j hj => a3 j (Or.inl hj)⟩
theorem change_push {j : Nat} {kx : OS} {hi : HS} {x o sn r tr n g : OS} (h : REL j kx hi x o sn r tr n g) {a : Int32} {n' g2 : OS} (gf : GF g g2) (ha : (0 : Int32) ≤ a) (hS : SIM (64 * (j + 1)) n' (blk g2 924)) :
    ∃ hi' g', fX0_push hi n = some hi' ∧ fX6_accepts g2 a = some (a, g') ∧ ∀ o' r' tr', REL (j + 1) kx hi' x o' sn r' tr' n' g' := by
  obtain ⟨h1, h2, h3, h4⟩ := h.gf gf
  obtain ⟨hi', g', p1, p2, p3, p4, p5, p6, p7⟩ := accept_sim (h2.mono (by omega : 64 * j ≤ 64 * (j + 1))) (h1.mono (by omega : 64 * j ≤ 64 * (j + 1))) hS ha
  exact ⟨hi', g', p1, p2, fun _ _ _ => ⟨p4, p3, h3.keep (p7 4 (by decide)) (p6 1 (by decide)), h4.keep (by omega) (p7 2 (by decide)) (fun k hk _ => p5 k hk)⟩⟩
theorem lt_of_nle {a : Int32} (h : ¬ (0 : Int32) ≤ a) : a < 0 := by
  rw [Int32.le_iff_toInt_le] at h
  rw [Int32.lt_iff_toInt_lt]
  omega
theorem nlt_of_le {a : Int32} (h : (0 : Int32) ≤ a) : ¬ a < 0 := by
  rw [Int32.le_iff_toInt_le] at h
  rw [Int32.lt_iff_toInt_lt]
  omega
theorem chg {j : Nat} {kx : OS} {hi : HS} {x o sn r tr n g : OS} (h : REL j kx hi x o sn r tr n g) {a : Int32} {n' g2 : OS} (gf : GF g g2) (hor : (¬ (0 : Int32) ≤ a ∧ n' = n) ∨ ((0 : Int32) ≤ a ∧ SIM (64 * (j + 1)) n' (blk g2 924))) :
    ∃ hi' g', fX5_recorded kx hi n a = some (a, hi') ∧ fX6_accepts g2 a = some (a, g') ∧ ∀ o' r' tr', REL (j + 1) kx hi' x o' sn r' tr' n' g' := by
  rcases hor with ⟨h1, h2⟩ | ⟨h1, h2⟩
  · subst h2
    refine ⟨hi, g2, ?_, ?_, fun _ _ _ => (h.gf gf).next⟩
    · unfold fX5_recorded; rw [if_pos (lt_of_nle h1)]
    · unfold fX6_accepts; rw [if_neg h1]
  · obtain ⟨hi', g', p1, p2, p3⟩ := change_push h gf h1 h2
    refine ⟨hi', g', ?_, p2, p3⟩
    unfold fX5_recorded; rw [if_neg (nlt_of_le h1), p1, Option.bind_some]
theorem rin {a b : Nat} {lo hi : Int32} (hlo : lo = nI a) (hhi : hi = nI b) (ha : a < 2 ^ 31) (hb : b < 2 ^ 31) (x : Int32) : (fX5_within x lo hi = (0 : Int32) ∧ fX6_in x lo hi = (0 : Int32)) ∨ (fX5_within x lo hi = (1 : Int32) ∧ fX6_in x lo hi = (1 : Int32) ∧ ∃ k, a ≤ k ∧ k ≤ b ∧ x = nI k) := by
  subst hlo hhi
  unfold fX5_within fX6_in
  by_cases h1 : x < nI a
  · left; rw [if_pos h1]; exact ⟨rfl, rfl⟩
  · by_cases h2 : nI b < x
    · left; rw [if_neg h1, if_pos h2]; exact ⟨rfl, rfl⟩
    · right
      rw [if_neg h1, if_neg h2]
      have h0 : ¬ x < 0 := by
        intro h0
        apply h1
        rw [Int32.lt_iff_toInt_lt] at h0 ⊢
        rw [nI_toInt ha]
        have : (0 : Int32).toInt = 0 := by decide
        omega
      obtain ⟨k, hk, rfl⟩ := nI_of h0
      rw [nI_ltI hk ha] at h1
      rw [nI_ltI hb hk] at h2
      exact ⟨rfl, rfl, k, by omega, by omega, rfl⟩
section STS
variable {j : Nat} {kx : OS} {hi : HS} {x o sn r tr n g : OS}
theorem st_setUp (hj : j ≤ 512) (h : REL j kx hi x o sn r tr n g) (a1 a2 a3 : Int32) : ∃ (r0 : Int32) (hi' : HS) (n' : OS) (g' : OS), fX5_setUp kx hi n a1 a2 a3 = some (r0, hi', n') ∧ fX6_setUp g a1 a2 a3 = some (r0, g') ∧ REL (j + 1) kx hi' x o sn r tr n' g' := by
  unfold fX5_setUp fX6_setUp
  rcases rin (a := 2) (b := 8) (lo := (2 : Int32)) (hi := (8 : Int32)) rfl rfl (by decide) (by decide) a1 with ⟨u1, u2⟩ | ⟨u1, u2, b, hb2, hb8, rfl⟩
  · rw [u1, u2, if_pos rfl, if_pos rfl]; exact ⟨_, _, _, _, rfl, rfl, h.next⟩
  rw [u1, u2, if_neg ne10, if_neg ne10]
  rcases rin (a := 1) (b := 6) (lo := (1 : Int32)) (hi := (6 : Int32)) rfl rfl (by decide) (by decide) a2 with ⟨v1, v2⟩ | ⟨v1, v2, l, hl1, hl6, rfl⟩
  · rw [v1, v2, if_pos rfl, if_pos rfl]; exact ⟨_, _, _, _, rfl, rfl, h.next⟩
  rw [v1, v2, if_neg ne10, if_neg ne10]
  rcases rin (a := 1) (b := 8) (lo := (1 : Int32)) (hi := (8 : Int32)) rfl rfl (by decide) (by decide) a3 with ⟨w1, w2⟩ | ⟨w1, w2, m, hm1, hm8, rfl⟩
  · rw [w1, w2, if_pos rfl, if_pos rfl]; exact ⟨_, _, _, _, rfl, rfl, h.next⟩
  rw [w1, w2, if_neg ne10, if_neg ne10]
  obtain ⟨g1, c1, c2, gf1⟩ := copy06 g
  have s0 : SIM (64 * j) n (blk g1 0) := (h.gf gf1).1
  have s9 : SIM (64 * j) n (blk g1 924) := h.1.congr c2
  obtain ⟨c, n', g3, hc, b1, b2, b3, b4, b5⟩ := rebuild_sim s0 s9 hb2 hb8 hl1 hl6 hm1 hm8
  obtain ⟨hi', g', p1, p2, p3⟩ := change_push h (gf1.trans b4.three.gf) (a := nI c) (nI_pos' (by omega)) (b5.mono (by omega))
  have b3' : fX6_builds (setR g1 0 (upd (g1.2 0) 930 (g1.2 0 930 + nI c))) (924 : Int32) (nI b) (nI l) (nI m) = some g3 := b3
  refine ⟨nI c, hi', n', g', ?_, ?_, p3 _ _ _⟩
  · rw [p1, Option.bind_some, b1, Option.bind_some]
  · rw [c1, Option.bind_some, b2, Option.bind_some, if_pos (by decide), if_pos (by decide), show (930 : Int32).toNatClampNeg = 930 by decide]
    simp only [jn]
    rw [b3', Option.bind_some, p2, Option.bind_some]
theorem st_setChoiceRule (hj : j ≤ 512) (h : REL j kx hi x o sn r tr n g) (a1 : Int32) : ∃ (r0 : Int32) (hi' : HS) (n' : OS) (g' : OS), fX5_setChoiceRule kx hi n a1 = some (r0, hi', n') ∧ fX6_setChoiceRule g a1 = some (r0, g') ∧ REL (j + 1) kx hi' x o sn r tr n' g' := by
  obtain ⟨e5, ep, e4, e40⟩ := h.1.pair
  unfold fX5_setChoiceRule fX6_setChoiceRule fX6_rules
  rcases rin (a := 0) (b := 2) (lo := (0 : Int32)) (hi := (2 : Int32)) rfl rfl (by decide) (by decide) a1 with ⟨u1, u2⟩ | ⟨u1, u2, k, hk0, hk2, rfl⟩
  · rw [u1, u2, if_pos rfl, if_pos rfl]; exact ⟨_, _, _, _, rfl, rfl, h.next⟩
  have hB : (g.2 0) (3 : Int32).toNatClampNeg = n.1 4 := by
    rw [show (3 : Int32).toNatClampNeg = 3 by decide]; exact e4.symm
  rw [u1, u2, if_neg ne10, if_neg ne10, hB, if_pos (show inb (3 : Int32) 1078 = true by decide)]
  by_cases he : nI k = n.1 4
  · rw [if_pos he, if_pos he.symm]; exact ⟨_, _, _, _, rfl, rfl, h.next⟩
  obtain ⟨g1, c1, c2, gf1⟩ := copy06 g
  have s9 : SIM (64 * j) n (blk g1 924) := h.1.congr c2
  have s4 := s9.rule4 (v := nI k) (nI_pos' (by omega))
  have gf2 : GF g1 (putS g1 (924 + 3) (nI k)) := (FRM.put (bb := 924) (k := 3) (by decide)).three.gf
  obtain ⟨hi', g', p1, p2, p3⟩ := change_push h (gf1.trans gf2) (a := n.1 4) h.1.2 (s4.mono (by omega))
  have p2' : fX6_accepts (setR g1 0 (upd (g1.2 0) 927 (nI k))) (n.1 4) = some (n.1 4, g') := p2
  refine ⟨n.1 4, hi', setF n 4 (nI k), g', ?_, ?_, p3 _ _ _⟩
  · rw [if_neg he, p1, Option.bind_some]
  · rw [if_neg (fun e => he e.symm), c1, Option.bind_some, if_pos (show inb ((924 : Int32) + (3 : Int32)) 1078 = true by decide), show ((924 : Int32) + (3 : Int32)).toNatClampNeg = 927 by decide]
    simp only [jn]
    rw [p2', Option.bind_some, Option.bind_some]
theorem st_setPairRule (hj : j ≤ 512) (h : REL j kx hi x o sn r tr n g) (a1 : Int32) : ∃ (r0 : Int32) (hi' : HS) (n' : OS) (g' : OS), fX5_setPairRule kx hi n a1 = some (r0, hi', n') ∧ fX6_setPairRule g a1 = some (r0, g') ∧ REL (j + 1) kx hi' x o sn r tr n' g' := by
  obtain ⟨e5, ep, e4, e40⟩ := h.1.pair
  unfold fX5_setPairRule fX6_setPairRule fX6_rules
  rcases rin (a := 0) (b := 1) (lo := (0 : Int32)) (hi := (1 : Int32)) rfl rfl (by decide) (by decide) a1 with ⟨u1, u2⟩ | ⟨u1, u2, k, hk0, hk1, rfl⟩
  · rw [u1, u2, if_pos rfl, if_pos rfl]; exact ⟨_, _, _, _, rfl, rfl, h.next⟩
  have hB : (g.2 0) (4 : Int32).toNatClampNeg = n.1 5 := by
    rw [show (4 : Int32).toNatClampNeg = 4 by decide]; exact e5.symm
  have h05 : (0 : Int32) ≤ n.1 5 := by
    rw [e5]
    rcases ep with e | e <;> rw [e] <;> decide
  have hk : nI k = (0 : Int32) ∨ nI k = (1 : Int32) := by
    rcases (by omega : k = 0 ∨ k = 1) with rfl | rfl
    · exact Or.inl rfl
    · exact Or.inr rfl
  rw [u1, u2, if_neg ne10, if_neg ne10, hB, if_pos (show inb (4 : Int32) 1078 = true by decide)]
  by_cases he : nI k = n.1 5
  · rw [if_pos he, if_pos he.symm]; exact ⟨_, _, _, _, rfl, rfl, h.next⟩
  obtain ⟨g1, c1, c2, gf1⟩ := copy06 g
  have s9 : SIM (64 * j) n (blk g1 924) := h.1.congr c2
  have s5 := s9.rule5 hk
  have gf2 : GF g1 (putS g1 (924 + 4) (nI k)) := (FRM.put (bb := 924) (k := 4) (by decide)).three.gf
  obtain ⟨hi', g', p1, p2, p3⟩ := change_push h (gf1.trans gf2) (a := n.1 5) h05 (s5.mono (by omega))
  have p2' : fX6_accepts (setR g1 0 (upd (g1.2 0) 928 (nI k))) (n.1 5) = some (n.1 5, g') := p2
  refine ⟨n.1 5, hi', setF n 5 (nI k), g', ?_, ?_, p3 _ _ _⟩
  · rw [if_neg he, p1, Option.bind_some]
  · rw [if_neg (fun e => he e.symm), c1, Option.bind_some, if_pos (show inb ((924 : Int32) + (4 : Int32)) 1078 = true by decide), show ((924 : Int32) + (4 : Int32)).toNatClampNeg = 928 by decide]
    simp only [jn]
    rw [p2', Option.bind_some, Option.bind_some]
theorem st_connect (hj : j ≤ 512) (h : REL j kx hi x o sn r tr n g) (a1 a2 : Int32) : ∃ (r0 : Int32) (hi' : HS) (o' : OS) (r' : OS) (n' : OS) (g' : OS), fX5_connect kx hi o r n a1 a2 = some (r0, hi', o', r', n') ∧ fX6_connect g a1 a2 = some (r0, g') ∧ REL (j + 1) kx hi' x o' sn r' tr n' g' := by
  obtain ⟨g1, c1, c2, gf1⟩ := copy06 g
  have s9 : SIM (64 * j) n (blk g1 924) := h.1.congr c2
  obtain ⟨a, r', n', g2, h1, h2, h3, h4⟩ := join_sim (r := r) s9 (by decide) (by omega) a1 a2
  have h2' : fX6_connects g1 (924 : Int32) a1 a2 = some (a, g2) := h2
  obtain ⟨hi', g', p1, p2, p3⟩ := chg h (gf1.trans h3.three.gf) (a := a) (n' := n') (by
    rcases h4 with ⟨z1, z2, z3⟩ | ⟨z1, z2⟩
    · exact Or.inl ⟨z1, z3⟩
    · exact Or.inr ⟨z1, z2.mono (by omega)⟩)
  refine ⟨a, hi', n, r', n', g', ?_, ?_, p3 _ _ _⟩
  · unfold fX5_connect
    rw [h1, Option.bind_some, p1, Option.bind_some]
  · unfold fX6_connect
    rw [c1, Option.bind_some, h2', Option.bind_some, p2, Option.bind_some]
theorem st_disconnect (hj : j ≤ 512) (h : REL j kx hi x o sn r tr n g) (a1 : Int32) : ∃ (r0 : Int32) (hi' : HS) (o' : OS) (n' : OS) (g' : OS), fX5_disconnect kx hi o r n a1 = some (r0, hi', o', n') ∧ fX6_disconnect g a1 = some (r0, g') ∧ REL (j + 1) kx hi' x o' sn r tr n' g' := by
  obtain ⟨g1, c1, c2, gf1⟩ := copy06 g
  have s9 : SIM (64 * j) n (blk g1 924) := h.1.congr c2
  obtain ⟨a, n', g2, h1, h2, h3, h4⟩ := part_sim s9 (by decide) a1
  have h1' : fX3_part r n a1 = (a, n') := h1
  have h2' : fX6_disconnects g1 (924 : Int32) a1 = some (a, g2) := h2
  obtain ⟨hi', g', p1, p2, p3⟩ := chg h (gf1.trans h3.three.gf) (a := a) (n' := n') (by
    rcases h4 with ⟨z1, z2, z3⟩ | ⟨z1, z2⟩
    · exact Or.inl ⟨z1, z3⟩
    · exact Or.inr ⟨z1, z2.mono (by omega)⟩)
  refine ⟨a, hi', n, n', g', ?_, ?_, p3 _ _ _⟩
  · unfold fX5_disconnect
    simp only [jn]
    rw [h1', p1, Option.bind_some]
  · unfold fX6_disconnect
    rw [c1, Option.bind_some, h2', Option.bind_some, p2, Option.bind_some]
theorem st_takeOut (hj : j ≤ 512) (h : REL j kx hi x o sn r tr n g) (a1 : Int32) : ∃ (r0 : Int32) (hi' : HS) (o' : OS) (r' : OS) (n' : OS) (g' : OS), fX5_takeOut kx hi o r n a1 = some (r0, hi', o', r', n') ∧ fX6_takeOut g a1 = some (r0, g') ∧ REL (j + 1) kx hi' x o' sn r' tr n' g' := by
  obtain ⟨g1, c1, c2, gf1⟩ := copy06 g
  have s9 : SIM (64 * j) n (blk g1 924) := h.1.congr c2
  obtain ⟨a, r', n', g2, h1, h2, h3, h4⟩ := retire_sim (r := r) s9 (by decide) a1
  have h2' : fX6_takesOut g1 (924 : Int32) a1 = some (a, g2) := h2
  obtain ⟨hi', g', p1, p2, p3⟩ := chg h (gf1.trans h3.three.gf) (a := a) (n' := n') (by
    rcases h4 with ⟨z1, z2, z3⟩ | ⟨z1, z2, z3⟩ | ⟨z1, z2⟩
    · exact Or.inl ⟨z1, z3⟩
    · exact Or.inl ⟨by rw [z1]; decide, z2⟩
    · exact Or.inr ⟨z1, z2.mono (by omega)⟩)
  refine ⟨a, hi', n, r', n', g', ?_, ?_, p3 _ _ _⟩
  · unfold fX5_takeOut
    rw [h1, Option.bind_some, p1, Option.bind_some]
  · unfold fX6_takeOut
    rw [c1, Option.bind_some, h2', Option.bind_some, p2, Option.bind_some]
theorem st_putBack (hj : j ≤ 512) (h : REL j kx hi x o sn r tr n g) (a1 : Int32) : ∃ (r0 : Int32) (hi' : HS) (o' : OS) (n' : OS) (g' : OS), fX5_putBack kx hi o r n a1 = some (r0, hi', o', n') ∧ fX6_putBack g a1 = some (r0, g') ∧ REL (j + 1) kx hi' x o' sn r tr n' g' := by
  obtain ⟨g1, c1, c2, gf1⟩ := copy06 g
  have s9 : SIM (64 * j) n (blk g1 924) := h.1.congr c2
  obtain ⟨a, n', g2, h1, h2, h3, h4⟩ := revive_sim s9 (by decide) a1
  have h1' : fX3_revive r n a1 = (a, n') := h1
  have h2' : fX6_putsBack g1 (924 : Int32) a1 = some (a, g2) := h2
  obtain ⟨hi', g', p1, p2, p3⟩ := chg h (gf1.trans h3.three.gf) (a := a) (n' := n') (by
    rcases h4 with ⟨z1, z2, z3⟩ | ⟨z1, z2, z3⟩ | ⟨z1, z2⟩
    · exact Or.inl ⟨z1, z3⟩
    · exact Or.inl ⟨by rw [z1]; decide, z2⟩
    · exact Or.inr ⟨z1, z2.mono (by omega)⟩)
  refine ⟨a, hi', n, n', g', ?_, ?_, p3 _ _ _⟩
  · unfold fX5_putBack
    simp only [jn]
    rw [h1', p1, Option.bind_some]
  · unfold fX6_putBack
    rw [c1, Option.bind_some, h2', Option.bind_some, p2, Option.bind_some]
theorem st_pack (hj : j ≤ 512) (h : REL j kx hi x o sn r tr n g) : ∃ (r0 : Int32) (hi' : HS) (o' : OS) (r' : OS) (n' : OS) (g' : OS), fX5_pack kx hi o r n = some (r0, hi', o', r', n') ∧ fX6_pack g = some (r0, g') ∧ REL (j + 1) kx hi' x o' sn r' tr n' g' := by
  obtain ⟨g1, c1, c2, gf1⟩ := copy06 g
  have s9 : SIM (64 * j) n (blk g1 924) := h.1.congr c2
  obtain ⟨a, r', n', g2, h1, h2, h3, h4⟩ := repack_sim (r := r) s9 (by decide)
  have h2' : fX6_packs g1 (924 : Int32) = some (a, g2) := h2
  obtain ⟨hi', g', p1, p2, p3⟩ := chg h (gf1.trans h3.gf) (a := a) (n' := n') (by
    rcases h4 with ⟨z1, z2, z3⟩ | ⟨z1, z2⟩
    · exact Or.inl ⟨by rw [z1]; decide, z2⟩
    · exact Or.inr ⟨z1, z2.mono (by omega)⟩)
  refine ⟨a, hi', n, r', n', g', ?_, ?_, p3 _ _ _⟩
  · unfold fX5_pack
    rw [h1, Option.bind_some, p1, Option.bind_some]
  · unfold fX6_pack
    rw [c1, Option.bind_some, h2', Option.bind_some, p2, Option.bind_some]
theorem st_type (hj : j ≤ 512) (h : REL j kx hi x o sn r tr n g) (a1 : Nat) (ha : a1 < 65536) : ∃ (r0 : Int32) (x' : OS) (g' : OS), fX5_type kx x (nI a1) = (r0, x') ∧ fX6_type g (nI a1) = some (r0, g') ∧ REL (j + 1) kx hi x' o sn r tr n g' := by
  obtain ⟨h1, h2, ⟨len, T, hT, hM⟩, h4⟩ := h
  have h60 := hT.2.1
  unfold fX5_type fX2_append fX6_type
  rw [hT.1, hM.1]
  by_cases hl : len = 60
  · rw [if_neg (show ¬ nI len < (60 : Int32) by rw [hl]; decide), if_pos (show nI len = (60 : Int32) by rw [hl]; rfl)]
    exact ⟨_, _, _, rfl, rfl, h1.mono (by omega), h2.mono (by omega), ⟨len, T, hT, hM⟩, h4.keep (by omega) rfl (fun _ _ _ => rfl)⟩
  · rw [if_pos (show nI len < (60 : Int32) from nI_lt (b := 60) (by omega) (by decide)), if_neg (show ¬ nI len = (60 : Int32) from fun e => hl ((nI_eq (b := 60) (by omega) (by decide)).mp e)), if_pos (inb_nI (by omega) (by decide)), nI_clamp (by omega), rset_in (by omega) (by decide), nI_succ1]
    simp only [jn]
    refine ⟨_, _, _, rfl, rfl, h1.mono (by omega), (h2.keep rfl (fun _ _ _ => rfl)).mono (by omega), ⟨len + 1, fun k => if k = len then a1 else T k, ⟨rfl, by omega, fun k hk => ?_⟩, ⟨rfl, by omega, fun k hk => ?_⟩⟩, h4.keep (by omega) rfl (fun _ _ _ => rfl)⟩
    · show (if k = len then a1 else T k) < 65536 ∧ upd (x.2 0) len (nI a1) k = nI (if k = len then a1 else T k)
      by_cases hkl : k = len
      · rw [if_pos hkl, hkl, upd_s]; exact ⟨ha, rfl⟩
      · rw [if_neg hkl, upd_n hkl]; exact hT.2.2 k (by omega)
    · show (if k = len then a1 else T k) < 65536 ∧ upd (g.2 1) len (nI a1) k = nI (if k = len then a1 else T k)
      by_cases hkl : k = len
      · rw [if_pos hkl, hkl, upd_s]; exact ⟨ha, rfl⟩
      · rw [if_neg hkl, upd_n hkl]; exact hM.2.2 k (by omega)
theorem st_clearText (hj : j ≤ 512) (h : REL j kx hi x o sn r tr n g) : ∃ (r0 : Int32) (x' : OS) (g' : OS), fX5_clearText kx x = (r0, x') ∧ fX6_clearText g = (r0, g') ∧ REL (j + 1) kx hi x' o sn r tr n g' := by
  obtain ⟨h1, h2, ⟨len, T, hT, hM⟩, h4⟩ := h
  refine ⟨nI len, setF x 1 (0 : Int32), setF g 4 (0 : Int32), ?_, ?_, h1.mono (by omega), (h2.keep rfl (fun _ _ _ => rfl)).mono (by omega), ⟨0, T, ⟨rfl, by omega, fun k hk => by omega⟩, ⟨rfl, by omega, fun k hk => by omega⟩⟩, h4.keep (by omega) rfl (fun _ _ _ => rfl)⟩
  · unfold fX5_clearText; rw [hT.1]
  · unfold fX6_clearText; rw [hM.1]
theorem st_perform (hj : j ≤ 512) (h : REL j kx hi x o sn r tr n g) : ∃ (r0 : Int32) (hi' : HS) (x' : OS) (o' : OS) (r' : OS) (n' : OS) (g' : OS), fX5_perform kx hi x o r n = some (r0, hi', x', o', r', n') ∧ fX6_perform g = some (r0, g') ∧ REL (j + 1) kx hi' x' o' sn r' tr n' g' := by
  obtain ⟨h1, h2, ⟨len, T, hT, hM⟩, h4⟩ := h
  obtain ⟨a, hi', x', o', r', n', g', e1, e2, e3, e4, e5, e6, e7, e8⟩ := perform_sim (kx := kx) (o := o) (r := r) hT hM h2 h1 (by omega)
  exact ⟨a, hi', x', o', r', n', g', e1, e2, e4.mono (by omega), e3.mono (by omega), ⟨len, T, e5, e6⟩, h4.keep (by omega) e8 e7⟩
theorem st_undo (hj : j ≤ 512) (h : REL j kx hi x o sn r tr n g) : ∃ (r0 : Int32) (hi' : HS) (n' : OS) (g' : OS), fX5_undo kx hi n = some (r0, hi', n') ∧ fX6_undo g = some (r0, g') ∧ REL (j + 1) kx hi' x o sn r tr n' g' := by
  obtain ⟨h1, h2, h3, h4⟩ := h
  obtain ⟨a, hi', n', g', e1, e2, e3, e4, e5, e6, e7⟩ := undo_sim h2 h1
  refine ⟨a, hi', n', g', ?_, e2, e4.mono (by omega), e3.mono (by omega), h3.keep (e7 4 (by decide)) (e6 1 (by decide)), h4.keep (by omega) (e7 2 (by decide)) (fun k hk _ => e5 k hk)⟩
  unfold fX5_undo
  rw [e1, Option.bind_some]
theorem st_keep (hj : j ≤ 512) (h : REL j kx hi x o sn r tr n g) : ∃ (r0 : Int32) (kx' : OS) (sn' : OS) (g' : OS), fX5_keep kx sn n = some (r0, kx', sn') ∧ fX6_keep g = some (r0, g') ∧ REL (j + 1) kx' hi x o sn' r tr n g' := by
  obtain ⟨h1, h2, h3, h4⟩ := h
  obtain ⟨g1, a1, a2, a3, a4, a5⟩ := m_copies (g := g) (a := 0) (b := 5) (by decide) (by decide) (by decide)
  have a1' : fX6_copies g (0 : Int32) (5 : Int32) = some g1 := a1
  have s0 : SIM (64 * j) n (blk (setF g1 2 (1 : Int32)) 0) := h1.congr (fun k hk => a3 _ (by omega))
  have s5 : SIM (64 * j) n (blk (setF g1 2 (1 : Int32)) 770) := h1.congr a2
  obtain ⟨c, hc, c1, c2⟩ := calls_sim s0 (by decide)
  have c2' : fX6_calls (setF g1 2 (1 : Int32)) (0 : Int32) = some (nI c) := c2
  refine ⟨nI c, setF kx 7 (1 : Int32), n, setF g1 2 (1 : Int32), ?_, ?_, s0.mono (by omega), (h2.keep (g' := setF g1 2 (1 : Int32)) (by rw [set_n (by decide), a5]) (fun k hk hk2 => a3 _ (Or.inl (by omega)))).mono (by omega), h3.keep (by rw [set_n (by decide), a5]) (a4 1 (by decide)), Or.inr ⟨rfl, rfl, s5.mono (by omega)⟩⟩
  · unfold fX5_keep
    rw [c1, Option.bind_some]
  · unfold fX6_keep
    rw [a1', Option.bind_some, c2', Option.bind_some]
theorem st_restore (hj : j ≤ 512) (h : REL j kx hi x o sn r tr n g) : ∃ (r0 : Int32) (hi' : HS) (n' : OS) (g' : OS), fX5_restore kx hi sn n = some (r0, hi', n') ∧ fX6_restore g = some (r0, g') ∧ REL (j + 1) kx hi' x o sn r tr n' g' := by
  unfold fX5_restore fX6_restore
  rcases h.2.2.2 with ⟨z1, z2⟩ | ⟨z1, z2, z3⟩
  · rw [if_pos z1, if_pos z2]; exact ⟨_, _, _, _, rfl, rfl, h.next⟩
  · obtain ⟨g1, a1, a2, a3, a4, a5⟩ := m_copies (g := g) (a := 5) (b := 6) (by decide) (by decide) (by decide)
    have a1' : fX6_copies g (5 : Int32) (6 : Int32) = some g1 := a1
    have gf1 : GF g g1 := ⟨fun r hr _ _ => a4 r hr, fun k _ => by rw [a5], fun j hj => a3 j (Or.inl hj)⟩
    have s9 : SIM (64 * j) sn (blk g1 924) := z3.congr a2
    obtain ⟨c, hc, c1, c2⟩ := calls_sim s9 (by decide)
    have c2' : fX6_calls g1 (924 : Int32) = some (nI c) := c2
    obtain ⟨hi', g', p1, p2, p3⟩ := change_push h gf1 (a := nI c) (nI_pos' (by omega)) (s9.mono (by omega))
    refine ⟨nI c, hi', sn, g', ?_, ?_, p3 _ _ _⟩
    · rw [if_neg (show ¬ kx.1 7 = (0 : Int32) by rw [z1]; decide), p1, Option.bind_some, c1, Option.bind_some]
    · rw [if_neg (show ¬ g.1 2 = (0 : Int32) by rw [z2]; decide), a1', Option.bind_some, c2', Option.bind_some, p2, Option.bind_some]
theorem st_callOfInlet (hj : j ≤ 512) (h : REL j kx hi x o sn r tr n g) (a1 : Int32) : ∃ (r0 : Int32), fX5_callOfInlet kx n a1 = r0 ∧ fX6_callOfInlet g a1 = some r0 ∧ REL (j + 1) kx hi x o sn r tr n g := ⟨_, rfl, q_callOfInlet h.1 a1, h.next⟩
theorem st_callOfOutlet (hj : j ≤ 512) (h : REL j kx hi x o sn r tr n g) (a1 : Int32) : ∃ (r0 : Int32), fX5_callOfOutlet kx n a1 = r0 ∧ fX6_callOfOutlet g a1 = some r0 ∧ REL (j + 1) kx hi x o sn r tr n g := ⟨_, rfl, q_callOfOutlet h.1 a1, h.next⟩
theorem st_inletOf (hj : j ≤ 512) (h : REL j kx hi x o sn r tr n g) (a1 : Int32) : ∃ (r0 : Int32), fX5_inletOf kx n a1 = some r0 ∧ fX6_inletOf g a1 = some r0 ∧ REL (j + 1) kx hi x o sn r tr n g := by
  obtain ⟨r0, e1, e2⟩ := q_inletOf (kx := kx) h.1 a1
  exact ⟨r0, e1, e2, h.next⟩
theorem st_outletOf (hj : j ≤ 512) (h : REL j kx hi x o sn r tr n g) (a1 : Int32) : ∃ (r0 : Int32), fX5_outletOf kx n a1 = some r0 ∧ fX6_outletOf g a1 = some r0 ∧ REL (j + 1) kx hi x o sn r tr n g := by
  obtain ⟨r0, e1, e2⟩ := q_outletOf (kx := kx) h.1 a1
  exact ⟨r0, e1, e2, h.next⟩
theorem st_middleOf (hj : j ≤ 512) (h : REL j kx hi x o sn r tr n g) (a1 : Int32) : ∃ (r0 : Int32), fX5_middleOf kx n a1 = some r0 ∧ fX6_middleOf g a1 = some r0 ∧ REL (j + 1) kx hi x o sn r tr n g := by
  obtain ⟨r0, e1, e2⟩ := q_middleOf (kx := kx) h.1 a1
  exact ⟨r0, e1, e2, h.next⟩
theorem st_onFirstLink (hj : j ≤ 512) (h : REL j kx hi x o sn r tr n g) (a1 a2 : Int32) : ∃ (r0 : Int32), fX5_onFirstLink kx n a1 a2 = r0 ∧ fX6_onFirstLink g a1 a2 = some r0 ∧ REL (j + 1) kx hi x o sn r tr n g := ⟨_, rfl, q_onFirstLink h.1 a1 a2, h.next⟩
theorem st_onLastLink (hj : j ≤ 512) (h : REL j kx hi x o sn r tr n g) (a1 a2 : Int32) : ∃ (r0 : Int32), fX5_onLastLink kx n a1 a2 = r0 ∧ fX6_onLastLink g a1 a2 = some r0 ∧ REL (j + 1) kx hi x o sn r tr n g := ⟨_, rfl, q_onLastLink h.1 a1 a2, h.next⟩
theorem st_load (hj : j ≤ 512) (h : REL j kx hi x o sn r tr n g) (a1 : Int32) : ∃ (r0 : Int32), fX5_load kx n a1 = some r0 ∧ fX6_load g a1 = some r0 ∧ REL (j + 1) kx hi x o sn r tr n g := by
  obtain ⟨r0, e1, e2⟩ := q_load (kx := kx) h.1 a1
  exact ⟨r0, e1, e2, h.next⟩
theorem st_freeForFirst (hj : j ≤ 512) (h : REL j kx hi x o sn r tr n g) (a1 : Int32) : ∃ (r0 : Int32), fX5_freeForFirst kx n a1 = some r0 ∧ fX6_freeForFirst g a1 = some r0 ∧ REL (j + 1) kx hi x o sn r tr n g := by
  obtain ⟨r0, e1, e2⟩ := q_freeForFirst (kx := kx) h.1 a1
  exact ⟨r0, e1, e2, h.next⟩
theorem st_freeForLast (hj : j ≤ 512) (h : REL j kx hi x o sn r tr n g) (a1 : Int32) : ∃ (r0 : Int32), fX5_freeForLast kx n a1 = some r0 ∧ fX6_freeForLast g a1 = some r0 ∧ REL (j + 1) kx hi x o sn r tr n g := by
  obtain ⟨r0, e1, e2⟩ := q_freeForLast (kx := kx) h.1 a1
  exact ⟨r0, e1, e2, h.next⟩
theorem st_inService (hj : j ≤ 512) (h : REL j kx hi x o sn r tr n g) : ∃ (r0 : Int32), fX5_inService kx n = r0 ∧ fX6_inService g = some r0 ∧ REL (j + 1) kx hi x o sn r tr n g := ⟨_, rfl, q_inService h.1, h.next⟩
theorem st_total (hj : j ≤ 512) (h : REL j kx hi x o sn r tr n g) (a1 : Int32) : ∃ (r0 : Int32), fX5_total kx hi x n a1 = some r0 ∧ fX6_total g a1 = some r0 ∧ REL (j + 1) kx hi x o sn r tr n g := by
  obtain ⟨len, T, hT, hM⟩ := h.2.2.1
  obtain ⟨r0, e1, e2⟩ := q_total (kx := kx) h.1 h.2.1.len (hT.1.trans hM.1.symm) a1
  exact ⟨r0, e1, e2, h.next⟩
theorem st_wouldMove (hj : j ≤ 512) (h : REL j kx hi x o sn r tr n g) (a1 a2 : Int32) : ∃ (r0 : Int32) (r' : OS) (g' : OS), fX5_wouldMove kx r n a1 a2 = some (r0, r') ∧ fX6_wouldMove g a1 a2 = some (r0, g') ∧ REL (j + 1) kx hi x o sn r' tr n g' := by
  obtain ⟨g1, c1, c2, gf1⟩ := copy06 g
  have s9 : SIM (64 * j) n (blk g1 924) := h.1.congr c2
  obtain ⟨a, r', g2, h1, h2, h3, h4⟩ := connect_try (r := r) s9 (by decide) (by omega) a1 a2
  have h2' : fX6_connects g1 (924 : Int32) a1 a2 = some (a, g2) := h2
  have hR := (h.gf (gf1.trans h3.three.gf))
  unfold fX5_wouldMove fX6_wouldMove
  rw [h1, Option.bind_some, c1, Option.bind_some, h2', Option.bind_some]
  rcases h4 with h4 | ⟨m, c, n', ha, hm8, h5, h6, h7, h8, -⟩
  · obtain ⟨n1, n2⟩ := neg134 h4
    rw [if_neg n1, if_neg n1]
    exact ⟨_, _, _, rfl, rfl, hR.next⟩
  · have h0 : (0 : Int32) ≤ a := by rw [ha]; exact nI_pos' (by omega)
    rw [if_pos h0, if_pos h0, h7, h8]
    exact ⟨_, _, _, rfl, rfl, hR.next⟩
theorem st_chainCall (hj : j ≤ 512) (h : REL j kx hi x o sn r tr n g) (a1 a2 a3 : Int32) : ∃ (r0 : Int32) (r' : OS) (g' : OS), fX5_chainCall kx r n a1 a2 a3 = some (r0, r') ∧ fX6_chainCall g a1 a2 a3 = some (r0, g') ∧ REL (j + 1) kx hi x o sn r' tr n g' := by
  obtain ⟨g1, c1, c2, gf1⟩ := copy06 g
  have s9 : SIM (64 * j) n (blk g1 924) := h.1.congr c2
  obtain ⟨a, r', g2, h1, h2, h3, h4⟩ := connect_try (r := r) s9 (by decide) (by omega) a1 a2
  have h2' : fX6_connects g1 (924 : Int32) a1 a2 = some (a, g2) := h2
  have gf2 : GF g g2 := gf1.trans h3.three.gf
  have hR := h.gf gf2
  unfold fX5_chainCall fX6_chainCall
  rw [h1, Option.bind_some, c1, Option.bind_some, h2', Option.bind_some]
  rcases h4 with h4 | ⟨m, c, n', ha, hm8, h5, h6, h7, h8, h9, h10⟩
  · obtain ⟨n1, n2⟩ := neg134 h4
    rw [if_neg n1, if_neg n1]
    exact ⟨_, _, _, rfl, rfl, hR.next⟩
  · have h0 : (0 : Int32) ≤ a := by rw [ha]; exact nI_pos' (by omega)
    rw [if_pos h0, if_pos h0]
    by_cases h3p : (0 : Int32) ≤ a3
    · rw [if_pos h3p, if_pos h3p, h7, h8]
      obtain ⟨k, hk, rfl⟩ := nI_of (nlt_of_le h3p)
      by_cases hck : c ≤ k
      · rw [if_pos (nI_le hck hk), if_pos (nI_le hck hk)]
        exact ⟨_, _, _, rfl, rfl, hR.next⟩
      · rw [if_neg (nI_ge (by omega) (by omega)), if_neg (nI_ge (by omega) (by omega))]
        obtain ⟨i, y, hi48, k1, k2, k3, k4⟩ := h10 k (by omega)
        have hof : fX6_of g2 (0 : Int32) (nI i) (0 : Int32) = some (nI y) := by
          have hb : blk g2 0 (10 + 3 * i) = nI y := by
            show g2.2 0 (0 + (10 + 3 * i)) = nI y
            rw [gf2.2.2 _ (by omega), ← k4]
            exact (c2 _ (by omega)).symm
          rw [m0_of0 hi48, hb]
        rw [if_pos (inb_nI (by omega) (by decide)), nI_clamp (by omega), k2, hof, Option.bind_some]
        refine ⟨nI y, r', g2, ?_, rfl, hR.next⟩
        rw [rget_in (L := 16) (k := k) (by omega) (by decide), k1, rget_in hi48 (by decide), k3]
    · rw [if_neg h3p, if_neg h3p]
      exact ⟨_, _, _, rfl, rfl, hR.next⟩
theorem st_reason (hj : j ≤ 512) (h : REL j kx hi x o sn r tr n g) (a1 a2 : Int32) : ∃ (r0 : Int32), fX5_reason kx n a1 a2 = some r0 ∧ fX6_reason g a1 a2 = some r0 ∧ REL (j + 1) kx hi x o sn r tr n g := by
  obtain ⟨r0, e1, e2⟩ := q_reason (kx := kx) h.1 a1 a2
  exact ⟨r0, e1, e2, h.next⟩
theorem st_leastMiddles (hj : j ≤ 512) (h : REL j kx hi x o sn r tr n g) : ∃ (r0 : Int32), fX5_leastMiddles kx n = some r0 ∧ fX6_leastMiddles g = some r0 ∧ REL (j + 1) kx hi x o sn r tr n g := by
  obtain ⟨r0, e1, e2⟩ := q_leastMiddles (kx := kx) h.1
  exact ⟨r0, e1, e2, h.next⟩
theorem st_wouldDrop (hj : j ≤ 512) (h : REL j kx hi x o sn r tr n g) (a1 : Int32) : ∃ (r0 : Int32) (r' : OS) (tr' : OS) (g' : OS), fX5_wouldDrop kx r tr n a1 = some (r0, r', tr') ∧ fX6_wouldDrop g a1 = some (r0, g') ∧ REL (j + 1) kx hi x o sn r' tr' n g' := by
  obtain ⟨g1, c1, c2, gf1⟩ := copy06 g
  have s9 : SIM (64 * j) n (blk g1 924) := h.1.congr c2
  obtain ⟨a, r', n', g2, h1, h2, h3, h4⟩ := retire_sim (r := r) s9 (by decide) a1
  have h2' : fX6_takesOut g1 (924 : Int32) a1 = some (a, g2) := h2
  have hR := h.gf (gf1.trans h3.three.gf)
  refine ⟨a, r', n', g2, ?_, ?_, hR.next⟩
  · unfold fX5_wouldDrop
    rw [h1, Option.bind_some]
  · unfold fX6_wouldDrop
    rw [c1, Option.bind_some, h2', Option.bind_some]
theorem st_reachable (hj : j ≤ 512) (h : REL j kx hi x o sn r tr n g) (a1 : Int32) : ∃ (r0 : Int32), fX5_reachable kx n a1 = some r0 ∧ fX6_reachable g a1 = some r0 ∧ REL (j + 1) kx hi x o sn r tr n g := by
  obtain ⟨r0, e1, e2⟩ := q_reachable (kx := kx) h.1 a1
  exact ⟨r0, e1, e2, h.next⟩
end STS
theorem rel_init : ∃ g1, fX6_builds mod0 (0 : Int32) (4 : Int32) (3 : Int32) (3 : Int32) = some g1 ∧ REL 0 txt0 his0 txt0 net0 net0 txt0 net0 net0 g1 := by
  obtain ⟨g', m1, m2, m3, m4, b0, b1, b2, b9, bk, bi⟩ := m_builds (g := mod0) (bb := 0) (b := 4) (l := 3) (m := 3) (by decide) (by decide) (by decide)
  have z : ∀ k, 3 ≤ k → k ≤ 8 → blk g' 0 k = (0 : Int32) := fun k h1 h2 => bk k h1 h2
  have f : ∀ k, g'.1 k = (0 : Int32) := fun k => by rw [m3]; rfl
  refine ⟨g', m1, ?_, ⟨0, 0, by decide, by decide, f 1, rfl, rfl, fun d hd => by omega⟩, ⟨0, fun _ => 0, ⟨rfl, by decide, fun k hk => by omega⟩, ⟨f 4, by decide, fun k hk => by omega⟩⟩, Or.inl ⟨rfl, f 2⟩⟩
  refine fresh_sim (b := 4) (l := 3) (m := 3) (cn := 0) (by decide) (by decide) (by decide) (by decide) (by decide) (by decide) (by decide) (by decide) rfl rfl rfl rfl rfl (fun _ _ => rfl) b0 b1 b2 b9 (z 5 (by decide) (by decide)) bi ?_ ?_ ?_ ?_ ?_ ?_ (by decide)
  · rw [z 3 (by decide) (by decide)]; rfl
  · rw [z 4 (by decide) (by decide)]; rfl
  · exact Or.inl (z 4 (by decide) (by decide))
  · rw [z 6 (by decide) (by decide)]; rfl
  · rw [z 7 (by decide) (by decide)]; rfl
  · rw [z 8 (by decide) (by decide)]; rfl
