/-! the model takes a way -/
/-- g' differs from g in block bb, the chain and its length only -/
def FRM (bb : Nat) (g g' : OS) : Prop := (∀ r, r ≠ 0 → r ≠ 2 → g'.2 r = g.2 r) ∧ (∀ k, k ≠ 10 → g'.1 k = g.1 k) ∧ (∀ j, (j < bb ∨ bb + 154 ≤ j) → g'.2 0 j = g.2 0 j)
/-- the block's rules and counters other than moved -/
def SMB (B B' : Nat → Int32) : Prop := B' 3 = B 3 ∧ B' 4 = B 4 ∧ B' 6 = B 6 ∧ B' 7 = B 7
theorem FRM.rfl {bb : Nat} {g : OS} : FRM bb g g := ⟨fun _ _ _ => Eq.refl _, fun _ _ => Eq.refl _, fun _ _ => Eq.refl _⟩
theorem FRM.trans {bb : Nat} {g g' g'' : OS} (h : FRM bb g g') (h' : FRM bb g' g'') : FRM bb g g'' :=
  ⟨fun r a b => (h'.1 r a b).trans (h.1 r a b), fun k a => (h'.2.1 k a).trans (h.2.1 k a), fun j a => (h'.2.2 j a).trans (h.2.2 j a)⟩
theorem FRM.put {bb k : Nat} {g : OS} {v : Int32} (hk : k < 154) : FRM bb g (putS g (bb + k) v) := by
  refine ⟨fun r a _ => putS_r a, fun _ _ => Eq.refl _, fun j hj => ?_⟩
  rw [putS_s, upd_n (by omega)]
theorem FRM.chain {bb : Nat} {g : OS} {w : Nat → Int32} : FRM bb g (setR g 2 w) := by
  refine ⟨fun r _ b => if_neg b, fun _ _ => Eq.refl _, fun j hj => Eq.refl _⟩
theorem FRM.ten {bb : Nat} {g : OS} {v : Int32} : FRM bb g (setF g 10 v) := by
  refine ⟨fun r _ b => Eq.refl _, fun k hk => pk_un hk, fun j hj => Eq.refl _⟩
theorem SMB.rfl {B : Nat → Int32} : SMB B B := ⟨Eq.refl _, Eq.refl _, Eq.refl _, Eq.refl _⟩
theorem SMB.trans {B B' B'' : Nat → Int32} (h : SMB B B') (h' : SMB B' B'') : SMB B B'' := ⟨h'.1.trans h.1, h'.2.1.trans h.2.1, h'.2.2.1.trans h.2.2.1, h'.2.2.2.trans h.2.2.2⟩
theorem SMB.put {B : Nat → Int32} {k : Nat} {v : Int32} (hk : k ≠ 3 ∧ k ≠ 4 ∧ k ≠ 6 ∧ k ≠ 7) : SMB B (upd B k v) := ⟨upd_n (by omega), upd_n (by omega), upd_n (by omega), upd_n (by omega)⟩
theorem put_fld {g : OS} {bb k : Nat} {v : Int32} (hb : bb ≤ 924) (hk : k < 154) : setR g 0 (upd (g.2 0) (nI bb + nI k).toNatClampNeg v) = putS g (bb + k) v := by
  rw [cl_k hb hk]; rfl
section MM
variable {bo li mi sv cn : Nat} {cs : CS} {p q t x o bb : Nat}
theorem pq_sum (k : Nat) : p + q - pq p q k = pq q p k ∧ pq p q k ≤ p + q := by
  rcases mod2 k with h | h
  · rw [pq_even h, pq_even h]; omega
  · rw [pq_odd h, pq_odd h]; omega
theorem m_move {g : OS} {b : Nat} (hM : RM bo li mi sv cn cs (blk g bb)) (W : WF bo li mi sv cn cs) (hbb : bb ≤ 924) (hpq : p ≠ q) (hq : lkL li cs q t = none) (hx : via cs x = none) (hbx : busy cs x = true) (hb64 : b < 64) (hbp : b / 8 = p) (hbq : b % 8 = q) (hc : g.1 10 = nI (clen li cs p q t)) (hH : HC (g.2 2) li cs p q t (clen li cs p q t)) :
    ∃ g', fX6_routes_132 (nI bb) (nI x) (nI b) (nI p) FU (0 : Int32) g = some (nI p, g') ∧ RM bo li mi sv cn (setV (flip li cs p q t) x (some p)) (blk g' bb) ∧ FRM bb g g' ∧ g'.1 10 = g.1 10 ∧ g'.2 2 = g.2 2 ∧ SMB (blk g bb) (blk g' bb) ∧ blk g' bb 8 = blk g bb 8 + nI (clen li cs p q t) := by
  obtain ⟨hc16, hce, hcs⟩ := clen_spec W hpq hq
  have hx48 := W.lt48 hbx
  obtain ⟨c, hcc⟩ : ∃ c, c = clen li cs p q t := ⟨_, rfl⟩
  rw [← hcc] at hc hH hc16 hcs ⊢
  have key : ∀ (d k fu : Nat) (h : OS), c - k = d → k ≤ c → d < fu → RM bo li mi sv cn (mapV cs (flpF li cs p q t k)) (blk h bb) → FRM bb g h → h.1 10 = g.1 10 → h.2 2 = g.2 2 → SMB (blk g bb) (blk h bb) → blk h bb 8 = blk g bb 8 →
      ∃ g', fX6_routes_132 (nI bb) (nI x) (nI b) (nI p) fu (nI k) h = some (nI p, g') ∧ RM bo li mi sv cn (setV (flip li cs p q t) x (some p)) (blk g' bb) ∧ FRM bb g g' ∧ g'.1 10 = g.1 10 ∧ g'.2 2 = g.2 2 ∧ SMB (blk g bb) (blk g' bb) ∧ blk g' bb 8 = blk g bb 8 + nI c := by
    intro d
    induction d with
    | zero =>
      intro k fu h hd hk hfu hm f1 f2 f3 f4 f5
      obtain ⟨fu, rfl⟩ : ∃ f, fu = f + 1 := ⟨fu - 1, by omega⟩
      have hkc : k = c := by omega
      rw [hkc, hcc, flp_flip W hpq hq] at hm
      rw [fX6_routes_132_s, f2.trans hc, if_pos (nI_le (by omega) (by omega)), if_pos (in_8 hbb), if_pos (in_8 hbb)]
      simp only [jn]
      rw [show nI bb + (8 : Int32) = nI bb + nI 8 from rfl, put_fld hbb (by decide), m_fld hbb (by decide), m_lay2 hbb hx48, Option.bind_some, f5]
      have hm1 := (hm.put (k := 8) (x := blk g bb 8 + nI c) (by omega)).lay2 hx48 (some p)
      rw [← blk_put, ← blk_put, eN_some] at hm1
      refine ⟨_, rfl, hm1, (f1.trans (FRM.put (by omega))).trans (FRM.put (by omega)), f2, ?_, ?_, ?_⟩
      · rw [putS_r (by decide), putS_r (by decide)]; exact f3
      · rw [blk_put, blk_put]
        exact (f4.trans (SMB.put (by omega))).trans (SMB.put (by omega))
      · rw [blk_put, blk_put, upd_n (by omega), upd_s]
    | succ d ih =>
      intro k fu h hd hk hfu hm f1 f2 f3 f4 f5
      obtain ⟨fu, rfl⟩ : ∃ f, fu = f + 1 := ⟨fu - 1, by omega⟩
      obtain ⟨i, hi⟩ := hcs k (by omega)
      have hi48 := chn_48 W hi
      have hvi := chn_via W hi
      have hbi := busy_of_via hvi
      have hch : (h.2 2) (nI k).toNatClampNeg = nI i := by
        rw [nI_clamp (by omega), f3]; exact hH k i (by omega) hi
      have hold : blk h bb (10 + 3 * i + 2) = nI (pq p q k) := by
        rw [hm.vi hi48 (by rw [busy_mapV]; exact hbi), via_mapV_n (by rw [flpF_s ((pos_iff W hpq hq).mpr hi), if_neg (by omega)]), hvi]; rfl
      rw [fX6_routes_132_s, f2.trans hc, if_neg (nI_ge (by omega) (by omega)), if_pos (inb_nI (by omega) (by decide)), if_pos (inb_nI (by omega) (by decide)), hch, m_of2 hbb hi48, Option.bind_some, hold, rem8 (by omega), nI_add, hbq, pk_sub (pq_sum k).2, (pq_sum k).1, m_lay2 hbb hi48, Option.bind_some, nI_succ1]
      have hm1 := hm.lay2 hi48 (some (pq q p k))
      rw [flp_next W hpq hq hi, ← blk_put, eN_some] at hm1
      refine ih (k + 1) fu _ (by omega) (by omega) (by omega) hm1 (f1.trans (FRM.put (by omega))) f2 ?_ ?_ ?_
      · rw [putS_r (by decide)]; exact f3
      · rw [blk_put]; exact f4.trans (SMB.put (by omega))
      · rw [blk_put, upd_n (by omega)]; exact f5
  refine key c 0 FU g (by omega) (by omega) (FU_big (by omega)) ?_ FRM.rfl rfl rfl SMB.rfl rfl
  rw [mapV_id (fun j => ?_)]
  · exact hM
  · cases hp : pos li cs p q t j with
    | none => rw [flpF_n hp]
    | some l => rw [flpF_s hp, if_neg (by omega)]
end MM
