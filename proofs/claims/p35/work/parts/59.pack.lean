/-! packing: as few middle boards as are enough, and no call is blocked -/
def lowT (w c : Nat) : Nat → Nat × Nat
  | 0 => (0, 0)
  | k + 1 => if w.testBit k = true ∧ (lowT w c k).2 < c then ((lowT w c k).1 ||| 2 ^ k, (lowT w c k).2 + 1) else lowT w c k
theorem lowT_t {w c k : Nat} (h1 : w.testBit k = true) (h2 : (lowT w c k).2 < c) : lowT w c (k + 1) = ((lowT w c k).1 ||| 2 ^ k, (lowT w c k).2 + 1) := if_pos ⟨h1, h2⟩
theorem lowT_f {w c k : Nat} (h : ¬ (w.testBit k = true ∧ (lowT w c k).2 < c)) : lowT w c (k + 1) = lowT w c k := if_neg h
theorem lowT_inv (w c : Nat) : ∀ k, k ≤ 8 → (lowT w c k).1 < 2 ^ k ∧ cnt (lowT w c k).1.testBit 8 = (lowT w c k).2 ∧ (∀ m, (lowT w c k).1.testBit m = true → w.testBit m = true) ∧ (lowT w c k).2 = min c (cnt w.testBit k)
  | 0, _ => ⟨Nat.zero_lt_one, cnt_zero.mpr (fun i _ => Nat.zero_testBit i), fun m h => absurd ((Nat.zero_testBit m).symm.trans h) (by decide), (Nat.min_zero c).symm⟩
  | k + 1, hk => by
    obtain ⟨i1, i2, i3, i4⟩ := lowT_inv w c k (by omega)
    have h2 : 2 ^ k < 2 ^ (k + 1) := Nat.pow_lt_pow_right (by decide) (by omega)
    have hc : cnt w.testBit (k + 1) = cnt w.testBit k + (if w.testBit k = true then 1 else 0) := rfl
    by_cases h : w.testBit k = true ∧ (lowT w c k).2 < c
    · rw [lowT_t h.1 h.2]
      refine ⟨Nat.or_lt_two_pow (by omega) h2, ?_, fun m hm => ?_, ?_⟩
      · show cnt ((lowT w c k).1 ||| 2 ^ k).testBit 8 = (lowT w c k).2 + 1
        rw [cnt_dec (p := ((lowT w c k).1 ||| 2 ^ k).testBit) (q := (lowT w c k).1.testBit) (x := k) (by rw [Nat.testBit_or, Nat.testBit_two_pow_self, Bool.or_true]) (Nat.testBit_lt_two_pow i1) (fun j hj => by rw [Nat.testBit_or, Nat.testBit_two_pow_of_ne (Ne.symm hj), Bool.or_false]) (by omega), i2]
      · have hm : ((lowT w c k).1 ||| 2 ^ k).testBit m = true := hm
        by_cases hmk : m = k
        · rw [hmk]; exact h.1
        · rw [Nat.testBit_or, Nat.testBit_two_pow_of_ne (Ne.symm hmk), Bool.or_false] at hm
          exact i3 m hm
      · show (lowT w c k).2 + 1 = _
        rw [hc, if_pos h.1]
        omega
    · rw [lowT_f h]
      refine ⟨by omega, i2, i3, ?_⟩
      rw [hc]
      by_cases hb : w.testBit k = true
      · rw [if_pos hb]
        have : ¬ (lowT w c k).2 < c := fun e => h ⟨hb, e⟩
        omega
      · rw [if_neg hb, Nat.add_zero]; exact i4
theorem lowT_stop {w c k : Nat} (h : c ≤ (lowT w c k).2) : ∀ d, lowT w c (k + d) = lowT w c k
  | 0 => rfl
  | d + 1 => by
    have ih := lowT_stop h d
    show lowT w c (k + d + 1) = _
    rw [lowT_f (by rw [ih]; omega), ih]
theorem lowT8 {w c k : Nat} (hk : k ≤ 8) : (lowT w c k).2 ≤ 8 := by
  have := (lowT_inv w c k hk).2.2.2
  have := cnt_le w.testBit k
  omega
theorem c_low {w c : Nat} (hw : w < 256) (hc : c < 2 ^ 31) : fX3_lowestBits (nI w) (nI c) = some (nI (lowT w c 8).1) := by
  unfold fX3_lowestBits
  have h := iloop (fun k i (s : Int32 × Int32) => fX3_lowestBits_7 (nI w) (nI c) k s.1 s.2 i) 8 (fun i s => s.1 = nI (lowT w c i).1 ∧ s.2 = nI (lowT w c i).2) (nI (lowT w c 8).1) ?_ ?_ FU 0 ((0 : Int32), (0 : Int32)) (by omega) (FU_big (by omega)) ⟨rfl, rfl⟩
  · exact h
  · intro k i s hi hI
    obtain ⟨e1, e2⟩ := hI
    have h8 := lowT8 (w := w) (c := c) (k := i) (by omega)
    show (∃ s' : Int32 × Int32, _ ∧ fX3_lowestBits_7 (nI w) (nI c) (k + 1) s.1 s.2 (nI i) = fX3_lowestBits_7 (nI w) (nI c) k s'.1 s'.2 (nI (i + 1))) ∨ fX3_lowestBits_7 (nI w) (nI c) (k + 1) s.1 s.2 (nI i) = _
    rw [fX3_lowestBits_7_s, if_neg (ge8 hi), e1, e2]
    by_cases hs : c ≤ (lowT w c i).2
    · right
      have := lowT_stop hs (8 - i)
      rw [Nat.add_sub_cancel' (by omega : i ≤ 8)] at this
      rw [if_pos (nI_le hs (by omega)), this]
    · left
      refine ⟨(nI (lowT w c (i + 1)).1, nI (lowT w c (i + 1)).2), ⟨rfl, rfl⟩, ?_⟩
      rw [if_neg (nI_ge (by omega) hc), bit_has w hw i hi, nI_succ1 i]
      by_cases hb : w.testBit i = true
      · rw [if_pos hb, if_neg ne10, shl1 i (by omega), fa_or, nI_succ1, lowT_t hb (by omega)]
      · rw [if_neg hb, if_pos rfl, lowT_f (fun e => hb e.1)]
  · intro k s hI
    obtain ⟨e1, e2⟩ := hI
    show fX3_lowestBits_7 (nI w) (nI c) (k + 1) s.1 s.2 (nI 8) = _
    rw [fX3_lowestBits_7_s, if_pos (by decide), e1]
theorem upd_upd {f : Nat → Int32} {k : Nat} {v v' : Int32} : upd (upd f k v) k v' = upd f k v' := by
  funext j
  rw [upd_if, upd_if, upd_if]
  by_cases hj : j = k
  · rw [if_pos hj, if_pos hj]
  · rw [if_neg hj, if_neg hj, if_neg hj]
theorem m_low {w c bb : Nat} {g : OS} {x3 : Int32} (hw : w < 256) (hc : c < 2 ^ 31) (hbb : bb ≤ 924) (h9 : blk g bb 9 = (0 : Int32)) : ∃ g', fX6_packs_51 (nI bb) (nI w) x3 (nI c) FU (0 : Int32) g = fX6_packs_113 (nI bb) (nI w) x3 FU (0 : Int32) g' ∧ blk g' bb = upd (blk g bb) 9 (nI (lowT w c 8).1) ∧ FRM bb g g' := by
  have key : ∀ (d k fu : Nat) (g1 : OS), 8 - k = d → k ≤ 8 → d < fu → blk g1 bb = upd (blk g bb) 9 (nI (lowT w c k).1) → FRM bb g g1 →
      ∃ g', fX6_packs_51 (nI bb) (nI w) x3 (nI c) fu (nI k) g1 = fX6_packs_113 (nI bb) (nI w) x3 FU (0 : Int32) g' ∧ blk g' bb = upd (blk g bb) 9 (nI (lowT w c 8).1) ∧ FRM bb g g' := by
    intro d
    induction d with
    | zero =>
      intro k fu g1 hd hk hfu h1 h2
      obtain ⟨fu, rfl⟩ : ∃ f, fu = f + 1 := ⟨fu - 1, by omega⟩
      have hk : k = 8 := by omega
      subst hk
      rw [fX6_packs_51_s, if_pos (by decide)]
      exact ⟨g1, rfl, h1, h2⟩
    | succ d ih =>
      intro k fu g1 hd hk hfu h1 h2
      obtain ⟨fu, rfl⟩ : ∃ f, fu = f + 1 := ⟨fu - 1, by omega⟩
      obtain ⟨i1, i2, i3, i4⟩ := lowT_inv w c k (by omega)
      have h8 := lowT8 (w := w) (c := c) (k := k) (by omega)
      have hl : (lowT w c k).1 < 256 := lt256 i1 (by omega)
      have hf9 : ((g1.2 0) (nI bb + (9 : Int32)).toNatClampNeg) = nI (lowT w c k).1 := (m_fld (j := 9) hbb (by decide)).trans (by rw [h1, upd_s])
      have step : (if fX6_has (nI w) (nI k) = (0 : Int32) then some (0 : Int32) else if inb (nI bb + (9 : Int32)) 1078 = true then Option.bind (fX6_bits (nI (lowT w c k).1)) (fun v34 => if nI c ≤ v34 then some (0 : Int32) else some ((1 : Int32) <<< (nI k &&& 31))) else none) = some (nI (if w.testBit k = true ∧ (lowT w c k).2 < c then 2 ^ k else 0)) := by
        rw [bit_has6 w hw k (by omega)]
        by_cases hb : w.testBit k = true
        · rw [if_pos hb, if_neg ne10, if_pos (in_9 hbb), pop_m hl, Option.bind_some, i2]
          by_cases hs : (lowT w c k).2 < c
          · rw [if_neg (nI_ge hs hc), shl1 k (by omega), if_pos ⟨hb, hs⟩]
          · rw [if_pos (nI_le (by omega) (by omega)), if_neg (fun e => hs e.2)]; rfl
        · rw [if_neg hb, if_pos rfl, if_neg (fun e => hb e.1)]; rfl
      rw [fX6_packs_51_s, if_neg (ge8 (by omega)), if_pos (in_9 hbb), hf9]
      rw [step, Option.bind_some, if_pos (in_9 hbb)]
      simp only [jn]
      rw [fa_or, nI_succ1, show nI bb + (9 : Int32) = nI bb + nI 9 from rfl, put_fld hbb (by decide)]
      refine ih (k + 1) fu _ (by omega) (by omega) (by omega) ?_ (h2.trans (FRM.put (by omega)))
      rw [blk_put, h1, upd_upd]
      by_cases h : w.testBit k = true ∧ (lowT w c k).2 < c
      · rw [if_pos h, lowT_t h.1 h.2]
      · rw [if_neg h, Nat.or_zero, lowT_f h]
  exact key 8 0 FU g (by omega) (by omega) (FU_big (by omega)) (upd_self h9).symm FRM.rfl
theorem bit_ltmi {w mi m : Nat} (hw : w < 2 ^ mi) (h : w.testBit m = true) : m < mi := by
  rcases Nat.lt_or_ge m mi with h1 | h1
  · exact h1
  · rw [Nat.testBit_lt_two_pow (Nat.lt_of_lt_of_le hw (Nat.pow_le_pow_right (by decide) h1))] at h; cases h
theorem put_put {g : OS} {a b : Nat} {x y : Int32} : putS (putS g a x) b y = setR g 0 (upd (upd (g.2 0) a x) b y) := setR_setR g 0 _ _
/-- differs from g in block bb, the chain, its length and the vias before only -/
def FR3 (bb : Nat) (g g' : OS) : Prop := (∀ r, r ≠ 0 → r ≠ 2 → r ≠ 3 → g'.2 r = g.2 r) ∧ (∀ k, k ≠ 10 → g'.1 k = g.1 k) ∧ (∀ j, (j < bb ∨ bb + 154 ≤ j) → g'.2 0 j = g.2 0 j)
theorem FRM.three {bb : Nat} {g g' : OS} (h : FRM bb g g') : FR3 bb g g' := ⟨fun r a b _ => h.1 r a b, h.2.1, h.2.2⟩
theorem FR3.trans {bb : Nat} {g g' g'' : OS} (h : FR3 bb g g') (h' : FR3 bb g' g'') : FR3 bb g g'' :=
  ⟨fun r a b c => (h'.1 r a b c).trans (h.1 r a b c), fun k a => (h'.2.1 k a).trans (h.2.1 k a), fun j a => (h'.2.2 j a).trans (h.2.2 j a)⟩
theorem FR3.row {bb : Nat} {g : OS} {w : Nat → Int32} : FR3 bb g (setR g 3 w) := ⟨fun _ _ _ c => if_neg c, fun _ _ => Eq.refl _, fun _ _ => Eq.refl _⟩
theorem eN_inj {a b : Option Nat} {d : Int32} (hd : d < 0) (ha : ∀ k, a = some k → k < 2 ^ 31) (hb : ∀ k, b = some k → k < 2 ^ 31) : eN a d = eN b d ↔ a = b := by
  cases b with
  | none => rw [eN_none]; exact eN_eqd hd ha
  | some m => rw [eN_some]; exact eN_eqn hd (hb m rfl) ha
section PK
variable {bo li mi sv sv2 cn : Nat} {cs : CS} {bb : Nat}
theorem cap_F (W : WF bo li mi sv cn cs) {x : Nat} (hb : busy cs x = true) (hx : via cs x = none) (hc : fbN li cs (x / li) ≤ cnt sv.testBit 8) : frF li mi sv cs (x / li) ≠ 0 := by
  intro h0
  have all : ∀ m, sv.testBit m = true → ∃ i, lkF li cs (x / li) m = some i := by
    intro m hm
    cases hl : lkF li cs (x / li) m with
    | some i => exact ⟨i, rfl⟩
    | none =>
      have := frF_bit.mpr ⟨bit_ltmi W.svlt hm, hm, hl⟩
      rw [h0, Nat.zero_testBit] at this; cases this
  have h1 : fbN li cs (x / li) = cnt (fun i => (busy cs i && i / li == x / li) && !(i == x)) 48 + 1 := cnt_dec (x := x) (by simp [hb]) (by simp) (fun j hj => by simp [hj]) (W.lt48 hb)
  have h2 : cnt sv.testBit 8 ≤ cnt (fun i => (busy cs i && i / li == x / li) && !(i == x)) 48 := by
    refine cnt_inj2 (fun m => (lkF li cs (x / li) m).getD 0) (fun m hm h => ?_) (fun m m' hm hm' h h' he => ?_)
    · obtain ⟨i, hi⟩ := all m h
      have hv := W.lF.mp hi
      simp only [hi, Option.getD_some]
      refine ⟨findI_lt hi, ?_⟩
      have hix : i ≠ x := fun e => by rw [e, hx] at hv; cases hv.1
      simp [busy_of_via hv.1, hv.2, hix]
    · obtain ⟨i, hi⟩ := all m h
      obtain ⟨i', hi'⟩ := all m' h'
      simp only [hi, hi', Option.getD_some] at he
      subst he
      have e1 := (W.lF.mp hi).1
      rw [(W.lF.mp hi').1] at e1
      exact (Option.some.inj e1).symm
  omega
theorem cap_L (W : WF bo li mi sv cn cs) {x o : Nat} (hx : via cs x = none) (ho : outl cs x = some o) (hc : lbN li cs (o / li) ≤ cnt sv.testBit 8) : frL li mi sv cs (o / li) ≠ 0 := by
  intro h0
  have all : ∀ m, sv.testBit m = true → ∃ i, lkL li cs m (o / li) = some i := by
    intro m hm
    cases hl : lkL li cs m (o / li) with
    | some i => exact ⟨i, rfl⟩
    | none =>
      have := frL_bit.mpr ⟨bit_ltmi W.svlt hm, hm, hl⟩
      rw [h0, Nat.zero_testBit] at this; cases this
  have h1 : lbN li cs (o / li) = cnt (fun i => ((outl cs i).map (fun o => o / li) == some (o / li)) && !(i == x)) 48 + 1 := cnt_dec (x := x) (by rw [ho]; simp) (by simp) (fun j hj => by simp [hj]) (W.lt48 (busy_of_out ho))
  have h2 : cnt sv.testBit 8 ≤ cnt (fun i => ((outl cs i).map (fun o => o / li) == some (o / li)) && !(i == x)) 48 := by
    refine cnt_inj2 (fun m => (lkL li cs m (o / li)).getD 0) (fun m hm h => ?_) (fun m m' hm hm' h h' he => ?_)
    · obtain ⟨i, hi⟩ := all m h
      obtain ⟨hv, o', ho', hd⟩ := W.lL.mp hi
      simp only [hi, Option.getD_some]
      refine ⟨findI_lt hi, ?_⟩
      have hix : i ≠ x := fun e => by rw [e, hx] at hv; cases hv
      rw [ho']
      simp [hd, hix]
    · obtain ⟨i, hi⟩ := all m h
      obtain ⟨i', hi'⟩ := all m' h'
      simp only [hi, hi', Option.getD_some] at he
      subst he
      have e1 := (W.lL.mp hi).1
      rw [(W.lL.mp hi').1] at e1
      exact (Option.some.inj e1).symm
  omega
theorem fb_sv (W : WF bo li mi sv cn cs) (hall : ∀ i, busy cs i = true → via cs i ≠ none) (b : Nat) : fbN li cs b ≤ cnt sv.testBit 8 ∧ lbN li cs b ≤ cnt sv.testBit 8 := by
  have vs : ∀ i, busy cs i = true → ∃ m, via cs i = some m := by
    intro i hi
    cases hv : via cs i with
    | none => exact absurd hv (hall i hi)
    | some m => exact ⟨m, rfl⟩
  constructor
  · refine cnt_inj2 (fun i => (via cs i).getD 0) (fun i hi h => ?_) (fun i k hi hk h h' he => ?_)
    · have h : busy cs i = true ∧ i / li = b := by simpa using h
      obtain ⟨m, hm⟩ := vs i h.1
      simp only [hm, Option.getD_some]
      exact ⟨W.via8 hm, W.viasv hm⟩
    · have h : busy cs i = true ∧ i / li = b := by simpa using h
      have h' : busy cs k = true ∧ k / li = b := by simpa using h'
      obtain ⟨m, hm⟩ := vs i h.1
      obtain ⟨m', hm'⟩ := vs k h'.1
      simp only [hm, hm', Option.getD_some] at he
      subst he
      exact W.finj hm hm' (h.2.trans h'.2.symm)
  · refine cnt_inj2 (fun i => (via cs i).getD 0) (fun i hi h => ?_) (fun i k hi hk h h' he => ?_)
    · have h : (outl cs i).map (fun o => o / li) = some b := by simpa using h
      cases ho : outl cs i with
      | none => rw [ho] at h; cases h
      | some o =>
        obtain ⟨m, hm⟩ := vs i (busy_of_out ho)
        simp only [hm, Option.getD_some]
        exact ⟨W.via8 hm, W.viasv hm⟩
    · have h : (outl cs i).map (fun o => o / li) = some b := by simpa using h
      have h' : (outl cs k).map (fun o => o / li) = some b := by simpa using h'
      cases ho : outl cs i with
      | none => rw [ho] at h; cases h
      | some o =>
        cases ho' : outl cs k with
        | none => rw [ho'] at h'; cases h'
        | some o' =>
          rw [ho] at h
          rw [ho'] at h'
          obtain ⟨m, hm⟩ := vs i (busy_of_out ho)
          obtain ⟨m', hm'⟩ := vs k (busy_of_out ho')
          simp only [hm, hm', Option.getD_some] at he
          subst he
          exact W.linj hm hm' ho ho' ((Option.some.inj h).trans (Option.some.inj h').symm)
theorem pack_loop (x2 x3 : Int32) : ∀ (L : Nat) (cs : CS) (n g r : OS) (k fu fu' : Nat), lcn cs = L → NB0 bo li mi sv cn cs n (blk g bb) → bb ≤ 924 → (∀ b, fbN li cs b ≤ cnt sv.testBit 8 ∧ lbN li cs b ≤ cnt sv.testBit 8) → k + L ≤ 48 → L < fu → L < fu' →
    ∃ (cs' : CS) (r' n' g' : OS), fX3_reroute_4 fu (0 : Int32) (nI k) r n = some ((0 : Int32), r', n') ∧ fX6_packs_160 (nI bb) x2 x3 fu' (eN (lft cs 48) (-1)) g = fX6_packs_188 g' (nI bb) x2 x3 ∧ r'.2 1 = r.2 1 ∧ FRM bb g g' ∧ NB0 bo li mi sv cn cs' n' (blk g' bb) ∧ (∀ j, num cs' j = num cs j) ∧ (∀ j, outl cs' j = outl cs j) ∧ lft cs' 48 = none ∧ n'.1 4 = n.1 4 ∧ n'.1 7 = n.1 7 ∧ n'.1 8 = n.1 8 := by
  intro L
  induction L with
  | zero =>
    intro cs n g r k fu fu' hL hN hbb hcap hk hfu hfu'
    obtain ⟨fu, rfl⟩ : ∃ f, fu = f + 1 := ⟨fu - 1, by omega⟩
    obtain ⟨fu', rfl⟩ : ∃ f, fu' = f + 1 := ⟨fu' - 1, by omega⟩
    obtain ⟨W, hR, hM, e4, e5, ep, e7, e8⟩ := hN
    have hl := lft_zero.mpr hL
    have hc : fX3_reroute_4 (fu + 1) (0 : Int32) (nI k) r n = some ((0 : Int32), r, setF n 8 (n.1 8 + (0 : Int32))) := by
      rw [fX3_reroute_4_s]
      by_cases h48 : k = 48
      · subst h48; rw [if_pos (by decide)]; rfl
      · rw [if_neg (ge48 (by omega)), c_lifted hR W, Option.bind_some, hl, eN_none, if_neg (by decide)]; rfl
    rw [hl, eN_none, fX6_packs_160_s, if_pos rfl]
    refine ⟨cs, r, _, g, hc, rfl, rfl, FRM.rfl, ⟨W, hR, hM, e4, e5, ep, e7, ?_⟩, fun _ => rfl, fun _ => rfl, hl, rfl, rfl, nI_add0 _⟩
    show n.1 8 + (0 : Int32) = _
    rw [nI_add0]; exact e8
  | succ L ih =>
    intro cs n g r k fu fu' hL hN hbb hcap hk hfu hfu'
    obtain ⟨fu, rfl⟩ : ∃ f, fu = f + 1 := ⟨fu - 1, by omega⟩
    obtain ⟨fu', rfl⟩ : ∃ f, fu' = f + 1 := ⟨fu' - 1, by omega⟩
    obtain ⟨W, hR, hM, -⟩ := id hN
    cases hl : lft cs 48 with
    | none => have := lft_zero.mp hl; omega
    | some x =>
      obtain ⟨hx48, hb, hx⟩ := lft_some hl
      obtain ⟨a, r', g', w1, w2, w3, w4, hor⟩ := one_route (r := r) hN hbb hb hx
      rw [fX3_reroute_4_s, if_neg (ge48 (by omega)), c_lifted hR W, Option.bind_some, hl, eN_some, if_pos (nI_pos' (by omega)), w1, Option.bind_some]
      rw [eN_some, fX6_packs_160_s, if_neg (nI_ne_of_neg (by omega) (by decide)), w2, Option.bind_some]
      rcases hor with ⟨-, ⟨o, ho, h0⟩, -⟩ | ⟨m, c, cs', n', ha, hm8, s1, hN', hlc, hnum, hout, hfl, h9, h8⟩
      · exfalso
        rcases h0 with h0 | h0
        · exact cap_F W hb hx (hcap (x / li)).1 h0
        · exact cap_L W hx ho (hcap (o / li)).2 h0
      · have h0a : (0 : Int32) ≤ a := by rw [ha]; exact nI_pos' (by omega)
        have hna : a ≠ (-4 : Int32) := by rw [ha]; exact nI_ne_of_neg (by omega) (by decide)
        rw [if_pos h0a, s1, Option.bind_some, if_neg hna]
        simp only [jn]
        obtain ⟨W', hR', hM', a4, a5, ap, a7, a8⟩ := id hN'
        rw [m_nextOff hM' W' hbb, Option.bind_some, nI_succ1 k]
        obtain ⟨cs2, r2, n2, g2, z1, z2, z3, z4, z5, z6, z7, z8, z9, za, zb⟩ := ih cs' (setF n' 9 (n'.1 9 + (1 : Int32))) g' r' (k + 1) fu fu' (by omega) ⟨W', hR', hM', a4, a5, ap, a7, a8⟩ hbb (fun b => by rw [fbN_congr hnum, lbN_congr hout]; exact hcap b) (by omega) (by omega) (by omega)
        exact ⟨cs2, r2, n2, g2, z1, z2, z3.trans w3, w4.trans z4, z5, fun j => (z6 j).trans (hnum j), fun j => (z7 j).trans (hout j), z8, z9.trans (hfl 4 (by decide)), za.trans (hfl 7 (by decide)), zb.trans (hfl 8 (by decide))⟩
theorem c_liftall {n r : OS} {x2 x3 : Int32} (hR : RC bo li mi sv2 cn cs n) (W : WF bo li mi sv cn cs) :
    ∃ n', fX3_repack_46 r x2 x3 FU (0 : Int32) n = Option.bind (fX3_reroute r n') (fun v6 => Option.bind (fX3_countChanged v6.2.1 (setF v6.2.2 3 x2)) (fun v7 => jn (x3 + v7) (fun w8 => some (v7, v6.2.1, setF (setF v6.2.2 3 x2) 9 w8)))) ∧ RC bo li mi sv2 cn (mapV cs (liS (fun _ => true) 48)) n' ∧ n'.1 = n.1 := by
  have key : ∀ (d k fu : Nat) (n1 : OS), 48 - k = d → k ≤ 48 → d < fu → RC bo li mi sv2 cn (mapV cs (liS (fun _ => true) k)) n1 → n1.1 = n.1 →
      ∃ n', fX3_repack_46 r x2 x3 fu (nI k) n1 = Option.bind (fX3_reroute r n') (fun v6 => Option.bind (fX3_countChanged v6.2.1 (setF v6.2.2 3 x2)) (fun v7 => jn (x3 + v7) (fun w8 => some (v7, v6.2.1, setF (setF v6.2.2 3 x2) 9 w8)))) ∧ RC bo li mi sv2 cn (mapV cs (liS (fun _ => true) 48)) n' ∧ n'.1 = n.1 := by
    intro d
    induction d with
    | zero =>
      intro k fu n1 hd hk hfu h1 h2
      obtain ⟨fu, rfl⟩ : ∃ f, fu = f + 1 := ⟨fu - 1, by omega⟩
      have hk : k = 48 := by omega
      subst hk
      rw [fX3_repack_46_s, if_pos (by decide)]
      exact ⟨n1, rfl, h1, h2⟩
    | succ d ih =>
      intro k fu n1 hd hk hfu h1 h2
      obtain ⟨fu, rfl⟩ : ∃ f, fu = f + 1 := ⟨fu - 1, by omega⟩
      rw [fX3_repack_46_s, if_neg (ge48 (by omega)), nI_succ1]
      simp only [jn]
      have g1 := c_liftS h1 W.liS (i := k) (by omega)
      rw [liS_next (sel := fun _ => true) (k := k) rfl] at g1
      exact ih (k + 1) fu _ (by omega) (by omega) (by omega) g1 (lift_fld.trans h2)
  exact key 48 0 FU n (by omega) (by omega) (FU_big (by omega)) (by rw [liS_zero]; exact hR) rfl
theorem m_liftall {g : OS} {x2 x3 : Int32} (hM : RM bo li mi sv2 cn cs (blk g bb)) (W : WF bo li mi sv cn cs) (hbb : bb ≤ 924) :
    ∃ g', fX6_packs_113 (nI bb) x2 x3 FU (0 : Int32) g = Option.bind (fX6_nextOff g' (nI bb)) (fun v11 => fX6_packs_160 (nI bb) x2 x3 FU v11 g') ∧ RM bo li mi sv2 cn (mapV cs (liS (fun _ => true) 48)) (blk g' bb) ∧ FR3 bb g g' ∧ SMB (blk g bb) (blk g' bb) ∧ ∀ j, j < bo * li → g'.2 3 j = blk g bb (10 + 3 * j + 2) := by
  have h48 := W.n48
  rw [liS_ext W]
  have key : ∀ (d k fu : Nat) (g1 : OS), bo * li - k = d → k ≤ bo * li → d < fu → RM bo li mi sv2 cn (mapV cs (liS (fun _ => true) k)) (blk g1 bb) → FR3 bb g g1 → SMB (blk g bb) (blk g1 bb) → (∀ j, j < k → g1.2 3 j = blk g bb (10 + 3 * j + 2)) → (∀ j, k ≤ j → blk g1 bb (10 + 3 * j + 2) = blk g bb (10 + 3 * j + 2)) →
      ∃ g', fX6_packs_113 (nI bb) x2 x3 fu (nI k) g1 = Option.bind (fX6_nextOff g' (nI bb)) (fun v11 => fX6_packs_160 (nI bb) x2 x3 FU v11 g') ∧ RM bo li mi sv2 cn (mapV cs (liS (fun _ => true) (bo * li))) (blk g' bb) ∧ FR3 bb g g' ∧ SMB (blk g bb) (blk g' bb) ∧ ∀ j, j < bo * li → g'.2 3 j = blk g bb (10 + 3 * j + 2) := by
    intro d
    induction d with
    | zero =>
      intro k fu g1 hd hk hfu h1 h2 h3 h4 h5
      obtain ⟨fu, rfl⟩ : ∃ f, fu = f + 1 := ⟨fu - 1, by omega⟩
      have hk : k = bo * li := by omega
      subst hk
      rw [fX6_packs_113_s, m_lines h1 hbb, Option.bind_some, if_pos (nI_le (Nat.le_refl _) (by omega))]
      exact ⟨g1, rfl, h1, h2, h3, h4⟩
    | succ d ih =>
      intro k fu g1 hd hk hfu h1 h2 h3 h4 h5
      obtain ⟨fu, rfl⟩ : ∃ f, fu = f + 1 := ⟨fu - 1, by omega⟩
      have hk48 : k < 48 := by omega
      rw [fX6_packs_113_s, m_lines h1 hbb, Option.bind_some, if_neg (nI_ge (by omega) (by omega)), m_of2 hbb hk48, Option.bind_some, if_pos (inb_nI hk48 (by decide)), nI_clamp (by omega), h5 k (Nat.le_refl _)]
      simp only [jn]
      rw [m_lay2 hbb hk48, Option.bind_some, nI_succ1]
      have h1' : RM bo li mi sv2 cn (mapV cs (liS (fun _ => true) k)) (blk (setR g1 3 (upd (g1.2 3) k (blk g bb (10 + 3 * k + 2)))) bb) := h1
      have hM' := h1'.lay2 hk48 none
      rw [liS_next (sel := fun _ => true) (k := k) rfl, ← blk_put, eN_none] at hM'
      refine ih (k + 1) fu _ (by omega) (by omega) (by omega) hM' ((h2.trans FR3.row).trans (FRM.put (by omega)).three) ?_ (fun j hj => ?_) (fun j hj => ?_)
      · rw [blk_put]; exact h3.trans (SMB.put (by omega))
      · rw [putS_r (by decide)]
        show upd (g1.2 3) k (blk g bb (10 + 3 * k + 2)) j = _
        by_cases hjk : j = k
        · rw [hjk, upd_s]
        · rw [upd_n hjk]; exact h4 j (by omega)
      · rw [blk_put, upd_n (by omega)]
        exact h5 j (by omega)
  exact key (bo * li) 0 FU g (by omega) (by omega) (FU_big (by omega)) (by rw [liS_zero]; exact hM) FRM.rfl.three SMB.rfl (fun j hj => by omega) (fun _ _ => rfl)
theorem c_changed {sv3 : Nat} {cs' : CS} {n r : OS} (hR : RC bo li mi sv3 cn cs' n) (W' : WF bo li mi sv2 cn cs') (W : WF bo li mi sv cn cs) (hr : ∀ j, j < 48 → r.2 1 j = eN (via cs j) (-6)) : fX3_countChanged r n = some (nI (cnt (fun j => !(via cs' j == via cs j)) 48)) := by
  unfold fX3_countChanged
  have h := iloop (fun k i (a : Int32) => fX3_countChanged_4 r n k a i) 48 (fun i a => a = nI (cnt (fun j => !(via cs' j == via cs j)) i)) (nI (cnt (fun j => !(via cs' j == via cs j)) 48)) ?_ ?_ FU 0 (0 : Int32) (by omega) (FU_big (by omega)) rfl
  · exact h
  · intro k i s hi hI
    subst hI
    refine Or.inl ⟨_, rfl, ?_⟩
    show fX3_countChanged_4 r n (k + 1) _ _ = fX3_countChanged_4 r n k _ _
    have hc : cnt (fun j => !(via cs' j == via cs j)) (i + 1) = cnt (fun j => !(via cs' j == via cs j)) i + (if (!(via cs' i == via cs i)) = true then 1 else 0) := rfl
    rw [fX3_countChanged_4_s, if_neg (ge48 hi), hR.r2 hi, rget_in hi (by decide), hr i hi, nI_succ1 i, hc]
    by_cases he : via cs' i = via cs i
    · rw [if_pos (show eN (via cs' i) (-6) = eN (via cs i) (-6) by rw [he]), nI_add0, if_neg (by simp [he])]; rfl
    · rw [if_neg (by rw [eN_inj m6 (fun k hk => by have := W'.via8 hk; omega) (fun k hk => by have := W.via8 hk; omega)]; exact he), nI_succ1, if_pos (by simp [he])]
  · intro k s hI
    subst hI
    show fX3_countChanged_4 r n (k + 1) _ _ = _
    rw [fX3_countChanged_4_s, if_pos (by decide)]
theorem m_changed {cs' : CS} {g : OS} {x2 x3 : Int32} (hM : RM bo li mi sv2 cn cs' (blk g bb)) (W' : WF bo li mi sv2 cn cs') (W : WF bo li mi sv cn cs) (hbb : bb ≤ 924) (hnum : ∀ j, num cs' j = num cs j) (hr : ∀ j, j < bo * li → busy cs j = true → g.2 3 j = eN (via cs j) (-1)) :
    fX6_packs_188 g (nI bb) x2 x3 = some (nI (cnt (fun j => !(via cs' j == via cs j)) 48), putS (putS g (bb + 9) x2) (bb + 8) (x3 + nI (cnt (fun j => !(via cs' j == via cs j)) 48))) := by
  have h48 := W.n48
  have hbs : ∀ j, busy cs j = busy cs' j := fun j => by rw [busy_iff_num, busy_iff_num, hnum]
  unfold fX6_packs_188
  rw [cnt_ext h48 (fun i h1 h2 => by
    cases hb : busy cs i with
    | true => have := W.lt hb; omega
    | false => rw [via_nobusy hb, via_nobusy (by rw [← hbs]; exact hb)]; rfl)]
  have h := iloop (fun k i (a : Int32) => fX6_packs_194 g (nI bb) x2 x3 k a i) (bo * li) (fun i a => a = nI (cnt (fun j => !(via cs' j == via cs j)) i)) (nI (cnt (fun j => !(via cs' j == via cs j)) (bo * li)), putS (putS g (bb + 9) x2) (bb + 8) (x3 + nI (cnt (fun j => !(via cs' j == via cs j)) (bo * li)))) ?_ ?_ FU 0 (0 : Int32) (by omega) (FU_big (by omega)) rfl
  · exact h
  · intro k i s hi hI
    subst hI
    refine Or.inl ⟨_, rfl, ?_⟩
    show fX6_packs_194 g (nI bb) x2 x3 (k + 1) _ _ = fX6_packs_194 g (nI bb) x2 x3 k _ _
    have hc : cnt (fun j => !(via cs' j == via cs j)) (i + 1) = cnt (fun j => !(via cs' j == via cs j)) i + (if (!(via cs' i == via cs i)) = true then 1 else 0) := rfl
    rw [fX6_packs_194_s, m_lines hM hbb, Option.bind_some, if_neg (nI_ge hi (by omega)), m_of0 hbb (by omega), Option.bind_some, nI_succ1 i, hc]
    by_cases hb : busy cs' i = true
    · rw [if_neg (by rw [m_numeq hM W' (by omega)]; simp [hb]), m_of2 hbb (by omega), Option.bind_some, if_pos (inb_nI (by omega) (by decide)), nI_clamp (by omega), hM.vi (by omega) hb, hr i hi (by rw [hbs]; exact hb)]
      by_cases he : via cs' i = via cs i
      · rw [if_pos (show eN (via cs' i) (-1) = eN (via cs i) (-1) by rw [he]), nI_add0, if_neg (by simp [he])]; rfl
      · rw [if_neg (by rw [eN_inj m1 (fun k hk => by have := W'.via8 hk; omega) (fun k hk => by have := W.via8 hk; omega)]; exact he), nI_succ1, if_pos (by simp [he])]
    · have hb : busy cs' i = false := by simpa using hb
      rw [if_pos ((m_numeq hM W' (by omega)).mpr hb), nI_add0, if_neg (by rw [via_nobusy hb, via_nobusy (by rw [hbs]; exact hb)]; simp)]; rfl
  · intro k s hI
    subst hI
    show fX6_packs_194 g (nI bb) x2 x3 (k + 1) _ _ = _
    rw [fX6_packs_194_s, m_lines hM hbb, Option.bind_some, if_pos (nI_le (Nat.le_refl _) (by omega)), if_pos (in_9 hbb)]
    simp only [jn]
    rw [if_pos (in_8 hbb), show nI bb + (9 : Int32) = nI bb + nI 9 from rfl, show nI bb + (8 : Int32) = nI bb + nI 8 from rfl, cl_k hbb (by decide), cl_k hbb (by decide)]
    rw [put_put]
theorem repack_sim {K : Nat} {n g r : OS} (h : SIM K n (blk g bb)) (hbb : bb ≤ 924) :
    ∃ (a : Int32) (r' n' g' : OS), fX3_repack r n = some (a, r', n') ∧ fX6_packs g (nI bb) = some (a, g') ∧ FR3 bb g g' ∧ ((a = (-6 : Int32) ∧ n' = n ∧ g' = g) ∨ ((0 : Int32) ≤ a ∧ SIM K n' (blk g' bb))) := by
  obtain ⟨bo, li, mi, sv, cn, cs, hcn, ⟨W, hR, hM, e4, e5, ep, e7, e8, e9⟩, hall⟩ := h.1
  have h4 := h.2
  have h8 := W.mi8
  have hc48 := cnt_le (busy cs) 48
  unfold fX3_repack fX6_packs
  rw [c_count hR W, Option.bind_some, m_calls hM W hbb, Option.bind_some]
  by_cases h0 : cnt (busy cs) 48 = 0
  · rw [if_pos ((nI0 (by omega)).mpr h0), if_pos ((nI0 (by omega)).mpr h0)]
    exact ⟨_, _, _, _, rfl, rfl, FRM.rfl.three, Or.inl ⟨rfl, rfl, rfl⟩⟩
  · have hne : ¬ nI (cnt (busy cs) 48) = (0 : Int32) := fun e => h0 ((nI0 (by omega)).mp e)
    have hL48 := lst_48 li cs bo
    obtain ⟨c, hc⟩ : ∃ c, c = lst li cs bo := ⟨_, rfl⟩
    have hcs := fb_sv W hall
    have hcle : c ≤ cnt sv.testBit 8 := by rw [hc]; exact lst_le hcs bo
    rw [if_neg hne, if_neg hne, c_least hR W, Option.bind_some, hR.f3, ← hc, c_low W.sv256 (by omega), Option.bind_some, if_pos (in_9 hbb), if_pos (in_8 hbb), m_least hM W hbb, Option.bind_some, ← hc, if_pos (in_9 hbb), m_sv hM hbb]
    simp only [jn]
    obtain ⟨i1, i2, i3, i4⟩ := lowT_inv sv c 8 (by omega)
    obtain ⟨sp, hsp⟩ : ∃ sp, sp = (lowT sv c 8).1 := ⟨_, rfl⟩
    have hpop : cnt sp.testBit 8 = c := by rw [hsp, i2, i4]; omega
    have hsub : ∀ m, sp.testBit m = true → sv.testBit m = true := by rw [hsp]; exact i3
    have hspl : sp < 2 ^ mi := Nat.lt_pow_two_of_testBit sp (fun i hi => by
      cases hb : sp.testBit i with
      | false => rfl
      | true => have := bit_ltmi W.svlt (hsub i hb); omega)
    have hf8 : ((g.2 0) (nI bb + (8 : Int32)).toNatClampNeg) = blk g bb 8 := m_fld (j := 8) hbb (by decide)
    rw [← hsp, hf8, show nI bb + (9 : Int32) = nI bb + nI 9 from rfl, put_fld hbb (by decide)]
    obtain ⟨g1, l1, l2, l3⟩ := m_low (w := sv) (c := c) (g := putS g (bb + 9) (0 : Int32)) (x3 := blk g bb 8) W.sv256 (by omega) hbb (by rw [blk_put, upd_s])
    rw [← hsp, blk_put, upd_upd] at l2
    have hM1 : RM bo li mi sp cn cs (blk g1 bb) := by rw [l2]; exact hM.sv sp
    have hR1 : RC bo li mi sp cn cs (setF n 3 (nI sp)) := hR.sv sp
    obtain ⟨n2, c1, c2, c3⟩ := c_liftall (r := setR r 1 (n.2 2)) (x2 := nI sv) (x3 := n.1 9) hR1 W
    obtain ⟨g2, m1, m2, m3, m4, m5⟩ := m_liftall (x2 := nI sv) (x3 := blk g bb 8) hM1 W hbb
    obtain ⟨cl, hcl⟩ : ∃ cl, cl = mapV cs (liS (fun _ => true) 48) := ⟨_, rfl⟩
    rw [← hcl] at c2 m2
    have nl : ∀ j, num cl j = num cs j := fun j => by rw [hcl]; exact num_mapV j
    have ol : ∀ j, outl cl j = outl cs j := fun j => by rw [hcl]; exact outl_mapV j
    have WL : WF bo li mi sp cn cl := by
      have W0 : WF bo li mi sv cn cl := by rw [hcl]; exact W.liS
      refine W0.sv' hspl (fun i k hk => ?_)
      rw [hcl] at hk
      have hk' := via_liS hk
      rw [via_liS_s (W.lt48 (busy_of_via hk')) rfl] at hk; cases hk
    have hN : NB0 bo li mi sp cn cl n2 (blk g2 bb) := by
      refine ⟨WL, c2, m2, ?_, ?_, ?_, ?_, ?_⟩
      · rw [c3, m4.1, l2, upd_n (by omega)]; exact e4
      · rw [c3, m4.2.1, l2, upd_n (by omega)]; exact e5
      · rw [m4.2.1, l2, upd_n (by omega)]; exact ep
      · rw [c3, m4.2.2.1, l2, upd_n (by omega)]; exact e7
      · rw [c3, m4.2.2.2, l2, upd_n (by omega)]; exact e8
    have hcap : ∀ b, fbN li cl b ≤ cnt sp.testBit 8 ∧ lbN li cl b ≤ cnt sp.testBit 8 := by
      intro b
      rw [fbN_congr nl, lbN_congr ol, hpop]
      by_cases hb : b < bo
      · rw [hc]; exact le_lst hb
      · have z1 : fbN li cs b = 0 := cnt_zero.mpr (fun i _ => by
          cases hi : busy cs i with
          | false => rfl
          | true =>
            have := div_lt (W.lt hi)
            have : i / li ≠ b := by omega
            simpa using this)
        have z2 : lbN li cs b = 0 := cnt_zero.mpr (fun i _ => by
          cases ho : outl cs i with
          | none => rfl
          | some o =>
            have := div_lt (W.outlt ho)
            have : o / li ≠ b := by omega
            simpa using this)
        omega
    have hlc := lcn_le cl
    obtain ⟨cs', r', n', g', z1, z2, z3, z4, z5, z6, z7, z8, z9, za, zb⟩ := pack_loop (nI sv) (blk g bb 8) (lcn cl) cl n2 g2 (setR r 1 (n.2 2)) 0 FU FU rfl hN hbb hcap (by omega) (FU_big (by omega)) (FU_big (by omega))
    obtain ⟨W', hR', hM', a4, a5, ap, a7, a8⟩ := z5
    have z1' : fX3_reroute (setR r 1 (n.2 2)) n2 = some ((0 : Int32), r', n') := z1
    have hr : ∀ j, j < 48 → r'.2 1 j = eN (via cs j) (-6) := fun j hj => by
      rw [z3]; exact hR.2.2.2.2.2.2.2.1 j hj
    have hnum : ∀ j, num cs' j = num cs j := fun j => (z6 j).trans (nl j)
    have hcc : fX3_countChanged r' (setF n' 3 (nI sv)) = some (nI (cnt (fun j => !(via cs' j == via cs j)) 48)) := c_changed (hR'.sv sv) W' W hr
    have hg3 : ∀ j, j < bo * li → busy cs j = true → g'.2 3 j = eN (via cs j) (-1) := by
      intro j hj hb
      have h48 := W.n48
      rw [z4.1 3 (by decide) (by decide), m5 j hj]
      exact hM1.vi (by omega) hb
    have hmc := m_changed (x2 := nI sv) (x3 := blk g bb 8) hM' W' W hbb hnum hg3
    rw [c1, z1', Option.bind_some]
    rw [hcc, Option.bind_some, l1, m1, m_nextOff m2 WL hbb, Option.bind_some, z2, hmc]
    have hM2 := (hM'.sv sv).put (k := 8) (x := blk g bb 8 + nI (cnt (fun j => !(via cs' j == via cs j)) 48)) (by omega)
    rw [← blk_put, ← blk_put] at hM2
    have WS : WF bo li mi sv cn cs' := W'.sv' W.svlt (fun i k hk => hsub k (W'.viasv hk))
    have hRS : RC bo li mi sv cn cs' (setF (setF n' 3 (nI sv)) 9 (n.1 9 + nI (cnt (fun j => !(via cs' j == via cs j)) 48))) := (hR'.sv sv).set9
    have hcl48 := cnt_le (fun j => !(via cs' j == via cs j)) 48
    refine ⟨_, _, _, _, rfl, rfl, ((((FRM.put (by omega)).trans l3).three.trans m3).trans z4.three).trans ((FRM.put (by omega)).trans (FRM.put (by omega))).three, Or.inr ⟨nI_pos' (by omega), ⟨bo, li, mi, sv, cn, cs', ⟨hcn.1, ext_num hcn.2 hnum (by show n'.1 6 = _; rw [hR'.f6, hR.f6]) (by show n'.1 7 = _; rw [za, c3]; rfl) (by show n'.1 8 = _; rw [zb, c3]; rfl)⟩, ⟨WS, hRS, hM2, ?_, ?_, ?_, ?_, ?_, ?_⟩, fun i hb hv => ?_⟩, by show (0 : Int32) ≤ n'.1 4; rw [z9, c3]; exact h4⟩⟩
    · rw [blk_put, blk_put, upd_n (by omega), upd_n (by omega)]; exact a4
    · rw [blk_put, blk_put, upd_n (by omega), upd_n (by omega)]; exact a5
    · rw [blk_put, blk_put, upd_n (by omega), upd_n (by omega)]; exact ap
    · rw [blk_put, blk_put, upd_n (by omega), upd_n (by omega)]; exact a7
    · rw [blk_put, blk_put, upd_n (by omega), upd_n (by omega)]; exact a8
    · rw [blk_put, blk_put, upd_s, ← e9]; rfl
    · exact lft_none z8 i (WS.lt48 hb) hb hv
end PK
