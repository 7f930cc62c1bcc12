/-! calls off their links find ways in the order of their numbers -/
theorem cnt_dec {p q : Nat → Bool} {x : Nat} (hp : p x = true) (hq : q x = false) (h : ∀ j, j ≠ x → p j = q j) : ∀ {N : Nat}, x < N → cnt p N = cnt q N + 1
  | 0, hx => by omega
  | N + 1, hx => by
    show cnt p N + (if p N = true then 1 else 0) = cnt q N + (if q N = true then 1 else 0) + 1
    by_cases he : N = x
    · subst he
      have : cnt p N = cnt q N := cnt_congr (fun i hi => h i (by omega))
      rw [hp, hq, this]; rfl
    · rw [cnt_dec hp hq h (N := N) (by omega), h N he]
      omega
def off (cs : CS) (i : Nat) : Bool := busy cs i && (via cs i).isNone
def lcn (cs : CS) : Nat := cnt (off cs) 48
theorem off_iff {cs : CS} {i : Nat} : off cs i = true ↔ busy cs i = true ∧ via cs i = none := by
  unfold off; simp
theorem lcn_le (cs : CS) : lcn cs ≤ 48 := cnt_le _ _
theorem lft_step (cs : CS) (k : Nat) : lft cs (k + 1) = (if off cs k = true then (match lft cs k with
      | none => some k
      | some f => if (num cs f).getD 0 ≤ (num cs k).getD 0 then some f else some k) else lft cs k) := rfl
theorem lft_ext {cs : CS} {a b : Nat} (hab : a ≤ b) (h : ∀ i, a ≤ i → i < b → busy cs i = false) : lft cs b = lft cs a := by
  induction b with
  | zero => have : a = 0 := by omega
            rw [this]
  | succ b ih =>
    by_cases he : a = b + 1
    · rw [he]
    · rw [lft_step, if_neg, ih (by omega) (fun i h1 h2 => h i h1 (by omega))]
      rw [off_iff, h b (by omega) (by omega)]; simp
theorem lft_zero {cs : CS} : lft cs 48 = none ↔ lcn cs = 0 := by
  unfold lcn
  rw [cnt_zero]
  constructor
  · intro h i hi
    have := lft_none h i hi
    cases ho : off cs i with
    | false => rfl
    | true => rw [off_iff] at ho; exact absurd ho.2 (this ho.1)
  · intro h
    cases hl : lft cs 48 with
    | none => rfl
    | some f =>
      obtain ⟨h1, h2, h3⟩ := lft_some hl
      have := h f h1
      rw [off_iff.mpr ⟨h2, h3⟩] at this; cases this
section NO
variable {bo li mi sv cn : Nat} {cs : CS} {bb : Nat}
theorem m_nextOff {g : OS} (hM : RM bo li mi sv cn cs (blk g bb)) (W : WF bo li mi sv cn cs) (hbb : bb ≤ 924) : fX6_nextOff g (nI bb) = some (eN (lft cs 48) (-1)) := by
  unfold fX6_nextOff
  have hn := W.n48
  rw [lft_ext hn (fun i h1 h2 => by
    cases hbi : busy cs i with
    | false => rfl
    | true => have := W.lt hbi; omega)]
  have h := iloop (fun k i (a : Int32) => fX6_nextOff_4 g (nI bb) k a i) (bo * li) (fun i a => a = eN (lft cs i) (-1)) (eN (lft cs (bo * li)) (-1)) ?_ ?_ FU 0 (-1 : Int32) (by omega) (FU_big (by omega)) rfl
  · exact h
  · intro k i s hi hI
    subst hI
    refine Or.inl ⟨_, rfl, ?_⟩
    show fX6_nextOff_4 g (nI bb) (k + 1) _ _ = fX6_nextOff_4 g (nI bb) k _ _
    rw [fX6_nextOff_4_s, m_lines hM hbb, Option.bind_some, if_neg (nI_ge hi (by omega)), m_of0 hbb (by omega), Option.bind_some, nI_succ1]
    have hoff : (if blk g bb (10 + 3 * i) = (-1 : Int32) then some (0 : Int32) else Option.bind (fX6_of g (nI bb) (nI i) (2 : Int32)) (fun v5 => if v5 = (-1 : Int32) then some (1 : Int32) else some (0 : Int32))) = some (if off cs i = true then (1 : Int32) else (0 : Int32)) := by
      by_cases hb : busy cs i = true
      · rw [if_neg (by rw [m_numeq hM W (by omega)]; simp [hb]), m_of2 hbb (by omega), Option.bind_some, hM.vi (by omega) hb]
        cases hv : via cs i with
        | none => rw [eN_none, if_pos rfl, if_pos (off_iff.mpr ⟨hb, hv⟩)]
        | some v => rw [eN_some, if_neg (nI_ne_of_neg (by have := W.via8 hv; omega) (by decide)), if_neg (by rw [off_iff, hv]; simp)]
      · rw [if_pos ((m_numeq hM W (by omega)).mpr (by simpa using hb)), if_neg (by rw [off_iff]; exact fun h => hb h.1)]
    rw [hoff, Option.bind_some]
    have hd := lft_step cs i
    by_cases ho : off cs i = true
    · rw [if_pos ho] at hd
      rw [if_pos ho, if_neg ne10]
      obtain ⟨hb, hv⟩ := off_iff.mp ho
      cases hl : lft cs i with
      | none =>
        rw [hl] at hd
        rw [hd, eN_none, if_pos rfl]; rfl
      | some f =>
        obtain ⟨hf, hbf, -⟩ := lft_some hl
        rw [hl] at hd
        have hd : lft cs (i + 1) = if (num cs f).getD 0 ≤ (num cs i).getD 0 then some f else some i := hd
        obtain ⟨a, ha⟩ := num_of_busy hbf
        obtain ⟨b, hb2⟩ := num_of_busy hb
        rw [ha, hb2, Option.getD_some, Option.getD_some] at hd
        rw [hd, eN_some, if_neg (nI_ne_of_neg (by omega) (by decide)), Option.bind_some, m_of0 hbb (by omega), Option.bind_some, hM.nm (by omega), hM.nm (by omega), ha, hb2, eN_some, eN_some]
        by_cases hab : a ≤ b
        · rw [if_pos (nI_le hab (W.num31 hb2)), if_pos hab]; rfl
        · rw [if_neg (nI_ge (by omega) (W.num31 ha)), if_neg hab]; rfl
    · rw [if_neg ho] at hd
      rw [if_neg ho, if_pos rfl, hd]
  · intro k s hI
    subst hI
    show fX6_nextOff_4 g (nI bb) (k + 1) _ _ = _
    rw [fX6_nextOff_4_s, m_lines hM hbb, Option.bind_some, if_pos (nI_le (Nat.le_refl _) (by omega))]
theorem lcn_route {cs' : CS} {x m : Nat} (hx48 : x < 48) (hb : busy cs x = true) (hx : via cs x = none) (hn : ∀ j, num cs' j = num cs j) (h7 : via cs' x = some m) (h8 : ∀ j, j ≠ x → (via cs' j = none ↔ via cs j = none)) : lcn cs = lcn cs' + 1 := by
  unfold lcn
  refine cnt_dec (x := x) (off_iff.mpr ⟨hb, hx⟩) ?_ (fun j hj => ?_) hx48
  · cases ho : off cs' x with
    | false => rfl
    | true => rw [off_iff, h7] at ho; cases ho.2
  · have e : off cs j = true ↔ off cs' j = true := by
      rw [off_iff, off_iff, h8 j hj, busy_iff_num, busy_iff_num, hn]
    cases h1 : off cs j <;> cases h2 : off cs' j <;> simp_all
theorem lcn_del {x : Nat} (hx48 : x < 48) (hb : busy cs x = true) (hx : via cs x = none) : lcn cs = lcn (delC cs x) + 1 := by
  unfold lcn
  refine cnt_dec (x := x) (off_iff.mpr ⟨hb, hx⟩) ?_ (fun j hj => ?_) hx48
  · unfold off; rw [busy_delC, if_pos rfl]; rfl
  · unfold off; rw [busy_delC, via_delC, if_neg hj, if_neg hj]
/-- without the counter moved -/
def NB0 (bo li mi sv cn : Nat) (cs : CS) (n : OS) (B : Nat → Int32) : Prop :=
  WF bo li mi sv cn cs ∧ RC bo li mi sv cn cs n ∧ RM bo li mi sv cn cs B ∧ n.1 4 = B 3 ∧ n.1 5 = B 4 ∧ (B 4 = (0 : Int32) ∨ B 4 = (1 : Int32)) ∧ n.1 7 = B 6 ∧ n.1 8 = B 7
theorem NB_iff {n : OS} {B : Nat → Int32} : NB bo li mi sv cn cs n B ↔ NB0 bo li mi sv cn cs n B ∧ n.1 9 = B 8 := by
  unfold NB NB0
  constructor
  · intro ⟨a, b, c, d, e, f, g, h, i⟩; exact ⟨⟨a, b, c, d, e, f, g, h⟩, i⟩
  · intro ⟨⟨a, b, c, d, e, f, g, h⟩, i⟩; exact ⟨a, b, c, d, e, f, g, h, i⟩
/-- one call off its links is routed -/
theorem one_route {n g r : OS} {x : Nat} (hN : NB0 bo li mi sv cn cs n (blk g bb)) (hbb : bb ≤ 924) (hb : busy cs x = true) (hx : via cs x = none) :
    ∃ (a : Int32) (r' g' : OS), fX3_findWay r n (nI x) (rget (n.2 1) 48 (nI x)) = some (a, r') ∧ fX6_routes g (nI bb) (nI x) = some (a, g') ∧ r'.2 1 = r.2 1 ∧ FRM bb g g' ∧
      ((a = (-4 : Int32) ∧ (∃ o, outl cs x = some o ∧ (frF li mi sv cs (x / li) = 0 ∨ frL li mi sv cs (o / li) = 0)) ∧ NB0 bo li mi sv cn cs n (blk g' bb) ∧ blk g' bb 8 = blk g bb 8) ∨
       ∃ (m c : Nat) (cs' : CS) (n' : OS), a = nI m ∧ m < 8 ∧ fX3_settle r' n (nI x) a = some n' ∧ NB0 bo li mi sv cn cs' n' (blk g' bb) ∧ lcn cs = lcn cs' + 1 ∧ (∀ j, num cs' j = num cs j) ∧ (∀ j, outl cs' j = outl cs j) ∧ (∀ k, k ≠ 9 → n'.1 k = n.1 k) ∧ n'.1 9 = n.1 9 + nI c ∧ blk g' bb 8 = blk g bb 8 + nI c) := by
  obtain ⟨W, hR, hM, e4, e5, ep, e7, e8⟩ := hN
  have hx48 := W.lt48 hb
  obtain ⟨o, ho⟩ := out_of_busy hb
  obtain ⟨a, r', g', w1, w2, w3, w4, w5, hor⟩ := route (r := r) (o := o) hR W hR W hM hbb (fun _ => rfl) (fun _ _ => rfl) (fun _ _ => rfl) (fun _ _ => rfl) (W.lt hb) hx ho e4 e5 ep
  refine ⟨a, r', g', by rw [hR.r1 hx48, ho]; exact w1, w2, w3, w4, ?_⟩
  rcases hor with ⟨ha, h2, h3, -, -, h6⟩ | ⟨m, c, cs', n', ha, hm8, s1, s2, s3, s4, s5, s6, s7, s8, s9, s10, -⟩
  · exact Or.inl ⟨ha, ⟨o, ho, h2⟩, ⟨W, hR, h3, by rw [w5.1]; exact e4, by rw [w5.2.1]; exact e5, by rw [w5.2.1]; exact ep, by rw [w5.2.2.1]; exact e7, by rw [w5.2.2.2]; exact e8⟩, h6⟩
  · refine Or.inr ⟨m, c, cs', n', ha, hm8, by rw [ha]; exact s1, ⟨s3, s2, s4, ?_, ?_, ?_, ?_, ?_⟩, lcn_route hx48 hb hx s5 s7 s8, s5, s6, fun k hk => by rw [s9, upd_n hk], by rw [s9, upd_s], s10⟩
    · rw [s9, upd_n (by decide), w5.1]; exact e4
    · rw [s9, upd_n (by decide), w5.2.1]; exact e5
    · rw [w5.2.1]; exact ep
    · rw [s9, upd_n (by decide), w5.2.2.1]; exact e7
    · rw [s9, upd_n (by decide), w5.2.2.2]; exact e8
/-- .. while d calls were dropped that are not counted yet -/
def EXD (cs : CS) (n : OS) (d : Nat) : Prop := INJ cs ∧ n.1 6 = nI (cnt (busy cs) 48) + nI d + n.1 7 + n.1 8
theorem exd_num {cs cs' : CS} {n n' : OS} {d : Nat} (h : EXD cs n d) (hn : ∀ j, num cs' j = num cs j) (e6 : n'.1 6 = n.1 6) (e7 : n'.1 7 = n.1 7) (e8 : n'.1 8 = n.1 8) : EXD cs' n' d := by
  refine ⟨fun a b c ha hb => h.1 a b c (by rw [← hn]; exact ha) (by rw [← hn]; exact hb), ?_⟩
  rw [e6, e7, e8, h.2, cnt_congr (fun i _ => show busy cs' i = busy cs i by rw [busy_iff_num, busy_iff_num, hn])]
theorem exd_del {i d : Nat} {cs : CS} {n n' : OS} (h : EXD cs n d) (hi : i < 48) (hb : busy cs i = true) (e6 : n'.1 6 = n.1 6) (e7 : n'.1 7 = n.1 7) (e8 : n'.1 8 = n.1 8) : EXD (delC cs i) n' (d + 1) := by
  refine ⟨del_inj h.1, ?_⟩
  rw [e6, e7, e8, h.2, del_cnt hi hb, ← nI_succ1, ← nI_succ1]
  exact ar3 _ _ _ _
theorem exd_zero {cs : CS} {n : OS} : EXD cs n 0 ↔ EXT cs n := by
  unfold EXD EXT
  rw [show nI 0 = (0 : Int32) from rfl, nI_add0]
theorem exd_end {cs : CS} {n n' : OS} {d : Nat} (h : EXD cs n d) (e6 : n'.1 6 = n.1 6) (e7 : n'.1 7 = n.1 7) (e8 : n'.1 8 = n.1 8 + nI d) : EXT cs n' := by
  refine ⟨h.1, ?_⟩
  rw [e6, e7, e8, h.2]
  exact ar4 _ _ _ _
theorem reroute_sim : ∀ (L : Nat) (cs : CS) (n g r : OS) (d k fu fu' : Nat), lcn cs = L → NB bo li mi sv cn cs n (blk g bb) → EXD cs n d → (0 : Int32) ≤ n.1 4 → bb ≤ 924 → k + L ≤ 48 → d + L ≤ 48 → L < fu → L < fu' →
    ∃ (d' : Nat) (r' n' g' : OS), d' ≤ 48 ∧ fX3_reroute_4 fu (nI d) (nI k) r n = some (nI d', r', n') ∧ fX6_takesOut_100 (nI bb) fu' (nI d) (eN (lft cs 48) (-1)) g = some (nI d', g') ∧ r'.2 1 = r.2 1 ∧ FRM bb g g' ∧ SIM cn n' (blk g' bb) := by
  intro L
  induction L with
  | zero =>
    intro cs n g r d k fu fu' hL hN hE h4 hbb hk hd hfu hfu'
    obtain ⟨fu, rfl⟩ : ∃ f, fu = f + 1 := ⟨fu - 1, by omega⟩
    obtain ⟨fu', rfl⟩ : ∃ f, fu' = f + 1 := ⟨fu' - 1, by omega⟩
    obtain ⟨W, hR, hM, e4, e5, ep, e7, e8, e9⟩ := hN
    have hl := lft_zero.mpr hL
    have hc : fX3_reroute_4 (fu + 1) (nI d) (nI k) r n = some (nI d, r, setF n 8 (n.1 8 + nI d)) := by
      rw [fX3_reroute_4_s]
      by_cases h48 : k = 48
      · subst h48; rw [if_pos (by decide)]; rfl
      · rw [if_neg (ge48 (by omega)), c_lifted hR W, Option.bind_some, hl, eN_none, if_neg (by decide)]; rfl
    rw [hl, eN_none, fX6_takesOut_100_s, if_pos rfl, if_pos (in_7 hbb), if_pos (in_7 hbb)]
    simp only [jn]
    rw [show nI bb + (7 : Int32) = nI bb + nI 7 from rfl, put_fld hbb (by decide), m_fld hbb (by decide)]
    refine ⟨d, r, _, _, by omega, hc, rfl, rfl, FRM.put (by omega), ⟨bo, li, mi, sv, cn, cs, ⟨Nat.le_refl _, exd_end hE rfl rfl rfl⟩, ⟨W, hR, ?_, ?_, ?_, ?_, ?_, ?_, ?_⟩, fun i hb hv => ?_⟩, h4⟩
    · rw [blk_put]; exact hM.put (by omega)
    · rw [blk_put, upd_n (by omega)]; exact e4
    · rw [blk_put, upd_n (by omega)]; exact e5
    · rw [blk_put, upd_n (by omega)]; exact ep
    · rw [blk_put, upd_n (by omega)]; exact e7
    · rw [blk_put, upd_s, ← e8]; rfl
    · rw [blk_put, upd_n (by omega)]; exact e9
    · exact lft_none hl i (W.lt48 hb) hb hv
  | succ L ih =>
    intro cs n g r d k fu fu' hL hN hE h4 hbb hk hd hfu hfu'
    obtain ⟨fu, rfl⟩ : ∃ f, fu = f + 1 := ⟨fu - 1, by omega⟩
    obtain ⟨fu', rfl⟩ : ∃ f, fu' = f + 1 := ⟨fu' - 1, by omega⟩
    obtain ⟨hN0, e9⟩ := NB_iff.mp hN
    obtain ⟨W, hR, hM, -⟩ := hN
    cases hl : lft cs 48 with
    | none => have := lft_zero.mp hl; omega
    | some x =>
      obtain ⟨hx48, hb, hx⟩ := lft_some hl
      obtain ⟨a, r', g', w1, w2, w3, w4, hor⟩ := one_route (r := r) hN0 hbb hb hx
      rw [fX3_reroute_4_s, if_neg (ge48 (by omega)), c_lifted hR W, Option.bind_some, hl, eN_some, if_pos (nI_pos' (by omega)), w1, Option.bind_some]
      rw [eN_some, fX6_takesOut_100_s, if_neg (nI_ne_of_neg (by omega) (by decide)), w2, Option.bind_some]
      rcases hor with ⟨ha, -, hN', h8⟩ | ⟨m, c, cs', n', ha, hm8, s1, hN', hlc, hnum, hout, hfl, h9, h8⟩
      · have hna : ¬ (0 : Int32) ≤ a := by rw [ha]; decide
        rw [if_neg hna, if_pos ha, m_lay0 hbb hx48, Option.bind_some, Option.bind_some]
        simp only [jn]
        obtain ⟨hR', hf'⟩ := c_del hR W hx48 hb
        obtain ⟨-, -, hM1, a4, a5, ap, a7, a8⟩ := hN'
        have hM' := hM1.lay0 hx48
        rw [← blk_put] at hM'
        have W' := W.del (i := x)
        have hlc := lcn_del hx48 hb hx
        rw [m_nextOff hM' W' hbb, Option.bind_some, nI_succ1, nI_succ1]
        obtain ⟨d', r2, n2, g2, z0, z1, z2, z3, z4, z5⟩ := ih (delC cs x) (fX1_removeCall n (nI x)) (putS g' (bb + (10 + 3 * x)) (-1 : Int32)) r' (d + 1) (k + 1) fu fu' (by omega) ⟨W', hR', hM', by rw [hf', blk_put, upd_n (by omega)]; exact a4, by rw [hf', blk_put, upd_n (by omega)]; exact a5, by rw [blk_put, upd_n (by omega)]; exact ap, by rw [hf', blk_put, upd_n (by omega)]; exact a7, by rw [hf', blk_put, upd_n (by omega)]; exact a8, by rw [hf', blk_put, upd_n (by omega), h8]; exact e9⟩ (exd_del hE hx48 hb (by rw [hf']) (by rw [hf']) (by rw [hf'])) (by rw [hf']; exact h4) hbb (by omega) (by omega) (by omega) (by omega)
        exact ⟨d', r2, n2, g2, z0, z1, z2, z3.trans w3, (w4.trans (FRM.put (by omega))).trans z4, z5⟩
      · have h0a : (0 : Int32) ≤ a := by rw [ha]; exact nI_pos' (by omega)
        have hna : a ≠ (-4 : Int32) := by rw [ha]; exact nI_ne_of_neg (by omega) (by decide)
        rw [if_pos h0a, s1, Option.bind_some, if_neg hna, if_pos (in_8 hbb), if_pos (in_8 hbb)]
        simp only [jn]
        rw [show nI bb + (8 : Int32) = nI bb + nI 8 from rfl, put_fld hbb (by decide), m_fld hbb (by decide), Option.bind_some]
        obtain ⟨W', hR', hM1, a4, a5, ap, a7, a8⟩ := hN'
        have hM' := hM1.put (k := 8) (x := blk g' bb 8 + (1 : Int32)) (by omega)
        rw [← blk_put] at hM'
        rw [m_nextOff hM' W' hbb, Option.bind_some, nI_succ1]
        obtain ⟨d', r2, n2, g2, z0, z1, z2, z3, z4, z5⟩ := ih cs' (setF n' 9 (n'.1 9 + (1 : Int32))) (putS g' (bb + 8) (blk g' bb 8 + (1 : Int32))) r' d (k + 1) fu fu' (by omega) ⟨W', hR', hM', by rw [blk_put, upd_n (by omega)]; exact a4, by rw [blk_put, upd_n (by omega)]; exact a5, by rw [blk_put, upd_n (by omega)]; exact ap, by rw [blk_put, upd_n (by omega)]; exact a7, by rw [blk_put, upd_n (by omega)]; exact a8, by
          rw [blk_put, upd_s, h8, ← e9, ← h9]; rfl⟩ (exd_num hE hnum (hfl 6 (by decide)) (hfl 7 (by decide)) (hfl 8 (by decide))) (by show (0 : Int32) ≤ n'.1 4; rw [hfl 4 (by decide)]; exact h4) hbb (by omega) (by omega) (by omega) (by omega)
        exact ⟨d', r2, n2, g2, z0, z1, z2, z3.trans w3, (w4.trans (FRM.put (by omega))).trans z4, z5⟩
end NO
