/-! chains: calls by turns on p and on q, from the last board t -/
def pq (p q k : Nat) : Nat := if k % 2 = 0 then p else q
def nxt (li : Nat) (cs : CS) (p q k i : Nat) : Option Nat := if k % 2 = 0 then lkF li cs (i / li) q else (outl cs i).bind (fun o => lkL li cs p (o / li))
def chn (li : Nat) (cs : CS) (p q t : Nat) : Nat → Option Nat
  | 0 => lkL li cs p t
  | k + 1 => (chn li cs p q t k).bind (nxt li cs p q k)
theorem chn_s {li : Nat} {cs : CS} {p q t k : Nat} : chn li cs p q t (k + 1) = (chn li cs p q t k).bind (nxt li cs p q k) := rfl
def clen (li : Nat) (cs : CS) (p q t : Nat) : Nat := (findI (fun k => (chn li cs p q t k).isNone) 17).getD 0
theorem mod2 (k : Nat) : k % 2 = 0 ∨ k % 2 = 1 := by omega
section CH
variable {bo li mi sv cn : Nat} {cs : CS} {p q t : Nat}
theorem chn_pred {k i : Nat} (h : chn li cs p q t (k + 1) = some i) : ∃ i', chn li cs p q t k = some i' ∧ nxt li cs p q k i' = some i := by
  rw [chn_s] at h
  cases hc : chn li cs p q t k with
  | none => rw [hc] at h; cases h
  | some i' => rw [hc] at h; exact ⟨i', rfl, h⟩
theorem nxt_even {k i : Nat} (h : k % 2 = 0) : nxt li cs p q k i = lkF li cs (i / li) q := if_pos h
theorem nxt_odd {k i o : Nat} (h : k % 2 = 1) (ho : outl cs i = some o) : nxt li cs p q k i = lkL li cs p (o / li) := by
  unfold nxt; rw [if_neg (by omega), ho]; rfl
theorem pq_even {k : Nat} (h : k % 2 = 0) : pq p q k = p := if_pos h
theorem pq_odd {k : Nat} (h : k % 2 = 1) : pq p q k = q := if_neg (by omega)
/-- what an odd step says -/
theorem nxt_odd' (W : WF bo li mi sv cn cs) {k i j : Nat} (h : k % 2 = 1) (hn : nxt li cs p q k i = some j) : ∃ o o', outl cs i = some o ∧ outl cs j = some o' ∧ o' / li = o / li ∧ via cs j = some p := by
  unfold nxt at hn
  rw [if_neg (by omega)] at hn
  cases ho : outl cs i with
  | none => rw [ho] at hn; cases hn
  | some o =>
    rw [ho] at hn
    have hn : lkL li cs p (o / li) = some j := hn
    obtain ⟨h1, o', h2, h3⟩ := W.lL.mp hn
    exact ⟨o, o', rfl, h2, h3, h1⟩
theorem nxt_even' (W : WF bo li mi sv cn cs) {k i j : Nat} (h : k % 2 = 0) (hn : nxt li cs p q k i = some j) : j / li = i / li ∧ via cs j = some q := by
  rw [nxt_even h] at hn
  obtain ⟨h1, h2⟩ := W.lF.mp hn
  exact ⟨h2, h1⟩
theorem chn_via (W : WF bo li mi sv cn cs) : ∀ {k i : Nat}, chn li cs p q t k = some i → via cs i = some (pq p q k)
  | 0, i, h => (W.lL.mp h).1
  | k + 1, i, h => by
    obtain ⟨i', -, h2⟩ := chn_pred h
    rcases mod2 k with hk | hk
    · rw [pq_odd (by omega)]; exact (nxt_even' W hk h2).2
    · rw [pq_even (by omega)]
      obtain ⟨o, o', -, -, -, h3⟩ := nxt_odd' W hk h2
      exact h3
/-- the first place is on t; no later place on p reaches t -/
theorem chn_inj (W : WF bo li mi sv cn cs) (hpq : p ≠ q) (hq : lkL li cs q t = none) : ∀ (j k : Nat), j ≤ k → ∀ i, chn li cs p q t j = some i → chn li cs p q t k = some i → j = k
  | 0, 0, _, _, _, _ => rfl
  | 0, k + 1, _, i, h0, hk => by
    exfalso
    have e0 := chn_via W h0
    have ek := chn_via W hk
    rw [e0] at ek
    have hpar : k % 2 = 1 := by
      rcases mod2 k with hh | hh
      · rw [pq_odd (k := k + 1) (by omega), pq_even (k := 0) (by omega)] at ek
        exact absurd (Option.some.inj ek) hpq
      · exact hh
    obtain ⟨i', h1, h2⟩ := chn_pred hk
    obtain ⟨o, o', g1, g2, g3, -⟩ := nxt_odd' W hpar h2
    obtain ⟨-, o2, g4, g5⟩ := W.lL.mp h0
    have e1 := chn_via W h1
    rw [pq_odd hpar] at e1
    rw [g2] at g4
    cases g4
    exact W.lL_none.mp hq i' o e1 g1 (by rw [← g3]; exact g5)
  | j + 1, 0, h, _, _, _ => by omega
  | j + 1, k + 1, hjk, i, hj, hk => by
    have ej := chn_via W hj
    have ek := chn_via W hk
    rw [ej] at ek
    have ek := Option.some.inj ek
    obtain ⟨a, a1, a2⟩ := chn_pred hj
    obtain ⟨b, b1, b2⟩ := chn_pred hk
    have va := chn_via W a1
    have vb := chn_via W b1
    have hab : a = b := by
      rcases mod2 j with hj2 | hj2
      · rcases mod2 k with hk2 | hk2
        · have f1 := (nxt_even' W hj2 a2).1
          have f2 := (nxt_even' W hk2 b2).1
          rw [pq_even hj2] at va
          rw [pq_even hk2] at vb
          exact W.finj va vb (by rw [← f1, ← f2])
        · rw [pq_odd (k := j + 1) (by omega), pq_even (k := k + 1) (by omega)] at ek
          exact absurd ek.symm hpq
      · rcases mod2 k with hk2 | hk2
        · rw [pq_even (k := j + 1) (by omega), pq_odd (k := k + 1) (by omega)] at ek
          exact absurd ek hpq
        · obtain ⟨o, o', g1, g2, g3, -⟩ := nxt_odd' W hj2 a2
          obtain ⟨u, u', g4, g5, g6, -⟩ := nxt_odd' W hk2 b2
          rw [g2] at g5; cases g5
          rw [pq_odd hj2] at va
          rw [pq_odd hk2] at vb
          exact W.linj va vb g1 g4 (by rw [← g3, ← g6])
    subst hab
    have := chn_inj W hpq hq j k (by omega) a a1 b1
    omega
theorem chn_down {k : Nat} : ∀ {d i : Nat}, chn li cs p q t (k + d) = some i → ∃ i', chn li cs p q t k = some i'
  | 0, i, h => ⟨i, h⟩
  | d + 1, i, h => by
    obtain ⟨i', h1, -⟩ := chn_pred (k := k + d) h
    exact chn_down h1
theorem chn_16 (W : WF bo li mi sv cn cs) (hpq : p ≠ q) (hq : lkL li cs q t = none) : chn li cs p q t 16 = none := by
  cases h : chn li cs p q t 16 with
  | none => rfl
  | some i =>
    exfalso
    have all : ∀ k, k ≤ 16 → ∃ i', chn li cs p q t k = some i' := fun k hk => chn_down (d := 16 - k) (by rw [Nat.add_sub_cancel' hk]; exact h)
    have hc : cnt (fun _ => true) 9 ≤ 8 := by
      refine cnt_inj (fun k => (chn li cs p q t (2 * k)).getD 0 / li) (fun k hk _ => ?_) (fun k j hk hj _ _ he => ?_)
      · obtain ⟨i', hi'⟩ := all (2 * k) (by omega)
        show (chn li cs p q t (2 * k)).getD 0 / li < 8
        rw [hi', Option.getD_some]
        have := div_lt (W.lt (busy_of_via (chn_via W hi')))
        have := W.bo8
        omega
      · obtain ⟨i1, h1⟩ := all (2 * k) (by omega)
        obtain ⟨i2, h2⟩ := all (2 * j) (by omega)
        have he : (chn li cs p q t (2 * k)).getD 0 / li = (chn li cs p q t (2 * j)).getD 0 / li := he
        rw [h1, h2, Option.getD_some, Option.getD_some] at he
        have v1 := chn_via W h1
        have v2 := chn_via W h2
        rw [pq_even (by omega)] at v1 v2
        have hi := W.finj v1 v2 he
        subst hi
        rcases Nat.le_total k j with hkj | hkj
        · have := chn_inj W hpq hq (2 * k) (2 * j) (by omega) i1 h1 h2; omega
        · have := chn_inj W hpq hq (2 * j) (2 * k) (by omega) i1 h2 h1; omega
    have h9 : cnt (fun _ => true) 9 = 9 := by decide
    omega
theorem clen_spec (W : WF bo li mi sv cn cs) (hpq : p ≠ q) (hq : lkL li cs q t = none) : clen li cs p q t ≤ 16 ∧ chn li cs p q t (clen li cs p q t) = none ∧ ∀ k, k < clen li cs p q t → ∃ i, chn li cs p q t k = some i := by
  unfold clen
  cases hf : findI (fun k => (chn li cs p q t k).isNone) 17 with
  | none =>
    have := findI_none.mp hf 16 (by omega)
    rw [chn_16 W hpq hq] at this
    cases this
  | some c =>
    obtain ⟨h1, h2, h3⟩ := findI_some hf
    rw [Option.getD_some]
    refine ⟨by omega, by simpa using h2, fun k hk => ?_⟩
    have := h3 k hk
    cases hc : chn li cs p q t k with
    | none => rw [hc] at this; cases this
    | some i => exact ⟨i, rfl⟩
theorem chn_48 (W : WF bo li mi sv cn cs) {k i : Nat} (h : chn li cs p q t k = some i) : i < 48 := W.lt48 (busy_of_via (chn_via W h))
theorem par2 {k : Nat} (h : k < 2 ^ 31) : nI k - nI k / (2 : Int32) * (2 : Int32) = nI (k % 2) := pk_rem (d := 2) h (by decide) (by decide)
theorem div8 {k : Nat} (h : k < 2 ^ 31) : nI k / (8 : Int32) = nI (k / 8) := pk_div (d := 8) h (by decide) (by decide)
theorem rem8 {k : Nat} (h : k < 2 ^ 31) : nI k - nI k / (8 : Int32) * (8 : Int32) = nI (k % 8) := pk_rem (d := 8) h (by decide) (by decide)
/-- the router's chain holds chn up to c -/
def HC (ch : Nat → Int32) (li : Nat) (cs : CS) (p q t c : Nat) : Prop := ∀ k i, k < c → chn li cs p q t k = some i → ch k = nI i
theorem HC_mono {ch : Nat → Int32} {c d : Nat} (h : HC ch li cs p q t c) (hd : d ≤ c) : HC ch li cs p q t d := fun k i hk hi => h k i (by omega) hi
theorem HC_put {ch : Nat → Int32} {c i : Nat} (h : HC ch li cs p q t c) (hi : chn li cs p q t c = some i) : HC (upd ch c (nI i)) li cs p q t (c + 1) := by
  intro k j hk hj
  rw [upd_if]
  by_cases hkc : k = c
  · subst hkc
    rw [if_pos rfl]
    rw [hi] at hj; cases hj; rfl
  · rw [if_neg hkc]
    exact h k j (by omega) hj
theorem c_follow {n : OS} (hR : RC bo li mi sv cn cs n) (W : WF bo li mi sv cn cs) (r : OS) (hp : p < 8) (hq8 : q < 8) (ht : t < 8) (hpq : p ≠ q) (hq : lkL li cs q t = none) : ∃ r', fX3_follow r n (nI p) (nI q) (nI t) = some r' ∧ r'.1 1 = nI (clen li cs p q t) ∧ r'.1 2 = nI p ∧ r'.1 3 = nI q ∧ r'.2 1 = r.2 1 ∧ HC (r'.2 0) li cs p q t (clen li cs p q t) := by
  obtain ⟨hc16, hce, hcs⟩ := clen_spec W hpq hq
  have h1 := W.li1
  have h6 := W.li6
  have h8 := W.bo8
  -- the loop from place k on, board x5
  have key : ∀ (d : Nat) (k fu : Nat) (x5 : Int32) (r : OS), clen li cs p q t - k = d → k ≤ clen li cs p q t → d < fu → r.1 1 = nI k → r.1 2 = nI p → r.1 3 = nI q → HC (r.2 0) li cs p q t k →
      ((rget (n.2 (if k % 2 = 0 then 5 else 4)) 64 (fX5_link x5 (nI (pq p q k)))) = eN (chn li cs p q t k) (-6)) →
      ∃ r', fX3_follow_22 n (nI p) (nI q) fu x5 (nI k) r = some r' ∧ r'.1 1 = nI (clen li cs p q t) ∧ r'.1 2 = nI p ∧ r'.1 3 = nI q ∧ r'.2 1 = r.2 1 ∧ HC (r'.2 0) li cs p q t (clen li cs p q t) := by
    intro d
    induction d with
    | zero =>
      intro k fu x5 r hd hk hfu e1 e2 e3 hH hx
      have hkc : k = clen li cs p q t := by omega
      obtain ⟨fu, rfl⟩ : ∃ f, fu = f + 1 := ⟨fu - 1, by omega⟩
      rw [fX3_follow_22_s]
      refine ⟨r, ?_, by rw [e1, hkc], e2, e3, rfl, hkc ▸ hH⟩
      by_cases h16 : k = 16
      · subst h16; rw [if_pos (by decide)]
      · rw [if_neg (ge16 (by omega))]
        simp only [jn]
        rw [par2 (by omega)]
        rw [hkc, hce, eN_none, ← hkc] at hx
        rcases mod2 k with hk2 | hk2
        · rw [hk2, if_pos (show nI 0 = (0 : Int32) from rfl), if_neg (by decide : ¬ (1 : Int32) = 0)]
          rw [hk2, pq_even hk2] at hx
          have hx : rget (n.2 5) 64 (fX5_link x5 (nI p)) = (-6 : Int32) := hx
          rw [hx, if_neg (by decide)]
        · rw [hk2, if_neg (show ¬ nI 1 = (0 : Int32) by decide), if_pos rfl]
          rw [hk2, pq_odd hk2] at hx
          have hx : rget (n.2 4) 64 (fX5_link x5 (nI q)) = (-6 : Int32) := hx
          rw [hx, if_neg (by decide)]
    | succ d ih =>
      intro k fu x5 r hd hk hfu e1 e2 e3 hH hx
      obtain ⟨fu, rfl⟩ : ∃ f, fu = f + 1 := ⟨fu - 1, by omega⟩
      obtain ⟨i, hi⟩ := hcs k (by omega)
      have hi48 := chn_48 W hi
      have hv := chn_via W hi
      obtain ⟨o, ho⟩ := out_of_busy (busy_of_via hv)
      have ho48 := W.out48 ho
      rw [fX3_follow_22_s, if_neg (ge16 (by omega))]
      simp only [jn]
      rw [par2 (by omega)]
      rw [hi, eN_some] at hx
      have hwr : rset (r.2 0) 16 (nI k) (nI i) = upd (r.2 0) k (nI i) := rset_in (by omega) (by decide)
      rcases mod2 k with hk2 | hk2
      · rw [hk2, if_pos (show nI 0 = (0 : Int32) from rfl), if_neg (by decide : ¬ (1 : Int32) = 0), if_neg (by decide : ¬ (1 : Int32) = 0)]
        rw [hk2, pq_even hk2] at hx
        have hx : rget (n.2 5) 64 (fX5_link x5 (nI p)) = nI i := hx
        rw [hx, if_pos (nI_pos' (by omega)), hwr, c_board hR W (by omega), nI_succ1, e1, nI_succ1]
        obtain ⟨r', g1, g2, g3, g4, g5, g6⟩ := ih (k + 1) fu (nI (i / li)) (setF (setR r 0 (upd (r.2 0) k (nI i))) 1 (nI (k + 1))) (by omega) (by omega) (by omega) rfl e2 e3 (HC_put hH hi) (by
          rw [if_neg (by omega), pq_odd (by omega), chn_s, hi]
          show rget (n.2 4) 64 _ = eN (nxt li cs p q k i) (-6)
          rw [nxt_even hk2]
          exact hR.r4 (by have := div_lt (W.lt (busy_of_via hv)); omega) hq8)
        exact ⟨r', g1, g2, g3, g4, g5, g6⟩
      · rw [hk2, if_neg (show ¬ nI 1 = (0 : Int32) by decide), if_pos rfl, if_pos rfl]
        rw [hk2, pq_odd hk2] at hx
        have hx : rget (n.2 4) 64 (fX5_link x5 (nI q)) = nI i := hx
        rw [hx, if_pos (nI_pos' (by omega)), hwr, hR.r1 hi48, ho, eN_some, c_board hR W (by omega), nI_succ1, e1, nI_succ1]
        obtain ⟨r', g1, g2, g3, g4, g5, g6⟩ := ih (k + 1) fu (nI (o / li)) (setF (setR r 0 (upd (r.2 0) k (nI i))) 1 (nI (k + 1))) (by omega) (by omega) (by omega) rfl e2 e3 (HC_put hH hi) (by
          rw [if_pos (by omega), pq_even (by omega), chn_s, hi]
          show rget (n.2 5) 64 _ = eN (nxt li cs p q k i) (-6)
          rw [nxt_odd hk2 ho]
          exact hR.r5 (by have := div_lt (W.outlt ho); omega) hp)
        exact ⟨r', g1, g2, g3, g4, g5, g6⟩
  unfold fX3_follow
  obtain ⟨r', g1, g2, g3, g4, g5, g6⟩ := key (clen li cs p q t) 0 FU (nI t) (setF (setF (setF r 2 (nI p)) 3 (nI q)) 1 (0 : Int32)) (by omega) (by omega) (FU_big (by omega)) rfl rfl rfl (fun k i hk => absurd hk (by omega)) (by
    rw [if_pos (by decide), pq_even (by decide)]
    exact hR.r5 ht hp)
  exact ⟨r', g1, g2, g3, g4, g5, g6⟩
theorem m_lays {g : OS} {bb : Nat} (hM : RM bo li mi sv cn cs (blk g bb)) (W : WF bo li mi sv cn cs) (hb : bb ≤ 924) (hp : p < 8) (hq8 : q < 8) (ht : t < 8) (hpq : p ≠ q) (hq : lkL li cs q t = none) : ∃ w, fX6_lays g (nI bb) (nI p) (nI q) (nI t) = some (nI (clen li cs p q t), setR g 2 w) ∧ HC w li cs p q t (clen li cs p q t) := by
  obtain ⟨hc16, hce, hcs⟩ := clen_spec W hpq hq
  have h1 := W.li1
  have h6 := W.li6
  have h8 := W.bo8
  have key : ∀ (d : Nat) (k fu : Nat) (x6 x7 : Int32) (w : Nat → Int32), clen li cs p q t - k = d → k ≤ clen li cs p q t → d < fu → HC w li cs p q t k → x6 = eN (chn li cs p q t k) (-1) → x7 = (if k % 2 = 0 then (1 : Int32) else (0 : Int32)) →
      ∃ w', fX6_lays_16 (nI bb) (nI p) (nI q) fu (nI k) x6 x7 (setR g 2 w) = some (nI (clen li cs p q t), setR g 2 w') ∧ HC w' li cs p q t (clen li cs p q t) := by
    intro d
    induction d with
    | zero =>
      intro k fu x6 x7 w hd hk hfu hH hx h7
      have hkc : k = clen li cs p q t := by omega
      obtain ⟨fu, rfl⟩ : ∃ f, fu = f + 1 := ⟨fu - 1, by omega⟩
      refine ⟨w, ?_, hkc ▸ hH⟩
      rw [fX6_lays_16_s, if_pos (by rw [hx, hkc, hce, eN_none]), hkc]
    | succ d ih =>
      intro k fu x6 x7 w hd hk hfu hH hx h7
      obtain ⟨fu, rfl⟩ : ∃ f, fu = f + 1 := ⟨fu - 1, by omega⟩
      obtain ⟨i, hi⟩ := hcs k (by omega)
      have hi48 := chn_48 W hi
      have hv := chn_via W hi
      obtain ⟨o, ho⟩ := out_of_busy (busy_of_via hv)
      have ho48 := W.out48 ho
      rw [hi, eN_some] at hx
      subst hx
      rw [fX6_lays_16_s, if_neg (nI_ne_of_neg (by omega) m1), if_pos (inb_nI (by omega) (by decide)), nI_clamp (by omega)]
      simp only [jn]
      have e0 : ∀ w' : Nat → Int32, setR (setR g 2 w) 2 w' = setR g 2 w' := by
        intro w'
        unfold setR
        congr 1
        funext j
        by_cases hj : j = 2
        · rw [if_pos hj, if_pos hj]
        · rw [if_neg hj, if_neg hj]; exact if_neg hj
      have ew : (setR g 2 w).2 2 = w := rfl
      rw [ew, e0]
      have hM' : ∀ w', RM bo li mi sv cn cs (blk (setR g 2 w') bb) := fun w' => hM
      have hl : ∀ w', ((setR g 2 w').2 0) (nI bb + (1 : Int32)).toNatClampNeg = nI li := fun w' => (m_fld (j := 1) hb (by decide)).trans hM.b1
      rcases mod2 k with hk2 | hk2
      · rw [if_pos hk2] at h7
        subst h7
        rw [if_neg (by decide : ¬ (1 : Int32) = 0), if_pos (in_1 hb), hl, if_pos (nI_ne0 (by omega) (by omega)), pk_div (by omega) (by omega) (by omega), m_onFirst (hM' _) W hb (by have := div_lt (W.lt (busy_of_via hv)); omega) (by omega), Option.bind_some, Option.bind_some, if_neg (by decide : ¬ (1 : Int32) = 0), nI_succ1]
        refine ih (k + 1) fu _ _ _ (by omega) (by omega) (by omega) (HC_put hH hi) ?_ ?_
        · rw [chn_s, hi]
          show _ = eN (nxt li cs p q k i) (-1)
          rw [nxt_even hk2]
        · rw [if_neg (by omega)]
      · rw [if_neg (by omega)] at h7
        subst h7
        rw [if_pos (rfl : (0 : Int32) = 0), m_of1 hb hi48, Option.bind_some, if_pos (in_1 hb), hl, if_pos (nI_ne0 (by omega) (by omega)), (hM' _).ou hi48 ho, pk_div (by omega) (by omega) (by omega), m_onLast (hM' _) W hb (by have := div_lt (W.outlt ho); omega) (by omega), Option.bind_some, Option.bind_some, if_pos (rfl : (0 : Int32) = 0), nI_succ1]
        refine ih (k + 1) fu _ _ _ (by omega) (by omega) (by omega) (HC_put hH hi) ?_ ?_
        · rw [chn_s, hi]
          show _ = eN (nxt li cs p q k i) (-1)
          rw [nxt_odd hk2 ho]
        · rw [if_pos (by omega)]
  unfold fX6_lays
  rw [m_onLast hM W hb (by omega) (by omega), Option.bind_some]
  have e2 : setR g 2 (g.2 2) = g := by
    unfold setR
    have : (fun j => if j = 2 then g.2 2 else g.2 j) = g.2 := by
      funext j
      by_cases hj : j = 2
      · rw [if_pos hj, hj]
      · rw [if_neg hj]
    rw [this]
  obtain ⟨w', h, hH⟩ := key (clen li cs p q t) 0 FU (eN (chn li cs p q t 0) (-1)) (1 : Int32) (g.2 2) (by omega) (by omega) (FU_big (by omega)) (fun k i hk => absurd hk (by omega)) rfl rfl
  rw [e2] at h
  exact ⟨w', h, hH⟩
end CH
