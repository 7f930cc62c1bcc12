/-! the calls of a chain change places, and the new call finds its way -/
def mapV (cs : CS) (f : Nat → Option (Option Nat)) : CS := fun j => match f j with
  | none => cs j
  | some v => (cs j).map (fun c => (c.1, c.2.1, v))
theorem mapV_none {cs : CS} {f : Nat → Option (Option Nat)} {j : Nat} (h : f j = none) : mapV cs f j = cs j := by
  unfold mapV; rw [h]
theorem mapV_some {cs : CS} {f : Nat → Option (Option Nat)} {j : Nat} {v : Option Nat} (h : f j = some v) : mapV cs f j = (cs j).map (fun c => (c.1, c.2.1, v)) := by
  unfold mapV; rw [h]
theorem num_mapV {cs : CS} {f : Nat → Option (Option Nat)} (j : Nat) : num (mapV cs f) j = num cs j := by
  unfold num
  cases h : f j with
  | none => rw [mapV_none h]
  | some v => rw [mapV_some h]; cases cs j <;> rfl
theorem outl_mapV {cs : CS} {f : Nat → Option (Option Nat)} (j : Nat) : outl (mapV cs f) j = outl cs j := by
  unfold outl
  cases h : f j with
  | none => rw [mapV_none h]
  | some v => rw [mapV_some h]; cases cs j <;> rfl
theorem busy_mapV {cs : CS} {f : Nat → Option (Option Nat)} (j : Nat) : busy (mapV cs f) j = busy cs j := by
  unfold busy
  cases h : f j with
  | none => rw [mapV_none h]
  | some v => rw [mapV_some h]; cases cs j <;> rfl
theorem via_mapV_n {cs : CS} {f : Nat → Option (Option Nat)} {j : Nat} (h : f j = none) : via (mapV cs f) j = via cs j := by
  unfold via; rw [mapV_none h]
theorem via_mapV_s {cs : CS} {f : Nat → Option (Option Nat)} {j : Nat} {v : Option Nat} (h : f j = some v) (hb : busy cs j = true) : via (mapV cs f) j = v := by
  unfold via; rw [mapV_some h]
  unfold busy at hb
  cases hc : cs j with
  | none => rw [hc] at hb; cases hb
  | some c => rfl
theorem setV_mapV {cs : CS} {f g : Nat → Option (Option Nat)} {i : Nat} {v : Option Nat} (h1 : g i = some v) (h2 : ∀ j, j ≠ i → g j = f j) : setV (mapV cs f) i v = mapV cs g := by
  funext j
  unfold setV
  by_cases hj : j = i
  · subst hj
    rw [if_pos rfl, mapV_some h1]
    cases h : f j with
    | none => rw [mapV_none h]
    | some w => rw [mapV_some h]; cases cs j <;> rfl
  · rw [if_neg hj]
    have h2 := h2 j hj
    cases h : f j with
    | none => rw [mapV_none h, mapV_none (by rw [h2, h])]
    | some w => rw [mapV_some h, mapV_some (by rw [h2, h])]
theorem mapV_id {cs : CS} {f : Nat → Option (Option Nat)} (h : ∀ j, f j = none) : mapV cs f = cs := by
  funext j; exact mapV_none (h j)
theorem mapV_congr {cs : CS} {f g : Nat → Option (Option Nat)} (h : ∀ j, f j = g j) : mapV cs f = mapV cs g := by
  rw [show f = g from funext h]
def pos (li : Nat) (cs : CS) (p q t j : Nat) : Option Nat := findI (fun l => chn li cs p q t l == some j) 16
section KE
variable {bo li mi sv cn : Nat} {cs : CS} {p q t : Nat}
theorem chn_lt16 (W : WF bo li mi sv cn cs) (hpq : p ≠ q) (hq : lkL li cs q t = none) {l i : Nat} (h : chn li cs p q t l = some i) : l < 16 := by
  rcases Nat.lt_or_ge l 16 with hl | hl
  · exact hl
  · obtain ⟨i', hi'⟩ := chn_down (k := 16) (d := l - 16) (by rw [Nat.add_sub_cancel' hl]; exact h)
    rw [chn_16 W hpq hq] at hi'; cases hi'
theorem pos_iff (W : WF bo li mi sv cn cs) (hpq : p ≠ q) (hq : lkL li cs q t = none) {l j : Nat} : pos li cs p q t j = some l ↔ chn li cs p q t l = some j := by
  unfold pos
  rw [findI_iff (fun a b _ _ h1 h2 => by
    have h1 : chn li cs p q t a = some j := by simpa using h1
    have h2 : chn li cs p q t b = some j := by simpa using h2
    rcases Nat.le_total a b with h | h
    · exact chn_inj W hpq hq a b h j h1 h2
    · exact (chn_inj W hpq hq b a h j h2 h1).symm)]
  constructor
  · intro h; simpa using h.2
  · intro h; exact ⟨chn_lt16 W hpq hq h, by simpa using h⟩
theorem pos_none (W : WF bo li mi sv cn cs) (hpq : p ≠ q) (hq : lkL li cs q t = none) {j : Nat} : pos li cs p q t j = none ↔ ∀ l, chn li cs p q t l ≠ some j := by
  constructor
  · intro h l hl
    rw [(pos_iff W hpq hq).mpr hl] at h; cases h
  · intro h
    cases hp : pos li cs p q t j with
    | none => rfl
    | some l => exact absurd ((pos_iff W hpq hq).mp hp) (h l)
/-- chain calls lifted: the first k -/
def lifF (li : Nat) (cs : CS) (p q t k : Nat) : Nat → Option (Option Nat) := fun j => match pos li cs p q t j with
  | some l => if l < k then some none else none
  | none => none
/-- chain calls in their new places: the first k; the rest lifted -/
def carF (li : Nat) (cs : CS) (p q t k : Nat) : Nat → Option (Option Nat) := fun j => match pos li cs p q t j with
  | some l => if l < k then some (some (pq q p l)) else some none
  | none => none
/-- chain calls in their new places: the first k; the rest as they were -/
def flpF (li : Nat) (cs : CS) (p q t k : Nat) : Nat → Option (Option Nat) := fun j => match pos li cs p q t j with
  | some l => if l < k then some (some (pq q p l)) else none
  | none => none
theorem lifF_s {k j l : Nat} (h : pos li cs p q t j = some l) : lifF li cs p q t k j = if l < k then some none else none := by unfold lifF; rw [h]
theorem lifF_n {k j : Nat} (h : pos li cs p q t j = none) : lifF li cs p q t k j = none := by unfold lifF; rw [h]
theorem carF_s {k j l : Nat} (h : pos li cs p q t j = some l) : carF li cs p q t k j = if l < k then some (some (pq q p l)) else some none := by unfold carF; rw [h]
theorem carF_n {k j : Nat} (h : pos li cs p q t j = none) : carF li cs p q t k j = none := by unfold carF; rw [h]
theorem flpF_s {k j l : Nat} (h : pos li cs p q t j = some l) : flpF li cs p q t k j = if l < k then some (some (pq q p l)) else none := by unfold flpF; rw [h]
theorem flpF_n {k j : Nat} (h : pos li cs p q t j = none) : flpF li cs p q t k j = none := by unfold flpF; rw [h]
/-- all chain calls in their new places -/
def flip (li : Nat) (cs : CS) (p q t : Nat) : CS := mapV cs (flpF li cs p q t 16)
theorem via_flip_in (W : WF bo li mi sv cn cs) (hpq : p ≠ q) (hq : lkL li cs q t = none) {l j : Nat} (h : chn li cs p q t l = some j) : via (flip li cs p q t) j = some (pq q p l) := by
  refine via_mapV_s ?_ (busy_of_via (chn_via W h))
  rw [flpF_s ((pos_iff W hpq hq).mpr h), if_pos (chn_lt16 W hpq hq h)]
theorem via_flip_out {j : Nat} (h : pos li cs p q t j = none) : via (flip li cs p q t) j = via cs j := via_mapV_n (flpF_n h)
theorem pq_or (l : Nat) : (pq q p l = q ∧ pq p q l = p ∧ l % 2 = 0) ∨ (pq q p l = p ∧ pq p q l = q ∧ l % 2 = 1) := by
  rcases mod2 l with h | h
  · exact Or.inl ⟨pq_even h, pq_even h, h⟩
  · exact Or.inr ⟨pq_odd h, pq_odd h, h⟩
theorem chn_next {l i : Nat} (h : chn li cs p q t l = some i) : chn li cs p q t (l + 1) = nxt li cs p q l i := by rw [chn_s, h]; rfl
/-- a call of the chain in its new place meets no call outside on its first link -/
theorem flip_F (W : WF bo li mi sv cn cs) {l i j : Nat} (h : chn li cs p q t l = some i) (hv : via cs j = some (pq q p l)) (hb : i / li = j / li) : ∃ l', chn li cs p q t l' = some j := by
  rcases pq_or (p := p) (q := q) l with ⟨e1, e2, hl⟩ | ⟨e1, e2, hl⟩
  · refine ⟨l + 1, ?_⟩
    rw [chn_next h, nxt_even hl]
    exact W.lF.mpr ⟨by rw [hv, e1], hb.symm⟩
  · obtain ⟨l0, rfl⟩ : ∃ l0, l = l0 + 1 := ⟨l - 1, by omega⟩
    obtain ⟨i', g1, g2⟩ := chn_pred h
    obtain ⟨g3, -⟩ := nxt_even' W (by omega) g2
    have vi := chn_via W g1
    rw [pq_even (by omega)] at vi
    refine ⟨l0, ?_⟩
    rw [g1, W.finj vi (by rw [hv, e1]) (by rw [← g3, hb])]
theorem flip_L (W : WF bo li mi sv cn cs) (hq : lkL li cs q t = none) {l i j o u : Nat} (h : chn li cs p q t l = some i) (hv : via cs j = some (pq q p l)) (ho : outl cs i = some o) (hu : outl cs j = some u) (hb : o / li = u / li) : ∃ l', chn li cs p q t l' = some j := by
  rcases pq_or (p := p) (q := q) l with ⟨e1, e2, hl⟩ | ⟨e1, e2, hl⟩
  · rw [e1] at hv
    cases l with
    | zero =>
      obtain ⟨-, o', g2, g3⟩ := W.lL.mp h
      rw [ho] at g2; cases g2
      exact absurd (by rw [← hb, g3]) (W.lL_none.mp hq j u hv hu)
    | succ l0 =>
      obtain ⟨i', g1, g2⟩ := chn_pred h
      obtain ⟨a, a', f1, f2, f3, -⟩ := nxt_odd' W (by omega) g2
      rw [ho] at f2; cases f2
      have vi := chn_via W g1
      rw [pq_odd (by omega)] at vi
      refine ⟨l0, ?_⟩
      rw [g1, W.linj vi hv f1 hu (by rw [← f3, hb])]
  · refine ⟨l + 1, ?_⟩
    rw [chn_next h, nxt_odd hl ho]
    exact W.lL.mpr ⟨by rw [hv, e1], u, hu, hb.symm⟩
theorem kempe (W : WF bo li mi sv cn cs) (hpq : p ≠ q) (hq : lkL li cs q t = none) {x o : Nat} (hp : lkF li cs (x / li) p = none) (hx : via cs x = none) (ho : outl cs x = some o) (hot : o / li = t) (hpm : p < mi) (hps : sv.testBit p = true) (hqm : q < mi) (hqs : sv.testBit q = true) : WF bo li mi sv cn (setV (flip li cs p q t) x (some p)) := by
  have hb := busy_of_out ho
  have hxn : pos li cs p q t x = none := (pos_none W hpq hq).mpr (fun l h => by
    have := chn_via W h; rw [hx] at this; cases this)
  obtain ⟨F, hF⟩ : ∃ F, F = setV (flip li cs p q t) x (some p) := ⟨_, rfl⟩
  rw [← hF]
  have nF : ∀ j, num F j = num cs j := fun j => by rw [hF, num_setV]; exact num_mapV j
  have oF : ∀ j, outl F j = outl cs j := fun j => by rw [hF, outl_setV]; exact outl_mapV j
  have bF : ∀ j, busy F j = busy cs j := fun j => by rw [hF, busy_setV]; exact busy_mapV j
  have vx : via F x = some p := by rw [hF]; exact via_setV_s (by unfold flip; rw [busy_mapV]; exact hb)
  -- where a call is on links: the new one, one of the chain, another
  have ty : ∀ j, j = x ∨ (∃ l, chn li cs p q t l = some j ∧ via F j = some (pq q p l)) ∨ ((∀ l, chn li cs p q t l ≠ some j) ∧ via F j = via cs j) := by
    intro j
    by_cases hj : j = x
    · exact Or.inl hj
    · right
      have e : via F j = via (flip li cs p q t) j := by rw [hF]; exact via_setV_n hj
      cases hpj : pos li cs p q t j with
      | some l =>
        have hc := (pos_iff W hpq hq).mp hpj
        exact Or.inl ⟨l, hc, by rw [e]; exact via_flip_in W hpq hq hc⟩
      | none => exact Or.inr ⟨(pos_none W hpq hq).mp hpj, by rw [e]; exact via_flip_out hpj⟩
  -- the new call meets nobody
  have ax : ∀ j, j ≠ x → via F j = some p → x / li ≠ j / li := by
    intro j hj hv he
    rcases ty j with h | ⟨l, h1, h2⟩ | ⟨h1, h2⟩
    · exact hj h
    · rw [h2] at hv
      have hv := Option.some.inj hv
      rcases pq_or (p := p) (q := q) l with ⟨e1, e2, hl⟩ | ⟨e1, e2, hl⟩
      · rw [e1] at hv; exact hpq hv.symm
      · obtain ⟨l0, rfl⟩ : ∃ l0, l = l0 + 1 := ⟨l - 1, by omega⟩
        obtain ⟨i', g1, g2⟩ := chn_pred h1
        obtain ⟨g3, -⟩ := nxt_even' W (by omega) g2
        have vi := chn_via W g1
        rw [pq_even (by omega)] at vi
        exact W.lF_none.mp hp i' vi (by rw [he, g3])
    · rw [h2] at hv
      exact W.lF_none.mp hp j hv he.symm
  have ay : ∀ j u, j ≠ x → via F j = some p → outl cs j = some u → t ≠ u / li := by
    intro j u hj hv hu he
    rcases ty j with h | ⟨l, h1, h2⟩ | ⟨h1, h2⟩
    · exact hj h
    · rw [h2] at hv
      have hv := Option.some.inj hv
      rcases pq_or (p := p) (q := q) l with ⟨e1, e2, hl⟩ | ⟨e1, e2, hl⟩
      · rw [e1] at hv; exact hpq hv.symm
      · have vj := chn_via W h1
        rw [e2] at vj
        exact W.lL_none.mp hq j u vj hu he.symm
    · rw [h2] at hv
      exact h1 0 (W.lL.mpr ⟨hv, u, hu, he.symm⟩)
  have same : ∀ l k, pq q p l = pq q p k → pq p q l = pq p q k := by
    intro l k h
    rcases pq_or (p := p) (q := q) l with ⟨e1, e2, hl⟩ | ⟨e1, e2, hl⟩ <;> rcases pq_or (p := p) (q := q) k with ⟨f1, f2, hk⟩ | ⟨f1, f2, hk⟩
    · rw [e2, f2]
    · rw [e1, f1] at h; exact absurd h.symm hpq
    · rw [e1, f1] at h; exact absurd h hpq
    · rw [e2, f2]
  refine ⟨W.bo2, W.bo8, W.li1, W.li6, W.mi1, W.mi8, W.svlt, W.cn30, fun i h => W.lt (by rw [← bF]; exact h), fun i c h => W.numlt (by rw [← nF]; exact h), fun i u h => W.outlt (by rw [← oF]; exact h), fun i m h => ?_, fun i j u a b => W.outinj (by rw [← oF]; exact a) (by rw [← oF]; exact b), fun i j m a b c => ?_, fun i j m u u' a b c d e => ?_⟩
  · rcases ty i with hi | ⟨l, h1, h2⟩ | ⟨h1, h2⟩
    · rw [hi, vx] at h; cases h; exact ⟨hpm, hps⟩
    · rw [h2] at h
      have h := Option.some.inj h
      rcases pq_or (p := p) (q := q) l with ⟨e1, -, -⟩ | ⟨e1, -, -⟩
      · rw [← h, e1]; exact ⟨hqm, hqs⟩
      · rw [← h, e1]; exact ⟨hpm, hps⟩
    · rw [h2] at h; exact ⟨W.vialt h, W.viasv h⟩
  · by_cases hix : i = x
    · by_cases hjx : j = x
      · rw [hix, hjx]
      · rw [hix, vx] at a; cases a
        exact absurd (by rw [← hix]; exact c) (ax j hjx b)
    · by_cases hjx : j = x
      · rw [hjx, vx] at b; cases b
        exact absurd (by rw [← hjx]; exact c.symm) (ax i hix a)
      · rcases ty i with h | ⟨l, h1, h2⟩ | ⟨h1, h2⟩
        · exact absurd h hix
        · rw [h2] at a
          have a := Option.some.inj a
          rcases ty j with h | ⟨k, g1, g2⟩ | ⟨g1, g2⟩
          · exact absurd h hjx
          · rw [g2] at b
            have b := Option.some.inj b
            have vi := chn_via W h1
            have vj := chn_via W g1
            rw [same l k (a.trans b.symm)] at vi
            exact W.finj vi vj c
          · rw [g2, ← a] at b
            obtain ⟨l', hl'⟩ := flip_F W h1 b c
            exact absurd hl' (g1 l')
        · rw [h2] at a
          rcases ty j with h | ⟨k, g1, g2⟩ | ⟨g1, g2⟩
          · exact absurd h hjx
          · rw [g2] at b
            have b := Option.some.inj b
            rw [← b] at a
            obtain ⟨l', hl'⟩ := flip_F W g1 a c.symm
            exact absurd hl' (h1 l')
          · rw [g2] at b
            exact W.finj a b c
  · rw [oF] at c d
    by_cases hix : i = x
    · by_cases hjx : j = x
      · rw [hix, hjx]
      · rw [hix, vx] at a; cases a
        rw [hix, ho] at c; cases c
        exact absurd (by rw [← hot]; exact e) (ay j u' hjx b d)
    · by_cases hjx : j = x
      · rw [hjx, vx] at b; cases b
        rw [hjx, ho] at d; cases d
        exact absurd (by rw [← hot]; exact e.symm) (ay i u hix a c)
      · rcases ty i with h | ⟨l, h1, h2⟩ | ⟨h1, h2⟩
        · exact absurd h hix
        · rw [h2] at a
          have a := Option.some.inj a
          rcases ty j with h | ⟨k, g1, g2⟩ | ⟨g1, g2⟩
          · exact absurd h hjx
          · rw [g2] at b
            have b := Option.some.inj b
            have vi := chn_via W h1
            have vj := chn_via W g1
            rw [same l k (a.trans b.symm)] at vi
            exact W.linj vi vj c d e
          · rw [g2, ← a] at b
            obtain ⟨l', hl'⟩ := flip_L W hq h1 b c d e
            exact absurd hl' (g1 l')
        · rw [h2] at a
          rcases ty j with h | ⟨k, g1, g2⟩ | ⟨g1, g2⟩
          · exact absurd h hjx
          · rw [g2] at b
            have b := Option.some.inj b
            rw [← b] at a
            obtain ⟨l', hl'⟩ := flip_L W hq g1 a d c e.symm
            exact absurd hl' (h1 l')
          · rw [g2] at b
            exact W.linj a b c d e
end KE
