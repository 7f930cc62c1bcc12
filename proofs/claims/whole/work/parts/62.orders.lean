/-! orders and faults: both sides read alike -/
theorem set_s {x : OS} {k : Nat} {v : Int32} : (setF x k v).1 k = v := pk_us
theorem set_n {x : OS} {k j : Nat} {v : Int32} (h : j ≠ k) : (setF x k v).1 j = x.1 j := pk_un h
/-- the model's reader touches its own cells only -/
def GT (g g' : OS) : Prop := g'.2 = g.2 ∧ ∀ k, k ≠ 5 → k ≠ 6 → k ≠ 7 → k ≠ 8 → g'.1 k = g.1 k
theorem GT.rfl {g : OS} : GT g g := ⟨Eq.refl _, fun _ _ _ _ _ => Eq.refl _⟩
theorem GT.trans {g g' g'' : OS} (h : GT g g') (h' : GT g' g'') : GT g g'' := ⟨h'.1.trans h.1, fun k a b c d => (h'.2 k a b c d).trans (h.2 k a b c d)⟩
theorem GT.set {g : OS} {k : Nat} {v : Int32} (hk : k = 5 ∨ k = 6 ∨ k = 7 ∨ k = 8) : GT g (setF g k v) := ⟨Eq.refl _, fun j a b c d => set_n (by omega)⟩
theorem TM.of {len : Nat} {T : Nat → Nat} {g g' : OS} (h : TM len T g) (h' : GT g g') : TM len T g' := ⟨(h'.2 4 (by decide) (by decide) (by decide) (by decide)).trans h.1, h.2.1, fun k hk => by rw [h'.1]; exact h.2.2 k hk⟩
def ordN (k : Nat) : Nat := if k = 99 then 0 else if k = 100 then 1 else if k = 111 then 2 else if k = 105 then 3 else 4
section RR
variable {len : Nat} {T : Nat → Nat} {x g : OS} {p : Nat}
theorem c_sign_at {c : Nat} (h : TC len T x) (hp : x.1 2 = nI p) (ha : at_ len T p c = true) : fX2_sign x = nI c := by
  obtain ⟨h1, h2⟩ := at_iff.mp ha
  rw [c_sign_in h hp h1, h2]
theorem c_sign_ne {c : Nat} (h : TC len T x) (hp : x.1 2 = nI p) (hpl : p ≤ len) (hc : c < 2 ^ 31) (ha : ¬ at_ len T p c = true) : ¬ fX2_sign x = nI c := by
  have h60 := h.2.1
  by_cases hl : p < len
  · rw [c_sign_in h hp hl, nI_eq (by have := (h.2.2 p hl).1; omega) hc]
    exact fun e => ha (at_iff.mpr ⟨hl, e⟩)
  · rw [c_sign_out h hp hl (by omega)]
    exact fun e => nI_ne_of_neg hc (by decide) e.symm
theorem c_skip_y {c : Nat} {x1 : Int32} (h : TC len T x) (hp : x.1 2 = nI p) (hpl : p ≤ len) (hc : c < 2 ^ 31) (hx : x1 = nI c) (ha : at_ len T p c = true) : fX2_skip x x1 = ((1 : Int32), setF x 2 (nI (p + 1))) := by
  rw [c_skip h hp hpl hc hx, if_pos ha, if_pos ha]
theorem c_skip_n {c : Nat} {x1 : Int32} (h : TC len T x) (hp : x.1 2 = nI p) (hpl : p ≤ len) (hc : c < 2 ^ 31) (hx : x1 = nI c) (ha : ¬ at_ len T p c = true) : fX2_skip x x1 = ((0 : Int32), x) := by
  rw [c_skip h hp hpl hc hx, if_neg ha, if_neg ha, setF_same hp]
theorem m_takes_y {c : Nat} {x1 : Int32} (h : TM len T g) (hp : g.1 5 = nI p) (hpl : p ≤ len) (hc : c < 2 ^ 31) (hx : x1 = nI c) (ha : at_ len T p c = true) : fX6_takes g x1 = some ((1 : Int32), setF g 5 (nI (p + 1))) := by
  rw [m_takes h hp hpl hc hx, if_pos ha, if_pos ha]
theorem m_takes_n {c : Nat} {x1 : Int32} (h : TM len T g) (hp : g.1 5 = nI p) (hpl : p ≤ len) (hc : c < 2 ^ 31) (hx : x1 = nI c) (ha : ¬ at_ len T p c = true) : fX6_takes g x1 = some ((0 : Int32), g) := by
  rw [m_takes h hp hpl hc hx, if_neg ha, if_neg ha, setF_same hp]
theorem rd_kind {k a b : Nat} (h : (rd len T p).1 = some (k, a, b)) : k = 99 ∨ k = 100 ∨ k = 111 ∨ k = 105 ∨ k = 112 := by
  refine rd_cases (len := len) (T := T) (p := p) _ (fun ha => ?_) (fun ha => ?_) (fun ha => ?_) (fun ha => ?_) (fun ha => ?_) (fun h1 h2 h3 h4 h5 => ?_)
  · rw [rd_c ha] at h
    cases hn : num47 len T (p + 1) with
    | none => rw [rdC_n hn] at h; cases h
    | some q =>
      by_cases h2 : at_ len T q.2 45 = true
      · rw [rdC_s hn h2] at h
        cases hn2 : num47 len T (q.2 + 1) with
        | none => rw [rdE_n hn2] at h; cases h
        | some q' => rw [rdE_s hn2] at h; cases h; exact Or.inl rfl
      · rw [rdC_x hn h2] at h; cases h
  · rw [rd_d ha] at h
    cases hn : num47 len T (p + 1) with
    | none => rw [hn, rdN_n] at h; cases h
    | some q => rw [hn, rdN_s] at h; cases h; exact Or.inr (Or.inl rfl)
  · rw [rd_o ha] at h
    cases hn : dig7 len T (p + 1) with
    | none => rw [hn, rdN_n] at h; cases h
    | some q => rw [hn, rdN_s] at h; cases h; exact Or.inr (Or.inr (Or.inl rfl))
  · rw [rd_i ha] at h
    cases hn : dig7 len T (p + 1) with
    | none => rw [hn, rdN_n] at h; cases h
    | some q => rw [hn, rdN_s] at h; cases h; exact Or.inr (Or.inr (Or.inr (Or.inl rfl)))
  · rw [rd_p ha] at h; cases h; exact Or.inr (Or.inr (Or.inr (Or.inr rfl)))
  · rw [rd_x h1 h2 h3 h4 h5] at h; cases h
/-- what the class has read -/
def CRD (len : Nat) (T : Nat → Nat) (p : Nat) (f : Int32) (x' : OS) : Prop := TC len T x' ∧ x'.1 2 = nI (rd len T p).2 ∧ ((f = (0 : Int32) ∧ (rd len T p).1 = none) ∨ (f = (1 : Int32) ∧ ∃ k a b, (rd len T p).1 = some (k, a, b) ∧ x'.1 3 = nI k ∧ (k ≠ 112 → x'.1 4 = nI a) ∧ (k = 99 → x'.1 5 = nI b)))
/-- what the model has read -/
def MRD (len : Nat) (T : Nat → Nat) (p : Nat) (g : OS) (f : Int32) (g' : OS) : Prop := GT g g' ∧ g'.1 5 = nI (rd len T p).2 ∧ ((f = (0 : Int32) ∧ (rd len T p).1 = none) ∨ (f = (1 : Int32) ∧ ∃ k a b, (rd len T p).1 = some (k, a, b) ∧ g'.1 6 = nI (ordN k) ∧ (k ≠ 112 → g'.1 7 = nI a) ∧ (k = 99 → g'.1 8 = nI b)))
theorem CRD.no {f : Int32} {x' : OS} {p' : Nat} (hr : rd len T p = (none, p')) (h : TC len T x') (h2 : x'.1 2 = nI p') (hf : f = (0 : Int32)) : CRD len T p f x' := by
  refine ⟨h, by rw [hr]; exact h2, Or.inl ⟨hf, by rw [hr]⟩⟩
theorem CRD.yes {f : Int32} {x' : OS} {p' k a b : Nat} (hr : rd len T p = (some (k, a, b), p')) (h : TC len T x') (h2 : x'.1 2 = nI p') (hf : f = (1 : Int32)) (h3 : x'.1 3 = nI k) (h4 : k ≠ 112 → x'.1 4 = nI a) (h5 : k = 99 → x'.1 5 = nI b) : CRD len T p f x' := by
  refine ⟨h, by rw [hr]; exact h2, Or.inr ⟨hf, k, a, b, by rw [hr], h3, h4, h5⟩⟩
theorem MRD.no {f : Int32} {g' : OS} {p' : Nat} (hr : rd len T p = (none, p')) (h : GT g g') (h2 : g'.1 5 = nI p') (hf : f = (0 : Int32)) : MRD len T p g f g' := by
  refine ⟨h, by rw [hr]; exact h2, Or.inl ⟨hf, by rw [hr]⟩⟩
theorem MRD.yes {f : Int32} {g' : OS} {p' k a b : Nat} (hr : rd len T p = (some (k, a, b), p')) (h : GT g g') (h2 : g'.1 5 = nI p') (hf : f = (1 : Int32)) (h3 : g'.1 6 = nI (ordN k)) (h4 : k ≠ 112 → g'.1 7 = nI a) (h5 : k = 99 → g'.1 8 = nI b) : MRD len T p g f g' := by
  refine ⟨h, by rw [hr]; exact h2, Or.inr ⟨hf, k, a, b, by rw [hr], h3, h4, h5⟩⟩
theorem nvneg {z : Int32} {r : Option (Nat × Nat)} (hr : r = none) : nv z r = z := by rw [hr]; rfl
/-- a number behind a letter: what the class answers -/
theorem c_rd (h : TC len T x) (hp : x.1 2 = nI p) (hpl : p ≤ len) : ∃ f x', fX2_readOrder x = some (f, x') ∧ CRD len T p f x' := by
  refine rd_cases (len := len) (T := T) (p := p) _ (fun ha => ?_) (fun ha => ?_) (fun ha => ?_) (fun ha => ?_) (fun ha => ?_) (fun h1 h2 h3 h4 h5 => ?_)
  · have hl : p + 1 ≤ len := (at_iff.mp ha).1
    have hx1 : TC len T (setF (setF x 3 (nI 99)) 2 (nI (p + 1))) := (h.set (by decide)).set (by decide)
    unfold fX2_readOrder
    rw [c_sign_at h hp ha, hp, nI_succ1 p]
    simp only [jn]
    rw [if_pos (show nI 99 = (99 : Int32) from rfl), c_num47 hx1 set_s hl, Option.bind_some]
    cases hn : num47 len T (p + 1) with
    | none =>
      rw [nv_none, np_none, if_pos (show (-6 : Int32) < 0 by decide)]
      exact ⟨_, _, rfl, CRD.no (by rw [rd_c ha, rdC_n hn]) ((hx1.set (by decide)).set (by decide)) rfl rfl⟩
    | some q =>
      obtain ⟨q1, q2, q3⟩ := num47_some hn
      have hx2 : TC len T (setF (setF (setF (setF x 3 (nI 99)) 2 (nI (p + 1))) 2 (nI q.2)) 4 (nI q.1)) := (hx1.set (by decide)).set (by decide)
      rw [nv_some, np_some, if_neg (show ¬ nI q.1 < 0 from nI_pos (by omega))]
      by_cases h2 : at_ len T q.2 45 = true
      · have hl2 : q.2 + 1 ≤ len := (at_iff.mp h2).1
        have hx3 := hx2.set (k := 2) (v := nI (q.2 + 1)) (by decide)
        rw [c_skip_y (x1 := (45 : Int32)) (c := 45) hx2 rfl q2 (by decide) rfl h2, if_neg (show ¬ (1 : Int32) = 0 by decide), c_num47 hx3 set_s hl2, Option.bind_some]
        cases hn2 : num47 len T (q.2 + 1) with
        | none =>
          rw [nv_none, np_none, if_pos (show (-6 : Int32) < 0 by decide)]
          exact ⟨_, _, rfl, CRD.no (by rw [rd_c ha, rdC_s hn h2, rdE_n hn2]) ((hx3.set (by decide)).set (by decide)) rfl rfl⟩
        | some q' =>
          obtain ⟨r1, r2, r3⟩ := num47_some hn2
          rw [nv_some, np_some, if_neg (show ¬ nI q'.1 < 0 from nI_pos (by omega))]
          exact ⟨_, _, rfl, CRD.yes (by rw [rd_c ha, rdC_s hn h2, rdE_s hn2]) ((hx3.set (by decide)).set (by decide)) rfl rfl rfl (fun _ => rfl) (fun _ => rfl)⟩
      · rw [c_skip_n (x1 := (45 : Int32)) (c := 45) hx2 rfl q2 (by decide) rfl h2, if_pos (show (0 : Int32) = 0 from rfl)]
        exact ⟨_, _, rfl, CRD.no (by rw [rd_c ha, rdC_x hn h2]) hx2 rfl rfl⟩
  · have hl : p + 1 ≤ len := (at_iff.mp ha).1
    have hx1 : TC len T (setF (setF x 3 (nI 100)) 2 (nI (p + 1))) := (h.set (by decide)).set (by decide)
    unfold fX2_readOrder
    rw [c_sign_at h hp ha, hp, nI_succ1 p]
    simp only [jn]
    rw [if_neg (show ¬ nI 100 = (99 : Int32) by decide), if_pos (show nI 100 = (100 : Int32) from rfl), c_num47 hx1 set_s hl, Option.bind_some]
    cases hn : num47 len T (p + 1) with
    | none =>
      rw [nv_none, np_none, if_pos (show (-6 : Int32) < 0 by decide)]
      exact ⟨_, _, rfl, CRD.no (by rw [rd_d ha, hn, rdN_n]) ((hx1.set (by decide)).set (by decide)) rfl rfl⟩
    | some q =>
      obtain ⟨q1, q2, q3⟩ := num47_some hn
      rw [nv_some, np_some, if_neg (show ¬ nI q.1 < 0 from nI_pos (by omega))]
      exact ⟨_, _, rfl, CRD.yes (by rw [rd_d ha, hn, rdN_s]) ((hx1.set (by decide)).set (by decide)) rfl rfl rfl (fun _ => rfl) (fun e => absurd e (by decide))⟩
  · have hl : p + 1 ≤ len := (at_iff.mp ha).1
    have hx1 : TC len T (setF (setF x 3 (nI 111)) 2 (nI (p + 1))) := (h.set (by decide)).set (by decide)
    unfold fX2_readOrder
    rw [c_sign_at h hp ha, hp, nI_succ1 p]
    simp only [jn]
    rw [if_neg (show ¬ nI 111 = (99 : Int32) by decide), if_neg (show ¬ nI 111 = (100 : Int32) by decide), if_neg (show ¬ nI 111 = (101 : Int32) by decide), if_neg (show ¬ nI 111 = (102 : Int32) by decide), if_neg (show ¬ nI 111 = (103 : Int32) by decide), if_neg (show ¬ nI 111 = (104 : Int32) by decide), if_neg (show ¬ nI 111 = (105 : Int32) by decide), if_neg (show ¬ nI 111 = (106 : Int32) by decide), if_neg (show ¬ nI 111 = (107 : Int32) by decide), if_neg (show ¬ nI 111 = (108 : Int32) by decide), if_neg (show ¬ nI 111 = (109 : Int32) by decide), if_neg (show ¬ nI 111 = (110 : Int32) by decide), if_pos (show nI 111 = (111 : Int32) from rfl), c_dig7 hx1 set_s hl, Option.bind_some]
    cases hn : dig7 len T (p + 1) with
    | none =>
      rw [nv_none, np_none, if_pos (show (-6 : Int32) < 0 by decide)]
      exact ⟨_, _, rfl, CRD.no (by rw [rd_o ha, hn, rdN_n]) ((hx1.set (by decide)).set (by decide)) rfl rfl⟩
    | some q =>
      obtain ⟨q1, q2, q3⟩ := dig7_some hn
      rw [nv_some, np_some, if_neg (show ¬ nI q.1 < 0 from nI_pos (by omega))]
      exact ⟨_, _, rfl, CRD.yes (by rw [rd_o ha, hn, rdN_s]) ((hx1.set (by decide)).set (by decide)) rfl rfl rfl (fun _ => rfl) (fun e => absurd e (by decide))⟩
  · have hl : p + 1 ≤ len := (at_iff.mp ha).1
    have hx1 : TC len T (setF (setF x 3 (nI 105)) 2 (nI (p + 1))) := (h.set (by decide)).set (by decide)
    unfold fX2_readOrder
    rw [c_sign_at h hp ha, hp, nI_succ1 p]
    simp only [jn]
    rw [if_neg (show ¬ nI 105 = (99 : Int32) by decide), if_neg (show ¬ nI 105 = (100 : Int32) by decide), if_neg (show ¬ nI 105 = (101 : Int32) by decide), if_neg (show ¬ nI 105 = (102 : Int32) by decide), if_neg (show ¬ nI 105 = (103 : Int32) by decide), if_neg (show ¬ nI 105 = (104 : Int32) by decide), if_pos (show nI 105 = (105 : Int32) from rfl), c_dig7 hx1 set_s hl, Option.bind_some]
    cases hn : dig7 len T (p + 1) with
    | none =>
      rw [nv_none, np_none, if_pos (show (-6 : Int32) < 0 by decide)]
      exact ⟨_, _, rfl, CRD.no (by rw [rd_i ha, hn, rdN_n]) ((hx1.set (by decide)).set (by decide)) rfl rfl⟩
    | some q =>
      obtain ⟨q1, q2, q3⟩ := dig7_some hn
      rw [nv_some, np_some, if_neg (show ¬ nI q.1 < 0 from nI_pos (by omega))]
      exact ⟨_, _, rfl, CRD.yes (by rw [rd_i ha, hn, rdN_s]) ((hx1.set (by decide)).set (by decide)) rfl rfl rfl (fun _ => rfl) (fun e => absurd e (by decide))⟩
  · have hl : p + 1 ≤ len := (at_iff.mp ha).1
    have hx1 : TC len T (setF (setF x 3 (nI 112)) 2 (nI (p + 1))) := (h.set (by decide)).set (by decide)
    unfold fX2_readOrder
    rw [c_sign_at h hp ha, hp, nI_succ1 p]
    simp only [jn]
    rw [if_neg (show ¬ nI 112 = (99 : Int32) by decide), if_neg (show ¬ nI 112 = (100 : Int32) by decide), if_neg (show ¬ nI 112 = (101 : Int32) by decide), if_neg (show ¬ nI 112 = (102 : Int32) by decide), if_neg (show ¬ nI 112 = (103 : Int32) by decide), if_neg (show ¬ nI 112 = (104 : Int32) by decide), if_neg (show ¬ nI 112 = (105 : Int32) by decide), if_neg (show ¬ nI 112 = (106 : Int32) by decide), if_neg (show ¬ nI 112 = (107 : Int32) by decide), if_neg (show ¬ nI 112 = (108 : Int32) by decide), if_neg (show ¬ nI 112 = (109 : Int32) by decide), if_neg (show ¬ nI 112 = (110 : Int32) by decide), if_neg (show ¬ nI 112 = (111 : Int32) by decide), if_pos (show nI 112 = (112 : Int32) from rfl)]
    exact ⟨_, _, rfl, CRD.yes (rd_p ha) hx1 rfl rfl rfl (fun e => absurd rfl e) (fun e => absurd e (by decide))⟩
  · have n1 : ¬ fX2_sign x = (99 : Int32) := c_sign_ne (c := 99) h hp hpl (by decide) h1
    have n2 : ¬ fX2_sign x = (100 : Int32) := c_sign_ne (c := 100) h hp hpl (by decide) h2
    have n3 : ¬ fX2_sign x = (111 : Int32) := c_sign_ne (c := 111) h hp hpl (by decide) h3
    have n4 : ¬ fX2_sign x = (105 : Int32) := c_sign_ne (c := 105) h hp hpl (by decide) h4
    have n5 : ¬ fX2_sign x = (112 : Int32) := c_sign_ne (c := 112) h hp hpl (by decide) h5
    have e : fX2_readOrder x = some ((0 : Int32), setF x 3 (fX2_sign x)) := by
      unfold fX2_readOrder
      simp only [jn, if_neg n1, if_neg n2, if_neg n3, if_neg n4, if_neg n5, ite_self]
    exact ⟨_, _, e, CRD.no (rd_x h1 h2 h3 h4 h5) (h.set (by decide)) hp rfl⟩
theorem m_rd (h : TM len T g) (hp : g.1 5 = nI p) (hpl : p ≤ len) : ∃ f g', fX6_reads g = some (f, g') ∧ MRD len T p g f g' := by
  refine rd_cases (len := len) (T := T) (p := p) _ (fun ha => ?_) (fun ha => ?_) (fun ha => ?_) (fun ha => ?_) (fun ha => ?_) (fun h1 h2 h3 h4 h5 => ?_)
  · have hl : p + 1 ≤ len := (at_iff.mp ha).1
    have hg1 : TM len T (setF (setF g 5 (nI (p + 1))) 6 (0 : Int32)) := (h.set (by decide)).set (by decide)
    have gt1 : GT g (setF (setF g 5 (nI (p + 1))) 6 (0 : Int32)) := (GT.set (by decide)).trans (GT.set (by decide))
    unfold fX6_reads
    rw [m_takes_y (x1 := (99 : Int32)) (c := 99) h hp hpl (by decide) rfl ha, Option.bind_some, if_neg (show ¬ (1 : Int32) = 0 by decide), m_num47 hg1 rfl hl, Option.bind_some]
    cases hn : num47 len T (p + 1) with
    | none =>
      rw [nv_none, np_none, if_pos (show (-1 : Int32) = -1 from rfl)]
      exact ⟨_, _, rfl, MRD.no (by rw [rd_c ha, rdC_n hn]) ((gt1.trans (GT.set (by decide))).trans (GT.set (by decide))) rfl rfl⟩
    | some q =>
      obtain ⟨q1, q2, q3⟩ := num47_some hn
      have hg2 : TM len T (setF (setF (setF (setF g 5 (nI (p + 1))) 6 (0 : Int32)) 5 (nI q.2)) 7 (nI q.1)) := (hg1.set (by decide)).set (by decide)
      have gt2 : GT g (setF (setF (setF (setF g 5 (nI (p + 1))) 6 (0 : Int32)) 5 (nI q.2)) 7 (nI q.1)) := (gt1.trans (GT.set (by decide))).trans (GT.set (by decide))
      rw [nv_some, np_some, if_neg (show ¬ nI q.1 = (-1 : Int32) from nI_ne_of_neg (by omega) (by decide))]
      by_cases h2 : at_ len T q.2 45 = true
      · have hl2 : q.2 + 1 ≤ len := (at_iff.mp h2).1
        have hg3 := hg2.set (k := 5) (v := nI (q.2 + 1)) (by decide)
        have gt3 := gt2.trans (GT.set (k := 5) (v := nI (q.2 + 1)) (by decide))
        rw [m_takes_y (x1 := (45 : Int32)) (c := 45) hg2 rfl q2 (by decide) rfl h2, Option.bind_some, if_neg (show ¬ (1 : Int32) = 0 by decide), m_num47 hg3 rfl hl2, Option.bind_some]
        cases hn2 : num47 len T (q.2 + 1) with
        | none =>
          rw [nv_none, np_none, if_pos (show (-1 : Int32) = -1 from rfl)]
          exact ⟨_, _, rfl, MRD.no (by rw [rd_c ha, rdC_s hn h2, rdE_n hn2]) ((gt3.trans (GT.set (by decide))).trans (GT.set (by decide))) rfl rfl⟩
        | some q' =>
          obtain ⟨r1, r2, r3⟩ := num47_some hn2
          rw [nv_some, np_some, if_neg (show ¬ nI q'.1 = (-1 : Int32) from nI_ne_of_neg (by omega) (by decide))]
          exact ⟨_, _, rfl, MRD.yes (by rw [rd_c ha, rdC_s hn h2, rdE_s hn2]) ((gt3.trans (GT.set (by decide))).trans (GT.set (by decide))) rfl rfl rfl (fun _ => rfl) (fun _ => rfl)⟩
      · rw [m_takes_n (x1 := (45 : Int32)) (c := 45) hg2 rfl q2 (by decide) rfl h2, Option.bind_some, if_pos (show (0 : Int32) = 0 from rfl)]
        exact ⟨_, _, rfl, MRD.no (by rw [rd_c ha, rdC_x hn h2]) gt2 rfl rfl⟩
  · have hl : p + 1 ≤ len := (at_iff.mp ha).1
    have hg1 : TM len T (setF (setF g 5 (nI (p + 1))) 6 (1 : Int32)) := (h.set (by decide)).set (by decide)
    have gt1 : GT g (setF (setF g 5 (nI (p + 1))) 6 (1 : Int32)) := (GT.set (by decide)).trans (GT.set (by decide))
    unfold fX6_reads
    rw [m_takes_n (x1 := (99 : Int32)) (c := 99) h hp hpl (by decide) rfl (at_ne ha (by decide)), Option.bind_some, if_pos (show (0 : Int32) = 0 from rfl), m_takes_y (x1 := (100 : Int32)) (c := 100) h hp hpl (by decide) rfl ha, Option.bind_some, if_neg (show ¬ (1 : Int32) = 0 by decide), m_num47 hg1 rfl hl, Option.bind_some]
    cases hn : num47 len T (p + 1) with
    | none =>
      rw [nv_none, np_none, if_pos (show (-1 : Int32) = -1 from rfl)]
      exact ⟨_, _, rfl, MRD.no (by rw [rd_d ha, hn, rdN_n]) ((gt1.trans (GT.set (by decide))).trans (GT.set (by decide))) rfl rfl⟩
    | some q =>
      obtain ⟨q1, q2, q3⟩ := num47_some hn
      rw [nv_some, np_some, if_neg (show ¬ nI q.1 = (-1 : Int32) from nI_ne_of_neg (by omega) (by decide))]
      exact ⟨_, _, rfl, MRD.yes (by rw [rd_d ha, hn, rdN_s]) ((gt1.trans (GT.set (by decide))).trans (GT.set (by decide))) rfl rfl rfl (fun _ => rfl) (fun e => absurd e (by decide))⟩
  · have hl : p + 1 ≤ len := (at_iff.mp ha).1
    have hg1 : TM len T (setF (setF g 5 (nI (p + 1))) 6 (2 : Int32)) := (h.set (by decide)).set (by decide)
    have gt1 : GT g (setF (setF g 5 (nI (p + 1))) 6 (2 : Int32)) := (GT.set (by decide)).trans (GT.set (by decide))
    unfold fX6_reads
    rw [m_takes_n (x1 := (99 : Int32)) (c := 99) h hp hpl (by decide) rfl (at_ne ha (by decide)), Option.bind_some, if_pos (show (0 : Int32) = 0 from rfl), m_takes_n (x1 := (100 : Int32)) (c := 100) h hp hpl (by decide) rfl (at_ne ha (by decide)), Option.bind_some, if_pos (show (0 : Int32) = 0 from rfl), m_takes_y (x1 := (111 : Int32)) (c := 111) h hp hpl (by decide) rfl ha, Option.bind_some, if_neg (show ¬ (1 : Int32) = 0 by decide), Option.bind_some, if_pos (show (2 : Int32) = 2 from rfl), m_dig7 hg1 rfl hl, Option.bind_some, Option.bind_some]
    cases hn : dig7 len T (p + 1) with
    | none =>
      rw [nv_none, np_none, if_neg (show ¬ (setF (setF (setF g 5 (nI (p + 1))) 6 (2 : Int32)) 5 (nI (p + 1))).1 6 = (-1 : Int32) from (by decide : ¬ (2 : Int32) = -1)), if_pos (show (-1 : Int32) = -1 from rfl)]
      exact ⟨_, _, rfl, MRD.no (by rw [rd_o ha, hn, rdN_n]) ((gt1.trans (GT.set (by decide))).trans (GT.set (by decide))) rfl rfl⟩
    | some q =>
      obtain ⟨q1, q2, q3⟩ := dig7_some hn
      rw [nv_some, np_some, if_neg (show ¬ (setF (setF (setF g 5 (nI (p + 1))) 6 (2 : Int32)) 5 (nI q.2)).1 6 = (-1 : Int32) from (by decide : ¬ (2 : Int32) = -1)), if_neg (show ¬ nI q.1 = (-1 : Int32) from nI_ne_of_neg (by omega) (by decide))]
      exact ⟨_, _, rfl, MRD.yes (by rw [rd_o ha, hn, rdN_s]) ((gt1.trans (GT.set (by decide))).trans (GT.set (by decide))) rfl rfl rfl (fun _ => rfl) (fun e => absurd e (by decide))⟩
  · have hl : p + 1 ≤ len := (at_iff.mp ha).1
    have hg1 : TM len T (setF (setF g 5 (nI (p + 1))) 6 (3 : Int32)) := (h.set (by decide)).set (by decide)
    have gt1 : GT g (setF (setF g 5 (nI (p + 1))) 6 (3 : Int32)) := (GT.set (by decide)).trans (GT.set (by decide))
    unfold fX6_reads
    rw [m_takes_n (x1 := (99 : Int32)) (c := 99) h hp hpl (by decide) rfl (at_ne ha (by decide)), Option.bind_some, if_pos (show (0 : Int32) = 0 from rfl), m_takes_n (x1 := (100 : Int32)) (c := 100) h hp hpl (by decide) rfl (at_ne ha (by decide)), Option.bind_some, if_pos (show (0 : Int32) = 0 from rfl), m_takes_n (x1 := (111 : Int32)) (c := 111) h hp hpl (by decide) rfl (at_ne ha (by decide)), Option.bind_some, if_pos (show (0 : Int32) = 0 from rfl), m_takes_y (x1 := (105 : Int32)) (c := 105) h hp hpl (by decide) rfl ha, Option.bind_some, if_neg (show ¬ (1 : Int32) = 0 by decide), Option.bind_some, if_neg (show ¬ (3 : Int32) = 2 by decide), if_pos (show (3 : Int32) = 3 from rfl), m_dig7 hg1 rfl hl, Option.bind_some, Option.bind_some]
    cases hn : dig7 len T (p + 1) with
    | none =>
      rw [nv_none, np_none, if_neg (show ¬ (setF (setF (setF g 5 (nI (p + 1))) 6 (3 : Int32)) 5 (nI (p + 1))).1 6 = (-1 : Int32) from (by decide : ¬ (3 : Int32) = -1)), if_pos (show (-1 : Int32) = -1 from rfl)]
      exact ⟨_, _, rfl, MRD.no (by rw [rd_i ha, hn, rdN_n]) ((gt1.trans (GT.set (by decide))).trans (GT.set (by decide))) rfl rfl⟩
    | some q =>
      obtain ⟨q1, q2, q3⟩ := dig7_some hn
      rw [nv_some, np_some, if_neg (show ¬ (setF (setF (setF g 5 (nI (p + 1))) 6 (3 : Int32)) 5 (nI q.2)).1 6 = (-1 : Int32) from (by decide : ¬ (3 : Int32) = -1)), if_neg (show ¬ nI q.1 = (-1 : Int32) from nI_ne_of_neg (by omega) (by decide))]
      exact ⟨_, _, rfl, MRD.yes (by rw [rd_i ha, hn, rdN_s]) ((gt1.trans (GT.set (by decide))).trans (GT.set (by decide))) rfl rfl rfl (fun _ => rfl) (fun e => absurd e (by decide))⟩
  · have hl : p + 1 ≤ len := (at_iff.mp ha).1
    have gt1 : GT g (setF (setF (setF g 5 (nI (p + 1))) 6 (4 : Int32)) 7 (0 : Int32)) := ((GT.set (by decide)).trans (GT.set (by decide))).trans (GT.set (by decide))
    unfold fX6_reads
    rw [m_takes_n (x1 := (99 : Int32)) (c := 99) h hp hpl (by decide) rfl (at_ne ha (by decide)), Option.bind_some, if_pos (show (0 : Int32) = 0 from rfl), m_takes_n (x1 := (100 : Int32)) (c := 100) h hp hpl (by decide) rfl (at_ne ha (by decide)), Option.bind_some, if_pos (show (0 : Int32) = 0 from rfl), m_takes_n (x1 := (111 : Int32)) (c := 111) h hp hpl (by decide) rfl (at_ne ha (by decide)), Option.bind_some, if_pos (show (0 : Int32) = 0 from rfl), m_takes_n (x1 := (105 : Int32)) (c := 105) h hp hpl (by decide) rfl (at_ne ha (by decide)), Option.bind_some, if_pos (show (0 : Int32) = 0 from rfl), m_takes_y (x1 := (112 : Int32)) (c := 112) h hp hpl (by decide) rfl ha, Option.bind_some, if_neg (show ¬ (1 : Int32) = 0 by decide), Option.bind_some, if_neg (show ¬ (4 : Int32) = 2 by decide), if_neg (show ¬ (4 : Int32) = 3 by decide), Option.bind_some, if_neg (show ¬ (setF (setF g 5 (nI (p + 1))) 6 (4 : Int32)).1 6 = (-1 : Int32) from (by decide : ¬ (4 : Int32) = -1)), if_neg (show ¬ (0 : Int32) = -1 by decide)]
    exact ⟨_, _, rfl, MRD.yes (rd_p ha) gt1 rfl rfl rfl (fun e => absurd rfl e) (fun e => absurd e (by decide))⟩
  · have gt1 : GT g (setF (setF g 6 (-1 : Int32)) 7 (0 : Int32)) := (GT.set (by decide)).trans (GT.set (by decide))
    unfold fX6_reads
    rw [m_takes_n (x1 := (99 : Int32)) (c := 99) h hp hpl (by decide) rfl h1, Option.bind_some, if_pos (show (0 : Int32) = 0 from rfl), m_takes_n (x1 := (100 : Int32)) (c := 100) h hp hpl (by decide) rfl h2, Option.bind_some, if_pos (show (0 : Int32) = 0 from rfl), m_takes_n (x1 := (111 : Int32)) (c := 111) h hp hpl (by decide) rfl h3, Option.bind_some, if_pos (show (0 : Int32) = 0 from rfl), m_takes_n (x1 := (105 : Int32)) (c := 105) h hp hpl (by decide) rfl h4, Option.bind_some, if_pos (show (0 : Int32) = 0 from rfl), m_takes_n (x1 := (112 : Int32)) (c := 112) h hp hpl (by decide) rfl h5, Option.bind_some, if_pos (show (0 : Int32) = 0 from rfl), Option.bind_some, if_neg (show ¬ (-1 : Int32) = 2 by decide), if_neg (show ¬ (-1 : Int32) = 3 by decide), Option.bind_some, if_pos (show (setF g 6 (-1 : Int32)).1 6 = (-1 : Int32) from rfl)]
    exact ⟨_, _, rfl, MRD.no (rd_x h1 h2 h3 h4 h5) gt1 hp rfl⟩
end RR
