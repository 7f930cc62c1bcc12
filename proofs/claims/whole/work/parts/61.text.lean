/-! texts: both sides read orders alike -/
/-- the class's text: len signs T -/
def TC (len : Nat) (T : Nat → Nat) (x : OS) : Prop := x.1 1 = nI len ∧ len ≤ 60 ∧ ∀ k, k < len → T k < 65536 ∧ x.2 0 k = nI (T k)
/-- the model's text -/
def TM (len : Nat) (T : Nat → Nat) (g : OS) : Prop := g.1 4 = nI len ∧ len ≤ 60 ∧ ∀ k, k < len → T k < 65536 ∧ g.2 1 k = nI (T k)
def at_ (len : Nat) (T : Nat → Nat) (p c : Nat) : Bool := decide (p < len) && (T p == c)
def dg (len : Nat) (T : Nat → Nat) (p : Nat) : Option Nat := if p < len ∧ 48 ≤ T p ∧ T p ≤ 57 then some (T p - 48) else none
def num47 (len : Nat) (T : Nat → Nat) (p : Nat) : Option (Nat × Nat) := match dg len T p with
  | none => none
  | some d => if d = 0 then some (0, p + 1) else match dg len T (p + 1) with
    | none => some (d, p + 1)
    | some e => if 47 < 10 * d + e then some (d, p + 1) else some (10 * d + e, p + 2)
def dig7 (len : Nat) (T : Nat → Nat) (p : Nat) : Option (Nat × Nat) := match dg len T p with
  | none => none
  | some d => if d ≤ 7 then some (d, p + 1) else none
def np (p : Nat) (r : Option (Nat × Nat)) : Nat := match r with
  | none => p
  | some q => q.2
def nv (z : Int32) (r : Option (Nat × Nat)) : Int32 := match r with
  | none => z
  | some q => nI q.1
theorem at_iff {len : Nat} {T : Nat → Nat} {p c : Nat} : at_ len T p c = true ↔ p < len ∧ T p = c := by
  unfold at_; simp
theorem dg_some {len : Nat} {T : Nat → Nat} {p d : Nat} (h : dg len T p = some d) : p < len ∧ 48 ≤ T p ∧ T p ≤ 57 ∧ d = T p - 48 := by
  unfold dg at h
  by_cases hc : p < len ∧ 48 ≤ T p ∧ T p ≤ 57
  · rw [if_pos hc] at h; cases h; exact ⟨hc.1, hc.2.1, hc.2.2, rfl⟩
  · rw [if_neg hc] at h; cases h
theorem dg_none {len : Nat} {T : Nat → Nat} {p : Nat} (h : dg len T p = none) : ¬ (p < len ∧ 48 ≤ T p ∧ T p ≤ 57) := by
  intro hc
  unfold dg at h
  rw [if_pos hc] at h; cases h
theorem num47_n {len : Nat} {T : Nat → Nat} {p : Nat} (h : dg len T p = none) : num47 len T p = none := by
  unfold num47; rw [h]
theorem num47_0 {len : Nat} {T : Nat → Nat} {p : Nat} (h : dg len T p = some 0) : num47 len T p = some (0, p + 1) := by
  unfold num47; rw [h]; exact if_pos rfl
theorem num47_1 {len : Nat} {T : Nat → Nat} {p d : Nat} (h : dg len T p = some d) (h0 : d ≠ 0) (h2 : dg len T (p + 1) = none) : num47 len T p = some (d, p + 1) := by
  unfold num47; rw [h, h2]; exact if_neg h0
theorem num47_2 {len : Nat} {T : Nat → Nat} {p d e : Nat} (h : dg len T p = some d) (h0 : d ≠ 0) (h2 : dg len T (p + 1) = some e) (hx : 47 < 10 * d + e) : num47 len T p = some (d, p + 1) := by
  unfold num47; rw [h, h2]; exact (if_neg h0).trans (if_pos hx)
theorem num47_3 {len : Nat} {T : Nat → Nat} {p d e : Nat} (h : dg len T p = some d) (h0 : d ≠ 0) (h2 : dg len T (p + 1) = some e) (hx : ¬ 47 < 10 * d + e) : num47 len T p = some (10 * d + e, p + 2) := by
  unfold num47; rw [h, h2]; exact (if_neg h0).trans (if_neg hx)
theorem num47_some {len : Nat} {T : Nat → Nat} {p : Nat} {r : Nat × Nat} (h : num47 len T p = some r) : p < r.2 ∧ r.2 ≤ len ∧ r.1 ≤ 47 := by
  cases hd : dg len T p with
  | none => rw [num47_n hd] at h; cases h
  | some d =>
    obtain ⟨h1, h2, h3, h4⟩ := dg_some hd
    by_cases h0 : d = 0
    · subst h0
      rw [num47_0 hd] at h; cases h; exact ⟨by show p < p + 1; omega, by show p + 1 ≤ len; omega, by show 0 ≤ 47; omega⟩
    · cases he : dg len T (p + 1) with
      | none => rw [num47_1 hd h0 he] at h; cases h; exact ⟨by show p < p + 1; omega, by show p + 1 ≤ len; omega, by show d ≤ 47; omega⟩
      | some e =>
        obtain ⟨g1, g2, g3, g4⟩ := dg_some he
        by_cases hx : 47 < 10 * d + e
        · rw [num47_2 hd h0 he hx] at h; cases h; exact ⟨by show p < p + 1; omega, by show p + 1 ≤ len; omega, by show d ≤ 47; omega⟩
        · rw [num47_3 hd h0 he hx] at h; cases h; exact ⟨by show p < p + 2; omega, by show p + 2 ≤ len; omega, by show 10 * d + e ≤ 47; omega⟩
theorem dig7_n {len : Nat} {T : Nat → Nat} {p : Nat} (h : dg len T p = none) : dig7 len T p = none := by
  unfold dig7; rw [h]
theorem dig7_y {len : Nat} {T : Nat → Nat} {p d : Nat} (h : dg len T p = some d) (h7 : d ≤ 7) : dig7 len T p = some (d, p + 1) := by
  unfold dig7; rw [h]; exact if_pos h7
theorem dig7_x {len : Nat} {T : Nat → Nat} {p d : Nat} (h : dg len T p = some d) (h7 : ¬ d ≤ 7) : dig7 len T p = none := by
  unfold dig7; rw [h]; exact if_neg h7
theorem dig7_some {len : Nat} {T : Nat → Nat} {p : Nat} {r : Nat × Nat} (h : dig7 len T p = some r) : p < r.2 ∧ r.2 ≤ len ∧ r.1 ≤ 7 := by
  cases hd : dg len T p with
  | none => rw [dig7_n hd] at h; cases h
  | some d =>
    obtain ⟨h1, -⟩ := dg_some hd
    by_cases h0 : d ≤ 7
    · rw [dig7_y hd h0] at h; cases h; exact ⟨by show p < p + 1; omega, by show p + 1 ≤ len; omega, h0⟩
    · rw [dig7_x hd h0] at h; cases h
theorem np_none {p : Nat} : np p none = p := rfl
theorem np_some {p : Nat} {q : Nat × Nat} : np p (some q) = q.2 := rfl
theorem nv_none {z : Int32} : nv z none = z := rfl
theorem nv_some {z : Int32} {q : Nat × Nat} : nv z (some q) = nI q.1 := rfl
theorem setF_same {x : OS} {k : Nat} {v : Int32} (h : x.1 k = v) : setF x k v = x := by
  unfold setF; rw [upd_self h]
theorem setF_setF {x : OS} {k : Nat} {v v' : Int32} : setF (setF x k v) k v' = setF x k v' := by
  unfold setF; rw [upd_upd]
theorem lt9 {d : Nat} (h : d ≤ 9) : ¬ (9 : Int32) < nI d := nI_nlt (b := d) (a := 9) h (by decide)
theorem lt47 {m : Nat} (h : 47 < m) (hm : m < 2 ^ 31) : (47 : Int32) < nI m := nI_lt (a := 47) h hm
theorem nlt47 {m : Nat} (h : m ≤ 47) : ¬ (47 : Int32) < nI m := nI_nlt (b := m) (a := 47) h (by decide)
section TX
variable {len : Nat} {T : Nat → Nat} {x g : OS} {p : Nat}
theorem TC.set (h : TC len T x) {k : Nat} {v : Int32} (hk : k ≠ 1) : TC len T (setF x k v) := ⟨(pk_un (Ne.symm hk)).trans h.1, h.2⟩
theorem TM.set (h : TM len T g) {k : Nat} {v : Int32} (hk : k ≠ 4) : TM len T (setF g k v) := ⟨(pk_un (Ne.symm hk)).trans h.1, h.2⟩
theorem c_sign_in (h : TC len T x) (hp : x.1 2 = nI p) (hl : p < len) : fX2_sign x = nI (T p) := by
  have h60 := h.2.1
  unfold fX2_sign
  rw [h.1, hp, if_neg (nI_ge hl (by omega)), rget_in (by omega) (by decide)]
  exact (h.2.2 p hl).2
theorem c_sign_out (h : TC len T x) (hp : x.1 2 = nI p) (hl : ¬ p < len) (hp60 : p ≤ 60) : fX2_sign x = (-6 : Int32) := by
  have h60 := h.2.1
  unfold fX2_sign
  rw [h.1, hp, if_pos (nI_le (by omega) (by omega))]
theorem c_dg_none (h : TC len T x) (hp : x.1 2 = nI p) (hp60 : p ≤ 60) (hd : dg len T p = none) : fX2_sign x - (48 : Int32) < 0 ∨ (¬ fX2_sign x - (48 : Int32) < 0 ∧ (9 : Int32) < fX2_sign x - (48 : Int32)) := by
  by_cases hl : p < len
  · rw [c_sign_in h hp hl]
    have ht := (h.2.2 p hl).1
    have hn := dg_none hd
    by_cases h48 : T p < 48
    · left
      exact pk_sneg (a := T p) (b := 48) (by decide) h48
    · right
      have e : nI (T p) - (48 : Int32) = nI (T p - 48) := pk_sub (a := T p) (b := 48) (by omega)
      rw [e]
      refine ⟨nI_pos (by omega), ?_⟩
      exact nI_lt (a := 9) (by omega) (by omega)
  · left
    rw [c_sign_out h hp hl hp60]; decide
theorem c_dg_some (h : TC len T x) (hp : x.1 2 = nI p) {d : Nat} (hd : dg len T p = some d) : fX2_sign x - (48 : Int32) = nI d ∧ d ≤ 9 := by
  obtain ⟨h1, h2, h3, h4⟩ := dg_some hd
  rw [c_sign_in h hp h1, h4]
  exact ⟨pk_sub (a := T p) (b := 48) h2, by omega⟩
theorem c_num_none {gr : Int32} (h : TC len T x) (hp : x.1 2 = nI p) (hp60 : p ≤ 60) (hd : dg len T p = none) (k : Nat) (x2 x3 : Int32) : fX2_readNumber_5 gr (k + 1) x2 x3 x = some (x2, x) := by
  rw [fX2_readNumber_5_s]
  by_cases h60 : (60 : Int32) ≤ x3
  · rw [if_pos h60]
  · rw [if_neg h60]
    rcases c_dg_none h hp hp60 hd with h1 | ⟨h1, h2⟩
    · rw [if_pos h1]
    · rw [if_neg h1, if_pos h2]
/-- the number is full -/
theorem c_num_stop {gr v : Nat} (h : TC len T x) (hp : x.1 2 = nI p) (hp60 : p ≤ 60) (hgr : gr < 1000) (hv : v < 1000) (hs : v = 0 ∨ gr < v * 10) (k : Nat) (x3 : Int32) : fX2_readNumber_5 (nI gr) (k + 1) (nI v) x3 x = some (nI v, x) := by
  cases hd : dg len T p with
  | none => exact c_num_none h hp hp60 hd k _ _
  | some d =>
    obtain ⟨h1, h2⟩ := c_dg_some h hp hd
    rw [fX2_readNumber_5_s]
    by_cases h60 : (60 : Int32) ≤ x3
    · rw [if_pos h60]
    · rw [if_neg h60, h1, if_neg (nI_pos (by omega)), if_neg (lt9 (by omega))]
      by_cases h0 : v = 0
      · rw [if_pos (by rw [h0]; rfl)]
      · have hs := hs.resolve_left h0
        have e : nI v * (10 : Int32) + nI d = nI (v * 10 + d) := by
          rw [show (10 : Int32) = nI 10 from rfl, pk_mul, nI_add]
        rw [if_neg (nI_ne0 (by omega) (by omega)), if_neg (nI_pos (by omega)), e, if_neg (nI_ge (by omega) (by omega))]
/-- one more digit -/
theorem c_num_first {gr d : Nat} (h : TC len T x) (hp : x.1 2 = nI p) (hd : dg len T p = some d) (hgr : gr < 1000) (k : Nat) : fX2_readNumber_5 (nI gr) (k + 1) (-6 : Int32) (0 : Int32) x = if d ≤ gr then fX2_readNumber_5 (nI gr) k (nI d) (1 : Int32) (setF x 2 (nI (p + 1))) else some ((-6 : Int32), x) := by
  obtain ⟨h1, h2⟩ := c_dg_some h hp hd
  rw [fX2_readNumber_5_s, if_neg (by decide), h1, if_neg (nI_pos (by omega)), if_neg (lt9 (by omega)), if_neg (by decide : ¬ (-6 : Int32) = 0), if_pos (by decide : (-6 : Int32) < 0), show (0 : Int32) * (10 : Int32) + nI d = nI d by rw [show (0 : Int32) * (10 : Int32) = nI 0 from rfl, nI_add, Nat.zero_add]]
  by_cases hg : d ≤ gr
  · rw [if_pos (nI_le hg (by omega)), if_pos hg, hp, nI_succ1]; rfl
  · rw [if_neg (nI_ge (by omega) (by omega)), if_neg hg]
theorem c_num_next {gr v d : Nat} (h : TC len T x) (hp : x.1 2 = nI p) (hd : dg len T p = some d) (hgr : gr < 1000) (hv : v < 1000) (h0 : v ≠ 0) (k : Nat) : fX2_readNumber_5 (nI gr) (k + 1) (nI v) (1 : Int32) x = if 10 * v + d ≤ gr then fX2_readNumber_5 (nI gr) k (nI (10 * v + d)) (2 : Int32) (setF x 2 (nI (p + 1))) else some (nI v, x) := by
  obtain ⟨h1, h2⟩ := c_dg_some h hp hd
  have e : nI v * (10 : Int32) + nI d = nI (10 * v + d) := by
    rw [show (10 : Int32) = nI 10 from rfl, pk_mul, nI_add, Nat.mul_comm]
  rw [fX2_readNumber_5_s, if_neg (by decide), h1, if_neg (nI_pos (by omega)), if_neg (lt9 (by omega)), if_neg (nI_ne0 (by omega) (by omega)), if_neg (nI_pos (by omega)), e]
  by_cases hg : 10 * v + d ≤ gr
  · rw [if_pos (nI_le hg (by omega)), if_pos hg, hp, nI_succ1]; rfl
  · rw [if_neg (nI_ge (by omega) (by omega)), if_neg hg]
theorem c_num47 (h : TC len T x) (hp : x.1 2 = nI p) (hpl : p ≤ len) : fX2_readNumber x (47 : Int32) = some (nv (-6) (num47 len T p), setF x 2 (nI (np p (num47 len T p)))) := by
  have h60 := h.2.1
  have e : fX2_readNumber x (47 : Int32) = fX2_readNumber_5 (nI 47) (999997 + 1 + 1 + 1) (-6 : Int32) (0 : Int32) x := rfl
  rw [e]
  cases hd : dg len T p with
  | none => rw [c_num_none h hp (by omega) hd, num47_n hd, nv_none, np_none, setF_same hp]
  | some d =>
    obtain ⟨hl, -, -, -⟩ := dg_some hd
    have h9 := (c_dg_some h hp hd).2
    have hx1 := h.set (k := 2) (v := nI (p + 1)) (by decide)
    rw [c_num_first h hp hd (by decide), if_pos (by omega)]
    by_cases h0 : d = 0
    · rw [c_num_stop hx1 rfl (by omega) (by decide) (by omega) (Or.inl h0)]
      subst h0
      rw [num47_0 hd]; rfl
    · cases he : dg len T (p + 1) with
      | none => rw [c_num_none hx1 rfl (by omega) he, num47_1 hd h0 he]; rfl
      | some e =>
        obtain ⟨hl2, -, -, -⟩ := dg_some he
        have h92 := (c_dg_some hx1 rfl he).2
        rw [c_num_next hx1 rfl he (by decide) (by omega) h0]
        by_cases hx : 47 < 10 * d + e
        · rw [if_neg (by omega), num47_2 hd h0 he hx]; rfl
        · have hx2 := hx1.set (k := 2) (v := nI (p + 1 + 1)) (by decide)
          rw [if_pos (by omega), c_num_stop hx2 rfl (by omega) (by decide) (by omega) (Or.inr (by omega)), setF_setF, num47_3 hd h0 he hx]; rfl
theorem c_dig7 (h : TC len T x) (hp : x.1 2 = nI p) (hpl : p ≤ len) : fX2_readNumber x (7 : Int32) = some (nv (-6) (dig7 len T p), setF x 2 (nI (np p (dig7 len T p)))) := by
  have h60 := h.2.1
  have e : fX2_readNumber x (7 : Int32) = fX2_readNumber_5 (nI 7) (999998 + 1 + 1) (-6 : Int32) (0 : Int32) x := rfl
  rw [e]
  cases hd : dg len T p with
  | none => rw [c_num_none h hp (by omega) hd, dig7_n hd, nv_none, np_none, setF_same hp]
  | some d =>
    obtain ⟨hl, -, -, -⟩ := dg_some hd
    have h9 := (c_dg_some h hp hd).2
    have hx1 := h.set (k := 2) (v := nI (p + 1)) (by decide)
    rw [c_num_first h hp hd (by decide)]
    by_cases h7 : d ≤ 7
    · rw [if_pos h7, c_num_stop hx1 rfl (by omega) (by decide) (by omega) (by omega), dig7_y hd h7]; rfl
    · rw [if_neg h7, dig7_x hd h7, nv_none, np_none, setF_same hp]
theorem c_skip {c : Nat} {x1 : Int32} (h : TC len T x) (hp : x.1 2 = nI p) (hpl : p ≤ len) (hc : c < 2 ^ 31) (hx : x1 = nI c) : fX2_skip x x1 = ((if at_ len T p c = true then (1 : Int32) else (0 : Int32)), setF x 2 (nI (if at_ len T p c = true then p + 1 else p))) := by
  have h60 := h.2.1
  subst hx
  unfold fX2_skip
  by_cases ha : at_ len T p c = true
  · obtain ⟨h1, h2⟩ := at_iff.mp ha
    rw [if_pos ha, if_pos ha, c_sign_in h hp h1, h2, if_pos rfl, hp, nI_succ1]; rfl
  · rw [if_neg ha, if_neg ha, setF_same hp, if_neg]
    by_cases hl : p < len
    · rw [c_sign_in h hp hl, nI_eq (by have := (h.2.2 p hl).1; omega) hc]
      exact fun e => ha (at_iff.mpr ⟨hl, e⟩)
    · rw [c_sign_out h hp hl (by omega)]
      exact fun e => nI_ne_of_neg hc (by decide) e.symm
/-! the model -/
theorem m_here {a b : Nat} {x1 x2 : Int32} (h : TM len T g) (hp : g.1 5 = nI p) (hpl : p ≤ len) (ha : a < 2 ^ 31) (hb : b < 2 ^ 31) (h1 : x1 = nI a) (h2 : x2 = nI b) : fX6_isHere g x1 x2 = some (if p < len ∧ a ≤ T p ∧ T p ≤ b then (1 : Int32) else (0 : Int32)) := by
  have h60 := h.2.1
  subst h1 h2
  unfold fX6_isHere fX6_in
  rw [h.1, hp]
  by_cases hl : p < len
  · have ht := (h.2.2 p hl).1
    rw [if_neg (nI_ge hl (by omega)), if_pos (inb_nI (by omega) (by decide)), nI_clamp (by omega), (h.2.2 p hl).2]
    by_cases hlo : a ≤ T p
    · rw [if_neg (nI_nlt hlo (by omega))]
      by_cases hhi : T p ≤ b
      · rw [if_neg (nI_nlt hhi hb), if_neg ne10, if_pos ⟨hl, hlo, hhi⟩]
      · rw [if_pos (nI_lt (by omega) (by omega)), if_pos rfl, if_neg (fun e => hhi e.2.2)]
    · rw [if_pos (nI_lt (by omega) ha), if_pos rfl, if_neg (fun e => hlo e.2.1)]
  · rw [if_pos (nI_le (by omega) (by omega)), if_neg (fun e => hl e.1)]
theorem m_takes {c : Nat} {x1 : Int32} (h : TM len T g) (hp : g.1 5 = nI p) (hpl : p ≤ len) (hc : c < 2 ^ 31) (hx : x1 = nI c) : fX6_takes g x1 = some ((if at_ len T p c = true then (1 : Int32) else (0 : Int32)), setF g 5 (nI (if at_ len T p c = true then p + 1 else p))) := by
  unfold fX6_takes
  rw [m_here h hp hpl hc hc hx hx, Option.bind_some]
  simp only [jn]
  by_cases ha : at_ len T p c = true
  · obtain ⟨h1, h2⟩ := at_iff.mp ha
    rw [if_pos (show p < len ∧ c ≤ T p ∧ T p ≤ c by omega), if_neg ne10, if_pos ha, if_pos ha, hp, nI_succ1]
  · rw [if_neg (show ¬ (p < len ∧ c ≤ T p ∧ T p ≤ c) from fun e => ha (at_iff.mpr ⟨e.1, by omega⟩)), if_pos rfl, if_neg ha, if_neg ha, hp, nI_add0]
theorem m_digit_at (h : TM len T g) {q d : Nat} (hd : dg len T q = some d) : (g.2 1) (nI q).toNatClampNeg = nI (d + 48) ∧ inb (nI q) 60 = true ∧ d ≤ 9 := by
  obtain ⟨h1, h2, h3, h4⟩ := dg_some hd
  have h60 := h.2.1
  rw [nI_clamp (by omega), (h.2.2 q h1).2, h4, Nat.sub_add_cancel h2]
  exact ⟨rfl, inb_nI (by omega) (by decide), by omega⟩
theorem m_here_dig (h : TM len T g) (hp : g.1 5 = nI p) (hpl : p ≤ len) : fX6_isHere g (48 : Int32) (57 : Int32) = some (if (dg len T p).isSome = true then (1 : Int32) else (0 : Int32)) := by
  rw [m_here (x1 := (48 : Int32)) (x2 := (57 : Int32)) h hp hpl (a := 48) (b := 57) (by decide) (by decide) rfl rfl]
  unfold dg
  by_cases hc : p < len ∧ 48 ≤ T p ∧ T p ≤ 57
  · rw [if_pos hc, if_pos hc]; rfl
  · rw [if_neg hc, if_neg hc]; rfl
theorem sub48 (d : Nat) : nI (d + 48) - (48 : Int32) = nI d := by
  have := pk_sub (a := d + 48) (b := 48) (by omega)
  rw [Nat.add_sub_cancel] at this
  exact this
theorem m_num47 (h : TM len T g) (hp : g.1 5 = nI p) (hpl : p ≤ len) : fX6_number g = some (nv (-1) (num47 len T p), setF g 5 (nI (np p (num47 len T p)))) := by
  have h60 := h.2.1
  unfold fX6_number
  rw [m_here_dig h hp hpl, Option.bind_some, hp]
  cases hd : dg len T p with
  | none => rw [if_neg (by decide : ¬ (none : Option Nat).isSome = true), if_pos rfl, num47_n hd, nv_none, np_none, setF_same hp]
  | some d =>
    obtain ⟨h1, h2, h9⟩ := m_digit_at h hd
    obtain ⟨hl, -⟩ := dg_some hd
    rw [if_pos (by rfl : (some d).isSome = true), if_neg ne10, if_pos h2, h1, sub48, nI_succ1]
    simp only [jn]
    by_cases h0 : d = 0
    · subst h0
      rw [if_pos (by decide), num47_0 hd]; rfl
    · have hg1 : TM len T (setF g 5 (nI (p + 1))) := h.set (by decide)
      rw [if_neg (nI_nle (by omega) (by omega)), m_here_dig hg1 rfl (by omega), Option.bind_some]
      cases he : dg len T (p + 1) with
      | none => rw [if_neg (by decide : ¬ (none : Option Nat).isSome = true), if_pos rfl, num47_1 hd h0 he]; rfl
      | some e =>
        obtain ⟨g1, g2, g9⟩ := m_digit_at h he
        have ee : ((10 : Int32) * nI d + nI (e + 48)) - (48 : Int32) = nI (10 * d + e) := by
          rw [show (10 : Int32) = nI 10 from rfl, pk_mul, nI_add, ← Nat.add_assoc]
          exact sub48 _
        rw [if_pos (by rfl : (some e).isSome = true), if_neg ne10, if_pos g2, g1, ee]
        by_cases hx : 47 < 10 * d + e
        · rw [if_pos (lt47 hx (by omega)), num47_2 hd h0 he hx]; rfl
        · rw [if_neg (nlt47 (m := 10 * d + e) (by omega)), if_pos g2, nI_succ1, num47_3 hd h0 he hx]; rfl
theorem m_dig7 (h : TM len T g) (hp : g.1 5 = nI p) (hpl : p ≤ len) : fX6_digit g = some (nv (-1) (dig7 len T p), setF g 5 (nI (np p (dig7 len T p)))) := by
  have h60 := h.2.1
  unfold fX6_digit
  rw [m_here (x1 := (48 : Int32)) (x2 := (55 : Int32)) h hp hpl (a := 48) (b := 55) (by decide) (by decide) rfl rfl, Option.bind_some, hp, nI_succ1]
  simp only [jn]
  cases hd : dg len T p with
  | none =>
    have hn := dg_none hd
    rw [if_neg (show ¬ (p < len ∧ 48 ≤ T p ∧ T p ≤ 55) from fun e => hn ⟨e.1, e.2.1, by omega⟩), if_pos rfl, dig7_n hd, nv_none, np_none, setF_same hp]
  | some d =>
    obtain ⟨h1, h2, h9⟩ := m_digit_at h hd
    obtain ⟨hl, hlo, hhi, hde⟩ := dg_some hd
    by_cases h7 : d ≤ 7
    · have e1 : nI (p + 1) - (1 : Int32) = nI p := nI_pred p
      rw [if_pos (show p < len ∧ 48 ≤ T p ∧ T p ≤ 55 from ⟨hl, hlo, by omega⟩), if_neg ne10, e1, if_pos h2, h1, sub48, dig7_y hd h7]; rfl
    · rw [if_neg (show ¬ (p < len ∧ 48 ≤ T p ∧ T p ≤ 55) from fun e => h7 (by omega)), if_pos rfl, dig7_x hd h7, nv_none, np_none, setF_same hp]
end TX
/-- one order from place p: its letter and numbers, if it is one, and the place behind it (or of its fault) -/
abbrev RD : Type := Option (Nat × Nat × Nat) × Nat
def rdE (len : Nat) (T : Nat → Nat) (v p : Nat) : RD := match num47 len T p with
  | none => (none, p)
  | some q => (some (99, v, q.1), q.2)
def rdC (len : Nat) (T : Nat → Nat) (p : Nat) : RD := match num47 len T p with
  | none => (none, p)
  | some q => if at_ len T q.2 45 = true then rdE len T q.1 (q.2 + 1) else (none, q.2)
def rdN (k p : Nat) (r : Option (Nat × Nat)) : RD := match r with
  | none => (none, p)
  | some q => (some (k, q.1, 0), q.2)
def rd (len : Nat) (T : Nat → Nat) (p : Nat) : RD :=
  if at_ len T p 99 = true then rdC len T (p + 1)
  else if at_ len T p 100 = true then rdN 100 (p + 1) (num47 len T (p + 1))
  else if at_ len T p 111 = true then rdN 111 (p + 1) (dig7 len T (p + 1))
  else if at_ len T p 105 = true then rdN 105 (p + 1) (dig7 len T (p + 1))
  else if at_ len T p 112 = true then (some (112, 0, 0), p + 1)
  else (none, p)
theorem rdE_n {len : Nat} {T : Nat → Nat} {v p : Nat} (h : num47 len T p = none) : rdE len T v p = (none, p) := by
  unfold rdE; rw [h]
theorem rdE_s {len : Nat} {T : Nat → Nat} {v p : Nat} {q : Nat × Nat} (h : num47 len T p = some q) : rdE len T v p = (some (99, v, q.1), q.2) := by
  unfold rdE; rw [h]
theorem rdC_n {len : Nat} {T : Nat → Nat} {p : Nat} (h : num47 len T p = none) : rdC len T p = (none, p) := by
  unfold rdC; rw [h]
theorem rdC_s {len : Nat} {T : Nat → Nat} {p : Nat} {q : Nat × Nat} (h : num47 len T p = some q) (h2 : at_ len T q.2 45 = true) : rdC len T p = rdE len T q.1 (q.2 + 1) := by
  unfold rdC; rw [h]; exact if_pos h2
theorem rdC_x {len : Nat} {T : Nat → Nat} {p : Nat} {q : Nat × Nat} (h : num47 len T p = some q) (h2 : ¬ at_ len T q.2 45 = true) : rdC len T p = (none, q.2) := by
  unfold rdC; rw [h]; exact if_neg h2
theorem rdN_n {k p : Nat} : rdN k p none = (none, p) := rfl
theorem rdN_s {k p : Nat} {q : Nat × Nat} : rdN k p (some q) = (some (k, q.1, 0), q.2) := rfl
section RDS
variable {len : Nat} {T : Nat → Nat} {p : Nat}
theorem at_ne {c c' : Nat} (h : at_ len T p c = true) (hc : c ≠ c') : ¬ at_ len T p c' = true := fun e => hc ((at_iff.mp h).2.symm.trans (at_iff.mp e).2)
theorem rd_c (h : at_ len T p 99 = true) : rd len T p = rdC len T (p + 1) := by unfold rd; rw [if_pos h]
theorem rd_d (h : at_ len T p 100 = true) : rd len T p = rdN 100 (p + 1) (num47 len T (p + 1)) := by
  unfold rd; rw [if_neg (at_ne h (by decide)), if_pos h]
theorem rd_o (h : at_ len T p 111 = true) : rd len T p = rdN 111 (p + 1) (dig7 len T (p + 1)) := by
  unfold rd; rw [if_neg (at_ne h (by decide)), if_neg (at_ne h (by decide)), if_pos h]
theorem rd_i (h : at_ len T p 105 = true) : rd len T p = rdN 105 (p + 1) (dig7 len T (p + 1)) := by
  unfold rd; rw [if_neg (at_ne h (by decide)), if_neg (at_ne h (by decide)), if_neg (at_ne h (by decide)), if_pos h]
theorem rd_p (h : at_ len T p 112 = true) : rd len T p = (some (112, 0, 0), p + 1) := by
  unfold rd; rw [if_neg (at_ne h (by decide)), if_neg (at_ne h (by decide)), if_neg (at_ne h (by decide)), if_neg (at_ne h (by decide)), if_pos h]
theorem rd_x (h1 : ¬ at_ len T p 99 = true) (h2 : ¬ at_ len T p 100 = true) (h3 : ¬ at_ len T p 111 = true) (h4 : ¬ at_ len T p 105 = true) (h5 : ¬ at_ len T p 112 = true) : rd len T p = (none, p) := by
  unfold rd; rw [if_neg h1, if_neg h2, if_neg h3, if_neg h4, if_neg h5]
/-- the six cases of a place -/
theorem rd_cases (P : Prop) (hc : at_ len T p 99 = true → P) (hd : at_ len T p 100 = true → P) (ho : at_ len T p 111 = true → P) (hi : at_ len T p 105 = true → P) (hp : at_ len T p 112 = true → P) (hx : ¬ at_ len T p 99 = true → ¬ at_ len T p 100 = true → ¬ at_ len T p 111 = true → ¬ at_ len T p 105 = true → ¬ at_ len T p 112 = true → P) : P := by
  by_cases h1 : at_ len T p 99 = true
  · exact hc h1
  by_cases h2 : at_ len T p 100 = true
  · exact hd h2
  by_cases h3 : at_ len T p 111 = true
  · exact ho h3
  by_cases h4 : at_ len T p 105 = true
  · exact hi h4
  by_cases h5 : at_ len T p 112 = true
  · exact hp h5
  exact hx h1 h2 h3 h4 h5
theorem rdN_le {k : Nat} {r : Option (Nat × Nat)} (hl : p < len) (h : ∀ q, r = some q → p + 1 < q.2 ∧ q.2 ≤ len) : (rdN k (p + 1) r).2 ≤ len ∧ ∀ z, (rdN k (p + 1) r).1 = some z → p < (rdN k (p + 1) r).2 := by
  cases r with
  | none => rw [rdN_n]; exact ⟨hl, fun z hz => by cases hz⟩
  | some q =>
    obtain ⟨h1, h2⟩ := h q rfl
    rw [rdN_s]
    exact ⟨h2, fun z _ => by show p < q.2; omega⟩
theorem rd_le (hp : p ≤ len) : (rd len T p).2 ≤ len ∧ ∀ z, (rd len T p).1 = some z → p < (rd len T p).2 := by
  refine rd_cases (len := len) (T := T) (p := p) _ (fun h => ?_) (fun h => ?_) (fun h => ?_) (fun h => ?_) (fun h => ?_) (fun h1 h2 h3 h4 h5 => ?_)
  · obtain ⟨hl, -⟩ := at_iff.mp h
    rw [rd_c h]
    cases hn : num47 len T (p + 1) with
    | none => rw [rdC_n hn]; exact ⟨hl, fun z hz => by cases hz⟩
    | some q =>
      obtain ⟨a1, a2, -⟩ := num47_some hn
      by_cases h2 : at_ len T q.2 45 = true
      · obtain ⟨hl2, -⟩ := at_iff.mp h2
        rw [rdC_s hn h2]
        cases hn2 : num47 len T (q.2 + 1) with
        | none => rw [rdE_n hn2]; exact ⟨hl2, fun z hz => by cases hz⟩
        | some q' =>
          obtain ⟨b1, b2, -⟩ := num47_some hn2
          rw [rdE_s hn2]
          exact ⟨b2, fun z _ => by show p < q'.2; omega⟩
      · rw [rdC_x hn h2]
        exact ⟨a2, fun z hz => by cases hz⟩
  · obtain ⟨hl, -⟩ := at_iff.mp h
    rw [rd_d h]
    exact rdN_le hl (fun q hq => by have := num47_some hq; exact ⟨this.1, this.2.1⟩)
  · obtain ⟨hl, -⟩ := at_iff.mp h
    rw [rd_o h]
    exact rdN_le hl (fun q hq => by have := dig7_some hq; exact ⟨this.1, this.2.1⟩)
  · obtain ⟨hl, -⟩ := at_iff.mp h
    rw [rd_i h]
    exact rdN_le hl (fun q hq => by have := dig7_some hq; exact ⟨this.1, this.2.1⟩)
  · obtain ⟨hl, -⟩ := at_iff.mp h
    rw [rd_p h]
    exact ⟨hl, fun z _ => by show p < p + 1; omega⟩
  · rw [rd_x h1 h2 h3 h4 h5]
    exact ⟨hp, fun z hz => by cases hz⟩
end RDS
