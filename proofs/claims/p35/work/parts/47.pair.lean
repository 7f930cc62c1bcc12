/-! the pair of middle boards for a chain -/
theorem iloopP {σ ρ : Type} (F : Nat → Int32 → σ → Option ρ) (hi : Nat) (Inv : Nat → σ → Prop) (P : ρ → Prop)
    (hs : ∀ k i s, i < hi → Inv i s → (∃ s', Inv (i + 1) s' ∧ F (k + 1) (nI i) s = F k (nI (i + 1)) s') ∨ ∃ x, F (k + 1) (nI i) s = some x ∧ P x)
    (he : ∀ k s, Inv hi s → ∃ x, F (k + 1) (nI hi) s = some x ∧ P x) : ∀ (k i : Nat) (s : σ), i ≤ hi → hi - i < k → Inv i s → ∃ x, F k (nI i) s = some x ∧ P x := by
  intro k
  induction k with
  | zero => intro i s _ h; omega
  | succ k ih =>
    intro i s hi1 hk hI
    by_cases hlt : i < hi
    · rcases hs k i s hlt hI with ⟨s', h1, h2⟩ | h
      · rw [h2]; exact ih (i + 1) s' (by omega) (by omega) h1
      · exact h
    · have : i = hi := by omega
      subst this
      exact he k s hI
def good2 (v1 v2 i : Nat) : Bool := v1.testBit (i / 8) && v2.testBit (i % 8)
def bpr (pair : Int32) (len : Nat → Nat) (v1 v2 : Nat) : Nat → Option Nat
  | 0 => none
  | k + 1 => if good2 v1 v2 k = true then (match bpr pair len v1 v2 k with
      | none => some k
      | some b => if pair = (1 : Int32) ∧ len k < len b then some k else some b) else bpr pair len v1 v2 k
theorem bpr_s {pair : Int32} {len : Nat → Nat} {v1 v2 k : Nat} : bpr pair len v1 v2 (k + 1) = (if good2 v1 v2 k = true then (match bpr pair len v1 v2 k with
      | none => some k
      | some b => if pair = (1 : Int32) ∧ len k < len b then some k else some b) else bpr pair len v1 v2 k) := rfl
theorem bpr_no {pair : Int32} {len : Nat → Nat} {v1 v2 k : Nat} (h : ¬ good2 v1 v2 k = true) : bpr pair len v1 v2 (k + 1) = bpr pair len v1 v2 k := by
  rw [bpr_s, if_neg h]
theorem bpr_first {pair : Int32} {len : Nat → Nat} {v1 v2 k : Nat} (h : good2 v1 v2 k = true) (h2 : bpr pair len v1 v2 k = none) : bpr pair len v1 v2 (k + 1) = some k := by
  rw [bpr_s, if_pos h, h2]
theorem bpr_take {pair : Int32} {len : Nat → Nat} {v1 v2 k b : Nat} (h : good2 v1 v2 k = true) (h2 : bpr pair len v1 v2 k = some b) (h3 : pair = (1 : Int32)) (h4 : len k < len b) : bpr pair len v1 v2 (k + 1) = some k := by
  rw [bpr_s, if_pos h, h2]; exact if_pos ⟨h3, h4⟩
theorem bpr_leave {pair : Int32} {len : Nat → Nat} {v1 v2 k b : Nat} (h : good2 v1 v2 k = true) (h2 : bpr pair len v1 v2 k = some b) (h3 : ¬ (pair = (1 : Int32) ∧ len k < len b)) : bpr pair len v1 v2 (k + 1) = some b := by
  rw [bpr_s, if_pos h, h2]; exact if_neg h3
theorem bpr_some {pair : Int32} {len : Nat → Nat} {v1 v2 : Nat} : ∀ {k b : Nat}, bpr pair len v1 v2 k = some b → b < k ∧ good2 v1 v2 b = true
  | 0, b, h => by cases h
  | k + 1, b, h => by
    by_cases hg : good2 v1 v2 k = true
    · cases hb : bpr pair len v1 v2 k with
      | none => rw [bpr_first hg hb] at h; cases h; exact ⟨by omega, hg⟩
      | some d =>
        have ih := bpr_some hb
        by_cases h3 : pair = (1 : Int32) ∧ len k < len d
        · rw [bpr_take hg hb h3.1 h3.2] at h; cases h; exact ⟨by omega, hg⟩
        · rw [bpr_leave hg hb h3] at h; cases h; exact ⟨by omega, ih.2⟩
    · rw [bpr_no hg] at h
      have ih := bpr_some h
      exact ⟨by omega, ih.2⟩
theorem bpr_none {pair : Int32} {len : Nat → Nat} {v1 v2 : Nat} : ∀ {k : Nat}, bpr pair len v1 v2 k = none → ∀ i, i < k → good2 v1 v2 i = false
  | 0, _, i, hi => by omega
  | k + 1, h, i, hi => by
    by_cases hg : good2 v1 v2 k = true
    · cases hb : bpr pair len v1 v2 k with
      | none => rw [bpr_first hg hb] at h; cases h
      | some d =>
        by_cases h3 : pair = (1 : Int32) ∧ len k < len d
        · rw [bpr_take hg hb h3.1 h3.2] at h; cases h
        · rw [bpr_leave hg hb h3] at h; cases h
    · rw [bpr_no hg] at h
      by_cases hik : i = k
      · rw [hik]; simpa using hg
      · exact bpr_none h i (by omega)
theorem bpr_find {pair : Int32} {len : Nat → Nat} {v1 v2 : Nat} (hp : pair ≠ (1 : Int32)) : ∀ k, bpr pair len v1 v2 k = findI (good2 v1 v2) k
  | 0 => rfl
  | k + 1 => by
    rw [findI_succ, ← bpr_find hp k, bpr_s]
    by_cases hg : good2 v1 v2 k = true
    · rw [if_pos hg]
      cases bpr pair len v1 v2 k with
      | none => simp [hg]
      | some b => simp [hp]
    · rw [if_neg hg]
      cases bpr pair len v1 v2 k with
      | none => simp [hg]
      | some b => rfl
theorem bpr_congr {pair : Int32} {len len' : Nat → Nat} {v1 v2 : Nat} (h : ∀ i, good2 v1 v2 i = true → len i = len' i) : ∀ k, bpr pair len v1 v2 k = bpr pair len' v1 v2 k
  | 0 => rfl
  | k + 1 => by
    have ih := bpr_congr h (pair := pair) k
    rw [bpr_s, bpr_s, ih]
    by_cases hg : good2 v1 v2 k = true
    · rw [if_pos hg, if_pos hg]
      cases hb : bpr pair len' v1 v2 k with
      | none => rfl
      | some b =>
        have := (bpr_some hb).2
        show (if pair = (1 : Int32) ∧ len k < len b then some k else some b) = (if pair = (1 : Int32) ∧ len' k < len' b then some k else some b)
        rw [h k hg, h b this]
    · rw [if_neg hg, if_neg hg]
theorem bit_low {v : Nat} (hv : v < 256) (h0 : v ≠ 0) : ∃ m, m < 8 ∧ v.testBit m = true ∧ findI v.testBit 8 = some m := by
  cases hf : findI v.testBit 8 with
  | none =>
    exfalso
    apply h0
    apply Nat.eq_of_testBit_eq
    intro i
    rw [Nat.zero_testBit]
    by_cases hi : i < 8
    · exact findI_none.mp hf i hi
    · have h28 : v < 2 ^ 8 := by omega
      exact Nat.testBit_lt_two_pow (Nat.lt_of_lt_of_le h28 (Nat.pow_le_pow_right (by decide) (by omega)))
  | some m =>
    have := findI_some hf
    exact ⟨m, this.1, this.2.1, rfl⟩
theorem good2_ex {v1 v2 m1 m2 : Nat} (h1 : v1.testBit m1 = true) (h2 : v2.testBit m2 = true) (h8 : m2 < 8) : good2 v1 v2 (8 * m1 + m2) = true := by
  unfold good2
  rw [show (8 * m1 + m2) / 8 = m1 by omega, show (8 * m1 + m2) % 8 = m2 by omega, h1, h2]; rfl
theorem good2_low {v1 v2 m1 m2 : Nat} (h1 : findI v1.testBit 8 = some m1) (h2 : findI v2.testBit 8 = some m2) : findI (good2 v1 v2) 64 = some (8 * m1 + m2) := by
  obtain ⟨a1, a2, a3⟩ := findI_some h1
  obtain ⟨b1, b2, b3⟩ := findI_some h2
  have hg := good2_ex a2 b2 b1
  cases hf : findI (good2 v1 v2) 64 with
  | none =>
    have := findI_none.mp hf (8 * m1 + m2) (by omega)
    rw [hg] at this; cases this
  | some j =>
    obtain ⟨c1, c2, c3⟩ := findI_some hf
    congr 1
    rcases Nat.lt_trichotomy j (8 * m1 + m2) with h | h | h
    · exfalso
      have hq : v1.testBit (j / 8) = true ∧ v2.testBit (j % 8) = true := by
        unfold good2 at c2; simpa using c2
      by_cases hj : j / 8 < m1
      · have := a3 _ hj; rw [hq.1] at this; cases this
      · have := b3 (j % 8) (by omega); rw [hq.2] at this; cases this
    · exact h
    · exfalso
      have := c3 _ h
      rw [hg] at this; cases this
section CP
variable {bo li mi sv cn : Nat} {cs : CS} {t : Nat}
/-- the length of the chain for pair i -/
def lenOf (li : Nat) (cs : CS) (t i : Nat) : Nat := clen li cs (i / 8) (i % 8) t
theorem good2_bits {v1 v2 i : Nat} (h : good2 v1 v2 i = true) : v1.testBit (i / 8) = true ∧ v2.testBit (i % 8) = true := by
  unfold good2 at h; simpa using h
theorem and0 {v1 v2 m : Nat} (h : v1 &&& v2 = 0) (h1 : v1.testBit m = true) (h2 : v2.testBit m = true) : False := by
  have : (v1 &&& v2).testBit m = true := by rw [Nat.testBit_and, h1, h2]; rfl
  rw [h, Nat.zero_testBit] at this
  cases this
theorem c_findPair {n : OS} (hR : RC bo li mi sv cn cs n) (W : WF bo li mi sv cn cs) (r : OS) {v1 v2 : Nat} (h1 : v1 < 256) (h2 : v2 < 256) (h12 : v1 &&& v2 = 0) (h10 : v1 ≠ 0) (h20 : v2 ≠ 0) (ht : t < 8) (hq : ∀ m, v2.testBit m = true → lkL li cs m t = none) :
    ∃ r' b, bpr (n.1 5) (lenOf li cs t) v1 v2 64 = some b ∧ fX3_findPair r n (nI v1) (nI v2) (nI t) = some r' ∧ r'.1 1 = nI (lenOf li cs t b) ∧ r'.1 2 = nI (b / 8) ∧ r'.1 3 = nI (b % 8) ∧ r'.2 1 = r.2 1 ∧ HC (r'.2 0) li cs (b / 8) (b % 8) t (lenOf li cs t b) := by
  obtain ⟨m1, a1, a2, a3⟩ := bit_low h1 h10
  obtain ⟨m2, b1, b2, b3⟩ := bit_low h2 h20
  have hex : ∃ b, bpr (n.1 5) (lenOf li cs t) v1 v2 64 = some b := by
    cases hb : bpr (n.1 5) (lenOf li cs t) v1 v2 64 with
    | some b => exact ⟨b, rfl⟩
    | none =>
      have := bpr_none hb (8 * m1 + m2) (by omega)
      rw [good2_ex a2 b2 b1] at this; cases this
  obtain ⟨b, hb⟩ := hex
  have fol : ∀ (r : OS) (i : Nat), i < 64 → good2 v1 v2 i = true → ∃ r', fX3_follow r n (nI (i / 8)) (nI (i % 8)) (nI t) = some r' ∧ r'.1 1 = nI (lenOf li cs t i) ∧ r'.1 2 = nI (i / 8) ∧ r'.1 3 = nI (i % 8) ∧ r'.2 1 = r.2 1 ∧ HC (r'.2 0) li cs (i / 8) (i % 8) t (lenOf li cs t i) := by
    intro r i hi hg
    obtain ⟨g1, g2⟩ := good2_bits hg
    exact c_follow hR W r (by omega) (by omega) ht (fun e => and0 h12 g1 (e ▸ g2)) (hq _ g2)
  have lenle : ∀ i, i < 64 → good2 v1 v2 i = true → lenOf li cs t i ≤ 16 := by
    intro i hi hg
    obtain ⟨g1, g2⟩ := good2_bits hg
    exact (clen_spec (p := i / 8) (q := i % 8) (t := t) W (fun e => and0 h12 g1 (e ▸ g2)) (hq _ g2)).1
  have hfin := iloopP (fun k i (a : Int32 × Int32 × Int32 × OS) => fX3_findPair_14 n (nI v1) (nI v2) (nI t) k a.1 a.2.1 a.2.2.1 i a.2.2.2) 64
    (fun i a => a.2.2.2.2 1 = r.2 1 ∧ (bpr (n.1 5) (lenOf li cs t) v1 v2 i = none → a.1 = (-6 : Int32)) ∧ ∀ d, bpr (n.1 5) (lenOf li cs t) v1 v2 i = some d → a.1 = nI (d / 8) ∧ a.2.1 = nI (d % 8) ∧ a.2.2.1 = nI (lenOf li cs t d))
    (fun r' => r'.1 1 = nI (lenOf li cs t b) ∧ r'.1 2 = nI (b / 8) ∧ r'.1 3 = nI (b % 8) ∧ r'.2 1 = r.2 1 ∧ HC (r'.2 0) li cs (b / 8) (b % 8) t (lenOf li cs t b))
    ?_ ?_ FU 0 ((-6 : Int32), (-6 : Int32), (0 : Int32), r) (by omega) (FU_big (by omega)) ⟨rfl, fun _ => rfl, fun d hd => by cases hd⟩
  · obtain ⟨r', e1, e2⟩ := hfin
    exact ⟨r', b, hb, e1, e2⟩
  · intro k i a hi hI
    obtain ⟨x5, x6, x7, rr⟩ := a
    obtain ⟨I1, I2, I3⟩ := hI
    have I1 : rr.2 1 = r.2 1 := I1
    have I2 : bpr (n.1 5) (lenOf li cs t) v1 v2 i = none → x5 = (-6 : Int32) := I2
    have I3 : ∀ d, bpr (n.1 5) (lenOf li cs t) v1 v2 i = some d → x5 = nI (d / 8) ∧ x6 = nI (d % 8) ∧ x7 = nI (lenOf li cs t d) := I3
    left
    show ∃ s' : Int32 × Int32 × Int32 × OS, _ ∧ fX3_findPair_14 n (nI v1) (nI v2) (nI t) (k + 1) x5 x6 x7 (nI i) rr = fX3_findPair_14 n (nI v1) (nI v2) (nI t) k s'.1 s'.2.1 s'.2.2.1 (nI (i + 1)) s'.2.2.2
    rw [fX3_findPair_14_s, if_neg (ge64 hi), rem8 (by omega), div8 (by omega), bit_has v1 h1 (i / 8) (by omega), bit_has v2 h2 (i % 8) (by omega), nI_succ1]
    have stay : ¬ good2 v1 v2 i = true → ∃ s' : Int32 × Int32 × Int32 × OS, ((fun i (a : Int32 × Int32 × Int32 × OS) => a.2.2.2.2 1 = r.2 1 ∧ (bpr (n.1 5) (lenOf li cs t) v1 v2 i = none → a.1 = (-6 : Int32)) ∧ ∀ d, bpr (n.1 5) (lenOf li cs t) v1 v2 i = some d → a.1 = nI (d / 8) ∧ a.2.1 = nI (d % 8) ∧ a.2.2.1 = nI (lenOf li cs t d)) (i + 1) s') ∧ fX3_findPair_14 n (nI v1) (nI v2) (nI t) k x5 x6 x7 (nI (i + 1)) rr = fX3_findPair_14 n (nI v1) (nI v2) (nI t) k s'.1 s'.2.1 s'.2.2.1 (nI (i + 1)) s'.2.2.2 := by
      intro hg
      refine ⟨(x5, x6, x7, rr), ⟨I1, ?_, ?_⟩, rfl⟩
      · rw [bpr_no hg]; exact I2
      · rw [bpr_no hg]; exact I3
    by_cases hb1 : v1.testBit (i / 8) = true
    · rw [if_pos hb1, if_neg (by decide : ¬ (1 : Int32) = 0)]
      by_cases hb2 : v2.testBit (i % 8) = true
      · have hg : good2 v1 v2 i = true := by unfold good2; rw [hb1, hb2]; rfl
        rw [if_pos hb2, if_neg (by decide : ¬ (1 : Int32) = 0)]
        obtain ⟨r', e1, e2, e3, e4, e5, e6⟩ := fol rr i hi hg
        rw [e1, Option.bind_some, e2]
        have hli := lenle i hi hg
        cases hbp : bpr (n.1 5) (lenOf li cs t) v1 v2 i with
        | none =>
          rw [I2 hbp, if_pos m6]
          refine ⟨(nI (i / 8), nI (i % 8), nI (lenOf li cs t i), r'), ⟨e5.trans I1, ?_, ?_⟩, rfl⟩
          · rw [bpr_first hg hbp]; intro h; cases h
          · rw [bpr_first hg hbp]; intro d hd; cases hd; exact ⟨rfl, rfl, rfl⟩
        | some d =>
          obtain ⟨f1, f2, f3⟩ := I3 d hbp
          obtain ⟨hd1, hd2⟩ := bpr_some hbp
          have hld := lenle d (by omega) hd2
          rw [f1, if_neg (nI_pos (by omega))]
          have leave : ¬ (n.1 5 = (1 : Int32) ∧ lenOf li cs t i < lenOf li cs t d) → ∃ s' : Int32 × Int32 × Int32 × OS, ((fun i (a : Int32 × Int32 × Int32 × OS) => a.2.2.2.2 1 = r.2 1 ∧ (bpr (n.1 5) (lenOf li cs t) v1 v2 i = none → a.1 = (-6 : Int32)) ∧ ∀ d, bpr (n.1 5) (lenOf li cs t) v1 v2 i = some d → a.1 = nI (d / 8) ∧ a.2.1 = nI (d % 8) ∧ a.2.2.1 = nI (lenOf li cs t d)) (i + 1) s') ∧ fX3_findPair_14 n (nI v1) (nI v2) (nI t) k (nI (d / 8)) x6 x7 (nI (i + 1)) r' = fX3_findPair_14 n (nI v1) (nI v2) (nI t) k s'.1 s'.2.1 s'.2.2.1 (nI (i + 1)) s'.2.2.2 := by
            intro hn
            refine ⟨(nI (d / 8), x6, x7, r'), ⟨e5.trans I1, ?_, ?_⟩, rfl⟩
            · rw [bpr_leave hg hbp hn]; intro h; cases h
            · rw [bpr_leave hg hbp hn]; intro d' hd; cases hd; exact ⟨rfl, f2, f3⟩
          by_cases hp1 : n.1 5 = (1 : Int32)
          · rw [if_pos hp1]
            by_cases hle : lenOf li cs t d ≤ lenOf li cs t i
            · rw [if_pos (by rw [f3]; exact nI_le hle (by omega))]
              exact leave (fun h => by omega)
            · rw [if_neg (by rw [f3]; exact nI_ge (by omega) (by omega))]
              refine ⟨(nI (i / 8), nI (i % 8), nI (lenOf li cs t i), r'), ⟨e5.trans I1, ?_, ?_⟩, rfl⟩
              · rw [bpr_take hg hbp hp1 (by omega)]; intro h; cases h
              · rw [bpr_take hg hbp hp1 (by omega)]; intro d' hd; cases hd; exact ⟨rfl, rfl, rfl⟩
          · rw [if_neg hp1]
            exact leave (fun h => hp1 h.1)
      · rw [if_neg hb2, if_pos rfl]
        exact stay (fun h => hb2 (good2_bits h).2)
    · rw [if_neg hb1, if_pos rfl]
      exact stay (fun h => hb1 (good2_bits h).1)
  · intro k a hI
    obtain ⟨x5, x6, x7, rr⟩ := a
    obtain ⟨I1, I2, I3⟩ := hI
    have I1 : rr.2 1 = r.2 1 := I1
    obtain ⟨f1, f2, f3⟩ := I3 b hb
    have f1 : x5 = _ := f1
    have f2 : x6 = _ := f2
    obtain ⟨hb64, hbg⟩ := bpr_some hb
    obtain ⟨r', e1, e2, e3, e4, e5, e6⟩ := fol rr b hb64 hbg
    refine ⟨r', ?_, e2, e3, e4, e5.trans I1, e6⟩
    show fX3_findPair_14 n (nI v1) (nI v2) (nI t) (k + 1) x5 x6 x7 (nI 64) rr = _
    rw [fX3_findPair_14_s, if_pos (by decide), f1, f2, e1]; rfl
theorem setR_setR (g : OS) (k : Nat) (w w' : Nat → Int32) : setR (setR g k w) k w' = setR g k w' := by
  unfold setR
  congr 1
  funext j
  by_cases hj : j = k
  · rw [if_pos hj, if_pos hj]
  · rw [if_neg hj, if_neg hj]; exact if_neg hj
theorem setR_same (g : OS) (k : Nat) : setR g k (g.2 k) = g := by
  unfold setR
  have : (fun j => if j = k then g.2 k else g.2 j) = g.2 := by
    funext j
    by_cases hj : j = k
    · rw [if_pos hj, hj]
    · rw [if_neg hj]
  rw [this]
theorem m_pairOf {g : OS} {bb : Nat} (hM : RM bo li mi sv cn cs (blk g bb)) (W : WF bo li mi sv cn cs) (hb : bb ≤ 924) {v1 v2 : Nat} (h1 : v1 < 256) (h2 : v2 < 256) (h12 : v1 &&& v2 = 0) (h10 : v1 ≠ 0) (h20 : v2 ≠ 0) (ht : t < 8) (hq : ∀ m, v2.testBit m = true → lkL li cs m t = none) (hpr : blk g bb 4 = (0 : Int32) ∨ blk g bb 4 = (1 : Int32)) :
    ∃ w b, bpr (blk g bb 4) (lenOf li cs t) v1 v2 64 = some b ∧ fX6_pairOf g (nI bb) (nI v1) (nI v2) (nI t) = some (nI b, setR g 2 w) := by
  obtain ⟨m1, a1, a2, a3⟩ := bit_low h1 h10
  obtain ⟨m2, b1, b2, b3⟩ := bit_low h2 h20
  unfold fX6_pairOf
  have e4 : ((g.2 0) (nI bb + (4 : Int32)).toNatClampNeg) = blk g bb 4 := m_fld (j := 4) hb (by decide)
  rw [if_pos (in_4 hb), e4]
  by_cases hz : blk g bb 4 = (0 : Int32)
  · rw [if_pos hz, m_lowest h1 a3, Option.bind_some, m_lowest h2 b3, Option.bind_some]
    refine ⟨g.2 2, 8 * m1 + m2, ?_, ?_⟩
    · rw [bpr_find (by rw [hz]; decide)]; exact good2_low a3 b3
    · rw [setR_same, show (8 : Int32) = nI 8 from rfl, pk_mul, nI_add]
  · have hone : blk g bb 4 = (1 : Int32) := hpr.resolve_left hz
    rw [if_neg hz, hone]
    have hex : ∃ b, bpr (1 : Int32) (lenOf li cs t) v1 v2 64 = some b := by
      cases hb : bpr (1 : Int32) (lenOf li cs t) v1 v2 64 with
      | some b => exact ⟨b, rfl⟩
      | none =>
        have := bpr_none hb (8 * m1 + m2) (by omega)
        rw [good2_ex a2 b2 b1] at this; cases this
    obtain ⟨b, hbb⟩ := hex
    have hfin := iloopP (fun k i (a : Int32 × Int32 × OS) => fX6_pairOf_33 (nI bb) (nI v1) (nI v2) (nI t) k a.1 a.2.1 i a.2.2) 64
      (fun i a => (∃ w, a.2.2 = setR g 2 w) ∧ (bpr (1 : Int32) (lenOf li cs t) v1 v2 i = none → a.1 = (-1 : Int32)) ∧ ∀ d, bpr (1 : Int32) (lenOf li cs t) v1 v2 i = some d → a.1 = nI d ∧ a.2.1 = nI (lenOf li cs t d))
      (fun z => ∃ w, z = (nI b, setR g 2 w))
      ?_ ?_ FU 0 ((-1 : Int32), (0 : Int32), g) (by omega) (FU_big (by omega)) ⟨⟨g.2 2, (setR_same g 2).symm⟩, fun _ => rfl, fun d hd => by cases hd⟩
    · obtain ⟨z, f1, w, f2⟩ := hfin
      exact ⟨w, b, hbb, by rw [← f2]; exact f1⟩
    · intro k i a hi hI
      obtain ⟨x5, x6, rr⟩ := a
      obtain ⟨⟨w, I1⟩, I2, I3⟩ := hI
      have I1 : rr = setR g 2 w := I1
      subst I1
      have I2 : bpr (1 : Int32) (lenOf li cs t) v1 v2 i = none → x5 = (-1 : Int32) := I2
      have I3 : ∀ d, bpr (1 : Int32) (lenOf li cs t) v1 v2 i = some d → x5 = nI d ∧ x6 = nI (lenOf li cs t d) := I3
      left
      show ∃ s' : Int32 × Int32 × OS, _ ∧ fX6_pairOf_33 (nI bb) (nI v1) (nI v2) (nI t) (k + 1) x5 x6 (nI i) (setR g 2 w) = fX6_pairOf_33 (nI bb) (nI v1) (nI v2) (nI t) k s'.1 s'.2.1 (nI (i + 1)) s'.2.2
      rw [fX6_pairOf_33_s, if_neg (ge64 hi), rem8 (by omega), div8 (by omega), bit_has6 v1 h1 (i / 8) (by omega), bit_has6 v2 h2 (i % 8) (by omega), nI_succ1]
      have stay : ¬ good2 v1 v2 i = true → ∃ s' : Int32 × Int32 × OS, ((fun i (a : Int32 × Int32 × OS) => (∃ w, a.2.2 = setR g 2 w) ∧ (bpr (1 : Int32) (lenOf li cs t) v1 v2 i = none → a.1 = (-1 : Int32)) ∧ ∀ d, bpr (1 : Int32) (lenOf li cs t) v1 v2 i = some d → a.1 = nI d ∧ a.2.1 = nI (lenOf li cs t d)) (i + 1) s') ∧ fX6_pairOf_33 (nI bb) (nI v1) (nI v2) (nI t) k x5 x6 (nI (i + 1)) (setR g 2 w) = fX6_pairOf_33 (nI bb) (nI v1) (nI v2) (nI t) k s'.1 s'.2.1 (nI (i + 1)) s'.2.2 := by
        intro hg
        refine ⟨(x5, x6, setR g 2 w), ⟨⟨w, rfl⟩, ?_, ?_⟩, rfl⟩
        · rw [bpr_no hg]; exact I2
        · rw [bpr_no hg]; exact I3
      by_cases hb1 : v1.testBit (i / 8) = true
      · rw [if_pos hb1, if_neg (by decide : ¬ (1 : Int32) = 0)]
        by_cases hb2 : v2.testBit (i % 8) = true
        · have hg : good2 v1 v2 i = true := by unfold good2; rw [hb1, hb2]; rfl
          rw [if_pos hb2, if_neg (by decide : ¬ (1 : Int32) = 0)]
          have hpq : i / 8 ≠ i % 8 := fun e => and0 h12 hb1 (e ▸ hb2)
          have hM' : RM bo li mi sv cn cs (blk (setR g 2 w) bb) := hM
          obtain ⟨w', e1, -⟩ := m_lays (p := i / 8) (q := i % 8) (t := t) hM' W hb (by omega) (by omega) ht hpq (hq _ hb2)
          have e1 : fX6_lays (setR g 2 w) (nI bb) (nI (i / 8)) (nI (i % 8)) (nI t) = some (nI (lenOf li cs t i), setR (setR g 2 w) 2 w') := e1
          rw [setR_setR] at e1
          have hli : lenOf li cs t i ≤ 16 := (clen_spec (p := i / 8) (q := i % 8) (t := t) W hpq (hq _ hb2)).1
          rw [e1, Option.bind_some]
          simp only [jn]
          cases hbp : bpr (1 : Int32) (lenOf li cs t) v1 v2 i with
          | none =>
            rw [I2 hbp, if_pos rfl, if_neg (by decide : ¬ (1 : Int32) = 0), if_neg (by decide : ¬ (1 : Int32) = 0)]
            refine ⟨(nI i, nI (lenOf li cs t i), setR g 2 w'), ⟨⟨w', rfl⟩, ?_, ?_⟩, rfl⟩
            · rw [bpr_first hg hbp]; intro h; cases h
            · rw [bpr_first hg hbp]; intro d hd; cases hd; exact ⟨rfl, rfl⟩
          | some d =>
            obtain ⟨f1, f3⟩ := I3 d hbp
            obtain ⟨hd1, hd2⟩ := bpr_some hbp
            have hld : lenOf li cs t d ≤ 16 := by
              obtain ⟨g1, g2⟩ := good2_bits hd2
              exact (clen_spec (p := d / 8) (q := d % 8) (t := t) W (fun e => and0 h12 g1 (e ▸ g2)) (hq _ g2)).1
            rw [f1, if_neg (nI_ne_of_neg (by omega) (by decide)), f3]
            by_cases hle : lenOf li cs t d ≤ lenOf li cs t i
            · rw [if_pos (nI_le hle (by omega)), if_pos (rfl : (0 : Int32) = 0), if_pos (rfl : (0 : Int32) = 0)]
              refine ⟨(nI d, nI (lenOf li cs t d), setR g 2 w'), ⟨⟨w', rfl⟩, ?_, ?_⟩, rfl⟩
              · rw [bpr_leave hg hbp (fun h => by omega)]; intro h; cases h
              · rw [bpr_leave hg hbp (fun h => by omega)]; intro d' hd; cases hd; exact ⟨rfl, rfl⟩
            · rw [if_neg (nI_ge (by omega) (by omega)), if_neg (by decide : ¬ (1 : Int32) = 0), if_neg (by decide : ¬ (1 : Int32) = 0)]
              refine ⟨(nI i, nI (lenOf li cs t i), setR g 2 w'), ⟨⟨w', rfl⟩, ?_, ?_⟩, rfl⟩
              · rw [bpr_take hg hbp rfl (by omega)]; intro h; cases h
              · rw [bpr_take hg hbp rfl (by omega)]; intro d' hd; cases hd; exact ⟨rfl, rfl⟩
        · rw [if_neg hb2, if_pos rfl]
          exact stay (fun h => hb2 (good2_bits h).2)
      · rw [if_neg hb1, if_pos rfl]
        exact stay (fun h => hb1 (good2_bits h).1)
    · intro k a hI
      obtain ⟨x5, x6, rr⟩ := a
      obtain ⟨⟨w, I1⟩, I2, I3⟩ := hI
      have I1 : rr = setR g 2 w := I1
      obtain ⟨f1, -⟩ := I3 b hbb
      have f1 : x5 = _ := f1
      refine ⟨(nI b, setR g 2 w), ?_, w, rfl⟩
      show fX6_pairOf_33 (nI bb) (nI v1) (nI v2) (nI t) (k + 1) x5 x6 (nI 64) rr = _
      rw [fX6_pairOf_33_s, if_pos (by decide), f1, I1]
end CP
