/-! free middle boards and the choice among them: both sides alike -/
def frF (li mi sv : Nat) (cs : CS) (b : Nat) : Nat := bitsOf (fun m => sv.testBit m && (lkF li cs b m).isNone) mi
def frL (li mi sv : Nat) (cs : CS) (t : Nat) : Nat := bitsOf (fun m => sv.testBit m && (lkL li cs m t).isNone) mi
theorem frF_bit {li mi sv : Nat} {cs : CS} {b m : Nat} : (frF li mi sv cs b).testBit m = true ↔ m < mi ∧ sv.testBit m = true ∧ lkF li cs b m = none := by
  unfold frF; rw [bitsOf_bit]; simp
theorem frL_bit {li mi sv : Nat} {cs : CS} {t m : Nat} : (frL li mi sv cs t).testBit m = true ↔ m < mi ∧ sv.testBit m = true ∧ lkL li cs m t = none := by
  unfold frL; rw [bitsOf_bit]; simp
theorem and_bits {p : Nat → Bool} {mi sv : Nat} : bitsOf p mi &&& sv = bitsOf (fun m => sv.testBit m && p m) mi := by
  apply Nat.eq_of_testBit_eq
  intro i
  rw [Nat.testBit_and, bitsOf_bit, bitsOf_bit]
  cases decide (i < mi) <;> cases p i <;> cases sv.testBit i <;> rfl
section CM
variable {bo li mi sv cn : Nat} {cs : CS} {n g : OS} {bb : Nat}
theorem c_frF (hR : RC bo li mi sv cn cs n) (hW : WF bo li mi sv cn cs) {b : Nat} (hb : b < 8) : fX1_freeOnLinks4 n (nI b) = some (nI (frF li mi sv cs b)) := by
  rw [c_freeF hR hW hb, and_bits]; rfl
theorem c_frL (hR : RC bo li mi sv cn cs n) (hW : WF bo li mi sv cn cs) {b : Nat} (hb : b < 8) : fX1_freeOnLinks5 n (nI b) = some (nI (frL li mi sv cs b)) := by
  rw [c_freeL hR hW hb, and_bits]; rfl
theorem frF256 (hW : WF bo li mi sv cn cs) {b : Nat} : frF li mi sv cs b < 256 := lt256 (bitsOf_lt _ _) hW.mi8
theorem frL256 (hW : WF bo li mi sv cn cs) {b : Nat} : frL li mi sv cs b < 256 := lt256 (bitsOf_lt _ _) hW.mi8
theorem nI_or0 (a : Nat) : nI a ||| (0 : Int32) = nI a := by
  rw [show (0 : Int32) = nI 0 from rfl, fa_or, Nat.or_zero]
theorem m_mi (hM : RM bo li mi sv cn cs (blk g bb)) (hb : bb ≤ 924) : ((g.2 0) (nI bb + (2 : Int32)).toNatClampNeg) = nI mi := by
  rw [show nI bb + (2 : Int32) = nI bb + nI 2 from rfl, m_fld hb (by decide), hM.b2]
theorem m_sv (hM : RM bo li mi sv cn cs (blk g bb)) (hb : bb ≤ 924) : ((g.2 0) (nI bb + (9 : Int32)).toNatClampNeg) = nI sv := by
  rw [show nI bb + (9 : Int32) = nI bb + nI 9 from rfl, m_fld hb (by decide), hM.b9]
theorem bits_step (p : Nat → Bool) {i : Nat} : bitsOf p (i + 1) = (if p i = true then bitsOf p i ||| 2 ^ i else bitsOf p i) := rfl
theorem m_freeAhead (hM : RM bo li mi sv cn cs (blk g bb)) (hW : WF bo li mi sv cn cs) (hb : bb ≤ 924) {b : Nat} (hbd : b < 2 ^ 31) : fX6_freeAhead g (nI bb) (nI b) = some (nI (frF li mi sv cs b)) := by
  unfold fX6_freeAhead frF
  have hmi := hW.mi8
  have h := iloop (fun k i (a : Int32) => fX6_freeAhead_5 g (nI bb) (nI b) k a i) mi (fun i a => a = nI (bitsOf (fun m => sv.testBit m && (lkF li cs b m).isNone) i)) (nI (bitsOf (fun m => sv.testBit m && (lkF li cs b m).isNone) mi)) ?_ ?_ FU 0 (0 : Int32) (by omega) (FU_big (by omega)) rfl
  · exact h
  · intro k i s hi hI
    subst hI
    refine Or.inl ⟨_, rfl, ?_⟩
    show fX6_freeAhead_5 g (nI bb) (nI b) (k + 1) _ _ = fX6_freeAhead_5 g (nI bb) (nI b) k _ _
    rw [fX6_freeAhead_5_s, if_pos (in_2 hb), m_mi hM hb, if_neg (nI_ge hi (by omega)), if_pos (in_9 hb), m_sv hM hb, bit_has6 sv hW.sv256 i (by omega), nI_succ1, bits_step]
    by_cases hs : sv.testBit i = true
    · rw [if_pos hs, if_neg (by decide), m_onFirst hM hW hb hbd (by omega), Option.bind_some]
      cases hl : lkF li cs b i with
      | none => rw [eN_none, if_pos rfl, shl1 i (by omega), fa_or, if_pos (by simp [hs])]
      | some q => rw [eN_some, if_neg (nI_ne_of_neg (lkF48 hl) m1), nI_or0, if_neg (by simp)]
    · rw [if_neg hs, if_pos rfl, nI_or0, if_neg (by simp [hs])]
  · intro k s hI
    subst hI
    show fX6_freeAhead_5 g (nI bb) (nI b) (k + 1) _ _ = _
    rw [fX6_freeAhead_5_s, if_pos (in_2 hb), m_mi hM hb, if_pos (nI_le (Nat.le_refl _) (by omega))]
theorem m_freeBehind (hM : RM bo li mi sv cn cs (blk g bb)) (hW : WF bo li mi sv cn cs) (hb : bb ≤ 924) {b : Nat} (hbd : b < 2 ^ 31) : fX6_freeBehind g (nI bb) (nI b) = some (nI (frL li mi sv cs b)) := by
  unfold fX6_freeBehind frL
  have hmi := hW.mi8
  have h := iloop (fun k i (a : Int32) => fX6_freeBehind_5 g (nI bb) (nI b) k a i) mi (fun i a => a = nI (bitsOf (fun m => sv.testBit m && (lkL li cs m b).isNone) i)) (nI (bitsOf (fun m => sv.testBit m && (lkL li cs m b).isNone) mi)) ?_ ?_ FU 0 (0 : Int32) (by omega) (FU_big (by omega)) rfl
  · exact h
  · intro k i s hi hI
    subst hI
    refine Or.inl ⟨_, rfl, ?_⟩
    show fX6_freeBehind_5 g (nI bb) (nI b) (k + 1) _ _ = fX6_freeBehind_5 g (nI bb) (nI b) k _ _
    rw [fX6_freeBehind_5_s, if_pos (in_2 hb), m_mi hM hb, if_neg (nI_ge hi (by omega)), if_pos (in_9 hb), m_sv hM hb, bit_has6 sv hW.sv256 i (by omega), nI_succ1, bits_step]
    by_cases hs : sv.testBit i = true
    · rw [if_pos hs, if_neg (by decide), m_onLast hM hW hb hbd (by omega), Option.bind_some]
      cases hl : lkL li cs i b with
      | none => rw [eN_none, if_pos rfl, shl1 i (by omega), fa_or, if_pos (by simp [hs])]
      | some q => rw [eN_some, if_neg (nI_ne_of_neg (lkL48 hl) m1), nI_or0, if_neg (by simp)]
    · rw [if_neg hs, if_pos rfl, nI_or0, if_neg (by simp [hs])]
  · intro k s hI
    subst hI
    show fX6_freeBehind_5 g (nI bb) (nI b) (k + 1) _ _ = _
    rw [fX6_freeBehind_5_s, if_pos (in_2 hb), m_mi hM hb, if_pos (nI_le (Nat.le_refl _) (by omega))]
/-- loads: by links of the first boards, and by calls -/
theorem load_eq (hW : WF bo li mi sv cn cs) {m : Nat} : cnt (fun b => (lkF li cs b m).isSome) bo = cnt (fun i => via cs i == some m) 48 := by
  apply Nat.le_antisymm
  · refine cnt_inj2 (fun b => (lkF li cs b m).getD 0) (fun b hb h => ?_) (fun b b' hb hb' h h' he => ?_)
    · obtain ⟨i, hi⟩ := Option.isSome_iff_exists.mp h
      have := hW.lF.mp hi
      simp only [hi, Option.getD_some]
      exact ⟨findI_lt hi, by simp [this.1]⟩
    · obtain ⟨i, hi⟩ := Option.isSome_iff_exists.mp h
      obtain ⟨i', hi'⟩ := Option.isSome_iff_exists.mp h'
      simp only [hi, hi', Option.getD_some] at he
      have h1 := (hW.lF.mp hi).2
      have h2 := (hW.lF.mp hi').2
      rw [← h1, ← h2, he]
  · refine cnt_inj2 (fun i => i / li) (fun i hi h => ?_) (fun i i' hi hi' h h' he => ?_)
    · have hv : via cs i = some m := by simpa using h
      refine ⟨div_lt (hW.lt (busy_of_via hv)), ?_⟩
      rw [hW.lF.mpr ⟨hv, rfl⟩]; rfl
    · exact hW.finj (by simpa using h) (by simpa using h') he
theorem load_le (hW : WF bo li mi sv cn cs) {m : Nat} : cnt (fun i => via cs i == some m) 48 ≤ 8 := by
  rw [← load_eq hW]
  have := cnt_le (fun b => (lkF li cs b m).isSome) bo
  have := hW.bo8
  omega
def better (rule : Int32) (a b : Nat) : Bool := if rule = (1 : Int32) then decide (b < a) else if rule = (2 : Int32) then decide (a < b) else false
def chs (rule : Int32) (ld : Nat → Nat) (w : Nat) : Nat → Option Nat
  | 0 => none
  | k + 1 => if w.testBit k = true then (match chs rule ld w k with
      | none => some k
      | some b => if better rule (ld k) (ld b) = true then some k else some b) else chs rule ld w k
theorem chs_step (rule : Int32) (ld : Nat → Nat) (w k : Nat) : chs rule ld w (k + 1) = (if w.testBit k = true then (match chs rule ld w k with
      | none => some k
      | some b => if better rule (ld k) (ld b) = true then some k else some b) else chs rule ld w k) := rfl
theorem chs_some {rule : Int32} {ld : Nat → Nat} {w : Nat} : ∀ {k b : Nat}, chs rule ld w k = some b → b < k ∧ w.testBit b = true
  | 0, b, h => by cases h
  | k + 1, b, h => by
    rw [chs_step] at h
    by_cases hk : w.testBit k = true
    · rw [if_pos hk] at h
      cases hc : chs rule ld w k with
      | none => rw [hc] at h; cases h; exact ⟨by omega, hk⟩
      | some d =>
        rw [hc] at h
        have ih := chs_some hc
        by_cases hb : better rule (ld k) (ld d) = true
        · simp only [hb, if_true] at h; cases h; exact ⟨by omega, hk⟩
        · simp only [hb] at h; cases h; exact ⟨by omega, ih.2⟩
    · rw [if_neg hk] at h
      have ih := chs_some h
      exact ⟨by omega, ih.2⟩
theorem chs_none {rule : Int32} {ld : Nat → Nat} {w : Nat} : ∀ {k : Nat}, chs rule ld w k = none ↔ ∀ i, i < k → w.testBit i = false
  | 0 => by simp [chs]
  | k + 1 => by
    rw [chs_step]
    have ih := chs_none (rule := rule) (ld := ld) (w := w) (k := k)
    by_cases hk : w.testBit k = true
    · rw [if_pos hk]
      constructor
      · intro h
        cases hc : chs rule ld w k with
        | none => rw [hc] at h; cases h
        | some d =>
          rw [hc] at h
          by_cases hb : better rule (ld k) (ld d) = true <;> simp [hb] at h
      · intro h; have := h k (by omega); rw [hk] at this; cases this
    · rw [if_neg hk, ih]
      constructor
      · intro h i hi
        by_cases hik : i = k
        · rw [hik]; simpa using hk
        · exact h i (by omega)
      · intro h i hi; exact h i (by omega)
theorem chs_ext {rule : Int32} {ld : Nat → Nat} {w a : Nat} (hw : w < 2 ^ a) : ∀ {b : Nat}, a ≤ b → chs rule ld w b = chs rule ld w a
  | 0, h => by have : a = 0 := by omega
               rw [this]
  | b + 1, h => by
    by_cases he : a = b + 1
    · rw [he]
    · rw [chs_step, if_neg, chs_ext hw (by omega)]
      have : w < 2 ^ b := Nat.lt_of_lt_of_le hw (Nat.pow_le_pow_right (by decide) (by omega))
      rw [Nat.testBit_lt_two_pow this]; decide
theorem chs_congr {rule : Int32} {ld ld' : Nat → Nat} {w : Nat} (h : ∀ m, ld m = ld' m) : ∀ k, chs rule ld w k = chs rule ld' w k
  | 0 => rfl
  | k + 1 => by
    rw [chs_step, chs_step, chs_congr h k]
    simp only [h]
theorem mul_le9 : ∀ a, a < 9 → ∀ b, b < 9 → ((((1 : Int32) * nI a ≤ (1 : Int32) * nI b) ↔ a ≤ b) ∧ (((-1 : Int32) * nI a ≤ (-1 : Int32) * nI b) ↔ b ≤ a) ∧ ((0 : Int32) * nI a ≤ (0 : Int32) * nI b)) := by decide +kernel
theorem sub_lt9 : ∀ a, a < 9 → ∀ b, b < 9 → (((0 : Int32) < nI a - nI b ↔ b < a) ∧ ((0 : Int32) ≤ nI a - nI b ↔ b ≤ a)) := by decide +kernel
theorem mult_le {rule : Int32} {a b : Nat} (ha : a < 9) (hb : b < 9) : ((if rule = (1 : Int32) then (1 : Int32) else if rule = (2 : Int32) then (-1 : Int32) else (0 : Int32)) * nI a ≤ (if rule = (1 : Int32) then (1 : Int32) else if rule = (2 : Int32) then (-1 : Int32) else (0 : Int32)) * nI b) ↔ better rule a b = false := by
  obtain ⟨h1, h2, h3⟩ := mul_le9 a ha b hb
  unfold better
  by_cases r1 : rule = (1 : Int32)
  · simp only [r1, if_true]; rw [h1]; simp
  · simp only [if_neg r1]
    by_cases r2 : rule = (2 : Int32)
    · simp only [r2, if_true]; rw [h2]; simp
    · simp only [if_neg r2]; simp [h3]
theorem c_choose (hR : RC bo li mi sv cn cs n) (hW : WF bo li mi sv cn cs) (r : OS) {w : Nat} (hw : w < 256) : fX3_choose r n (nI w) = some (eN (chs (n.1 4) (fun m => cnt (fun i => via cs i == some m) 48) w 8) (-6)) := by
  unfold fX3_choose jn
  obtain ⟨mu, hmu⟩ : ∃ mu, mu = (if (n.1 4) = (1 : Int32) then (1 : Int32) else if (n.1 4) = (2 : Int32) then (-1 : Int32) else (0 : Int32)) := ⟨_, rfl⟩
  rw [← hmu]
  have h := iloop (fun k i (a : Int32 × Int32) => fX3_choose_36 r n (nI w) mu k a.1 a.2 i) 8 (fun i a => a.1 = eN (chs (n.1 4) (fun m => cnt (fun i => via cs i == some m) 48) w i) (-6) ∧ ∀ b, chs (n.1 4) (fun m => cnt (fun i => via cs i == some m) 48) w i = some b → a.2 = mu * nI (cnt (fun i => via cs i == some b) 48)) (eN (chs (n.1 4) (fun m => cnt (fun i => via cs i == some m) 48) w 8) (-6)) ?_ ?_ FU 0 ((-6 : Int32), (0 : Int32)) (by omega) (FU_big (by omega)) ⟨rfl, fun b hb => by cases hb⟩
  · exact h
  · intro k i a hi hI
    obtain ⟨a1, a2⟩ := a
    obtain ⟨e1, e2⟩ := hI
    have e1 : a1 = _ := e1
    have e2 : ∀ b, chs (n.1 4) (fun m => cnt (fun i => via cs i == some m) 48) w i = some b → a2 = mu * nI (cnt (fun i => via cs i == some b) 48) := e2
    left
    show ∃ s' : Int32 × Int32, _ ∧ fX3_choose_36 r n (nI w) mu (k + 1) a1 a2 (nI i) = fX3_choose_36 r n (nI w) mu k s'.1 s'.2 (nI (i + 1))
    rw [fX3_choose_36_s, if_neg (ge8 hi), bit_has w hw i hi, nI_succ1]
    by_cases hb : w.testBit i = true
    · rw [if_pos hb, if_neg (by decide), c_load hR hW hi, Option.bind_some, load_eq hW, e1]
      cases hc : chs (n.1 4) (fun m => cnt (fun i => via cs i == some m) 48) w i with
      | none =>
        rw [eN_none, if_pos m6]
        refine ⟨(nI i, mu * nI (cnt (fun q => via cs q == some i) 48)), ⟨?_, ?_⟩, rfl⟩
        · show nI i = _
          rw [chs_step, if_pos hb, hc]; rfl
        · intro b hb2
          rw [chs_step, if_pos hb, hc] at hb2; cases hb2; rfl
      | some b =>
        have hlt := (chs_some hc).1
        rw [eN_some, if_neg (nI_pos (by omega)), e2 b hc]
        have hl1 := load_le hW (m := i)
        have hl2 := load_le hW (m := b)
        by_cases hbe : better (n.1 4) (cnt (fun q => via cs q == some i) 48) (cnt (fun q => via cs q == some b) 48) = true
        · rw [if_neg (by rw [hmu, mult_le (by omega) (by omega)]; simp [hbe])]
          refine ⟨(nI i, mu * nI (cnt (fun q => via cs q == some i) 48)), ⟨?_, ?_⟩, rfl⟩
          · show nI i = _
            rw [chs_step, if_pos hb, hc]; simp only [hbe, if_true]; rfl
          · intro b2 hb2
            rw [chs_step, if_pos hb, hc] at hb2; simp only [hbe, if_true] at hb2; cases hb2; rfl
        · rw [if_pos (by rw [hmu, mult_le (by omega) (by omega)]; simpa using hbe)]
          refine ⟨(nI b, mu * nI (cnt (fun q => via cs q == some b) 48)), ⟨?_, ?_⟩, rfl⟩
          · show nI b = _
            rw [chs_step, if_pos hb, hc]; simp only [hbe]; rfl
          · intro b2 hb2
            rw [chs_step, if_pos hb, hc] at hb2; simp only [hbe] at hb2; cases hb2; rfl
    · rw [if_neg hb, if_pos rfl]
      have hst : chs (n.1 4) (fun m => cnt (fun i => via cs i == some m) 48) w (i + 1) = chs (n.1 4) (fun m => cnt (fun i => via cs i == some m) 48) w i := by rw [chs_step, if_neg hb]
      exact ⟨(a1, a2), ⟨by show a1 = _; rw [hst]; exact e1, fun b hb2 => by rw [hst] at hb2; exact e2 b hb2⟩, rfl⟩
  · intro k a hI
    obtain ⟨a1, a2⟩ := a
    obtain ⟨e1, e2⟩ := hI
    have e1 : a1 = _ := e1
    show fX3_choose_36 r n (nI w) mu (k + 1) a1 a2 (nI 8) = _
    rw [fX3_choose_36_s, if_pos (by decide), e1]
theorem m_lowest {w : Nat} (hw : w < 256) {m0 : Nat} (h : findI w.testBit 8 = some m0) : fX6_lowest (nI w) = some (nI m0) := by
  unfold fX6_lowest
  obtain ⟨h1, h2, h3⟩ := findI_some h
  have hq := iloop (fun k i (_ : Unit) => fX6_lowest_2 (nI w) k i) 8 (fun i _ => i ≤ m0) (nI m0) ?_ ?_ FU 0 () (by omega) (FU_big (by omega)) (Nat.zero_le _)
  · exact hq
  · intro k i _ hi hI
    show (∃ s', _ ∧ fX6_lowest_2 (nI w) (k + 1) (nI i) = fX6_lowest_2 (nI w) k (nI (i + 1))) ∨ fX6_lowest_2 (nI w) (k + 1) (nI i) = _
    rw [fX6_lowest_2_s, bit_has6 w hw i hi, nI_succ1]
    by_cases he : i = m0
    · right; rw [he, if_pos h2, if_neg (by decide)]
    · left
      have hlt : i < m0 := by have : i ≤ m0 := hI; omega
      refine ⟨(), by show i + 1 ≤ m0; omega, ?_⟩
      rw [if_neg (show ¬ w.testBit i = true by rw [h3 i hlt]; decide), if_pos rfl]
  · intro k _ hI
    have : (8 : Nat) ≤ m0 := hI
    omega
theorem m_choice (hM : RM bo li mi sv cn cs (blk g bb)) (hW : WF bo li mi sv cn cs) (hb : bb ≤ 924) {w : Nat} (hw : w < 2 ^ mi) (hw0 : w ≠ 0) : fX6_chosen g (nI bb) (nI w) = some (eN (chs (blk g bb 3) (fun m => cnt (fun i => via cs i == some m) 48) w 8) (-6)) := by
  have hmi := hW.mi8
  have hw8 := lt256 hw hmi
  obtain ⟨ru, hru⟩ : ∃ ru, ru = blk g bb 3 := ⟨_, rfl⟩
  obtain ⟨ld, hld⟩ : ∃ ld : Nat → Nat, ld = fun m => cnt (fun i => via cs i == some m) 48 := ⟨_, rfl⟩
  have hldm : ∀ m, cnt (fun i => via cs i == some m) 48 = ld m := fun m => by rw [hld]
  have hld9 : ∀ m, ld m < 9 := fun m => by rw [← hldm]; have := load_le hW (m := m); omega
  rw [← hru, ← hld]
  cases hf : findI w.testBit 8 with
  | none =>
    exfalso
    apply hw0
    apply Nat.eq_of_testBit_eq
    intro i
    rw [Nat.zero_testBit]
    by_cases hi : i < 8
    · exact findI_none.mp hf i hi
    · have h28 : w < 2 ^ 8 := by omega
      have : w < 2 ^ i := Nat.lt_of_lt_of_le h28 (Nat.pow_le_pow_right (by decide) (by omega))
      exact Nat.testBit_lt_two_pow this
  | some m0 =>
    obtain ⟨h1, h2, h3⟩ := findI_some hf
    have hm0 : m0 < mi := by
      rcases Nat.lt_or_ge m0 mi with h | h
      · exact h
      · have : w < 2 ^ m0 := Nat.lt_of_lt_of_le hw (Nat.pow_le_pow_right (by decide) h)
        rw [Nat.testBit_lt_two_pow this] at h2; cases h2
    have hstart : chs ru ld w (m0 + 1) = some m0 := by
      rw [chs_step, if_pos h2, chs_none.mpr h3]
    unfold fX6_chosen
    rw [m_lowest hw8 hf, Option.bind_some, nI_succ1, chs_ext hw hmi]
    have hq := iloop (fun k i (a : Int32) => fX6_chosen_10 g (nI bb) (nI w) k a i) mi (fun i a => m0 < i ∧ ∃ b, chs ru ld w i = some b ∧ a = nI b) (eN (chs ru ld w mi) (-6)) ?_ ?_ FU (m0 + 1) (nI m0) (by omega) (FU_big (by omega)) ⟨by omega, m0, hstart, rfl⟩
    · exact hq
    · intro k i a hi hI
      obtain ⟨hmi0, b, hcb, rfl⟩ := hI
      left
      show ∃ s', _ ∧ fX6_chosen_10 g (nI bb) (nI w) (k + 1) (nI b) (nI i) = fX6_chosen_10 g (nI bb) (nI w) k s' (nI (i + 1))
      have hb8 := (chs_some hcb).1
      have h33 : ((g.2 0) (nI bb + (3 : Int32)).toNatClampNeg) = ru := by rw [show nI bb + (3 : Int32) = nI bb + nI 3 from rfl, m_fld hb (by decide), hru]
      rw [fX6_chosen_10_s, if_pos (in_2 hb), m_mi hM hb, if_neg (nI_ge hi (by omega)), m_load hM hW hb (by omega), Option.bind_some, m_load hM hW hb (by omega), Option.bind_some, h33, if_pos (in_3 hb), if_pos (in_3 hb), hldm, hldm, bit_has6 w hw8 i (by omega), nI_succ1]
      obtain ⟨s1, s2⟩ := sub_lt9 (ld i) (hld9 i) (ld b) (hld9 b)
      have hbet : (if ru = (1 : Int32) then (if (0 : Int32) < nI (ld i) - nI (ld b) then some (1 : Int32) else if ru = (2 : Int32) then (if (0 : Int32) ≤ nI (ld i) - nI (ld b) then some (0 : Int32) else some (1 : Int32)) else some (0 : Int32)) else (if ru = (2 : Int32) then (if (0 : Int32) ≤ nI (ld i) - nI (ld b) then some (0 : Int32) else some (1 : Int32)) else some (0 : Int32))) = some (if better ru (ld i) (ld b) = true then (1 : Int32) else (0 : Int32)) := by
        unfold better
        by_cases r1 : ru = (1 : Int32)
        · have r2 : ¬ ru = (2 : Int32) := by rw [r1]; decide
          simp only [if_pos r1, if_neg r2]
          by_cases hlt : ld b < ld i
          · rw [if_pos (s1.mpr hlt), if_pos (by simpa using hlt)]
          · rw [if_neg (fun h => hlt (s1.mp h)), if_neg (by simpa using hlt)]
        · simp only [if_neg r1]
          by_cases r2 : ru = (2 : Int32)
          · simp only [if_pos r2]
            by_cases hlt : ld i < ld b
            · rw [if_neg (fun h => by have := s2.mp h; omega), if_pos (by simpa using hlt)]
            · rw [if_pos (s2.mpr (by omega)), if_neg (by simpa using hlt)]
          · simp only [if_neg r2]; simp
      rw [hbet, Option.bind_some]
      by_cases hbi : w.testBit i = true
      · rw [if_pos hbi, if_neg (by decide)]
        by_cases hbe : better ru (ld i) (ld b) = true
        · rw [if_pos hbe, if_neg (by decide)]
          refine ⟨nI i, ⟨by omega, i, ?_, rfl⟩, rfl⟩
          rw [chs_step, if_pos hbi, hcb]; simp only [hbe, if_true]
        · rw [if_neg hbe, if_pos rfl]
          refine ⟨nI b, ⟨by omega, b, ?_, rfl⟩, rfl⟩
          rw [chs_step, if_pos hbi, hcb]; simp [hbe]
      · rw [if_neg hbi, if_pos rfl]
        refine ⟨nI b, ⟨by omega, b, ?_, rfl⟩, rfl⟩
        rw [chs_step, if_neg hbi, hcb]
    · intro k a hI
      obtain ⟨hmi0, b, hcb, rfl⟩ := hI
      show fX6_chosen_10 g (nI bb) (nI w) (k + 1) (nI b) (nI mi) = _
      rw [fX6_chosen_10_s, if_pos (in_2 hb), m_mi hM hb, if_pos (nI_le (Nat.le_refl _) (by omega)), hcb]
      rfl
end CM
