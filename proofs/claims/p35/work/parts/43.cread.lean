/-! what the class's network answers, in the words of the abstract network -/
section CR
variable {bo li mi sv cn : Nat} {cs : CS} {n : OS}
theorem RC.f0 (h : RC bo li mi sv cn cs n) : n.1 0 = nI bo := h.1
theorem RC.f1 (h : RC bo li mi sv cn cs n) : n.1 1 = nI li := h.2.1
theorem RC.f2 (h : RC bo li mi sv cn cs n) : n.1 2 = nI mi := h.2.2.1
theorem RC.f3 (h : RC bo li mi sv cn cs n) : n.1 3 = nI sv := h.2.2.2.1
theorem RC.f6 (h : RC bo li mi sv cn cs n) : n.1 6 = nI cn := h.2.2.2.2.1
theorem RC.r0 (h : RC bo li mi sv cn cs n) {i : Nat} (hi : i < 48) : rget (n.2 0) 48 (nI i) = eN (num cs i) (-6) := by
  rw [rget_in hi (by decide)]; exact h.2.2.2.2.2.1 i hi
theorem RC.r1 (h : RC bo li mi sv cn cs n) {i : Nat} (hi : i < 48) : rget (n.2 1) 48 (nI i) = eN (outl cs i) (-6) := by
  rw [rget_in hi (by decide)]; exact h.2.2.2.2.2.2.1 i hi
theorem RC.r2 (h : RC bo li mi sv cn cs n) {i : Nat} (hi : i < 48) : rget (n.2 2) 48 (nI i) = eN (via cs i) (-6) := by
  rw [rget_in hi (by decide)]; exact h.2.2.2.2.2.2.2.1 i hi
theorem RC.r3 (h : RC bo li mi sv cn cs n) {o : Nat} (ho : o < 48) : rget (n.2 3) 48 (nI o) = eN (inlOf cs o) (-6) := by
  rw [rget_in ho (by decide)]; exact h.2.2.2.2.2.2.2.2.1 o ho
theorem RC.r4 (h : RC bo li mi sv cn cs n) {b m : Nat} (hb : b < 8) (hm : m < 8) : rget (n.2 4) 64 (fX5_link (nI b) (nI m)) = eN (lkF li cs b m) (-6) := by
  rw [link_nI, rget_in (by omega) (by decide)]; exact h.2.2.2.2.2.2.2.2.2.1 b m hb hm
theorem RC.r5 (h : RC bo li mi sv cn cs n) {t m : Nat} (ht : t < 8) (hm : m < 8) : rget (n.2 5) 64 (fX5_link (nI t) (nI m)) = eN (lkL li cs m t) (-6) := by
  rw [link_nI, rget_in (by omega) (by decide)]; exact h.2.2.2.2.2.2.2.2.2.2 t m ht hm
theorem m6 : (-6 : Int32) < 0 := by decide
theorem m1 : (-1 : Int32) < 0 := by decide
theorem lkF48 {b m i : Nat} (h : lkF li cs b m = some i) : i < 2 ^ 31 := by have := findI_lt h; omega
theorem lkL48 {b m i : Nat} (h : lkL li cs m b = some i) : i < 2 ^ 31 := by have := findI_lt h; omega
theorem inl48 {o i : Nat} (h : inlOf cs o = some i) : i < 2 ^ 31 := by have := findI_lt h; omega
theorem c_busy (hR : RC bo li mi sv cn cs n) (hW : WF bo li mi sv cn cs) {i : Nat} (hi : i < 48) : fX1_isInletBusy n (nI i) = (if busy cs i = true then (1 : Int32) else (0 : Int32)) := by
  unfold fX1_isInletBusy
  rw [hR.r0 hi]
  by_cases hb : busy cs i = true
  · rw [if_pos hb, if_neg]
    rw [eN_lt0 m6 (fun k hk => hW.num31 hk), busy_num]
    simp [hb]
  · rw [if_neg hb, if_pos]
    rw [eN_lt0 m6 (fun k hk => hW.num31 hk), busy_num]
    simpa using hb
theorem c_obusy (hR : RC bo li mi sv cn cs n) {o : Nat} (ho : o < 48) : fX1_isOutletBusy n (nI o) = (if (inlOf cs o).isSome = true then (1 : Int32) else (0 : Int32)) := by
  unfold fX1_isOutletBusy
  rw [hR.r3 ho]
  cases hi : inlOf cs o with
  | none => rfl
  | some i => rw [if_neg (by rw [eN_some]; exact nI_pos (inl48 hi))]; rfl
theorem c_board (hR : RC bo li mi sv cn cs n) (hW : WF bo li mi sv cn cs) {x : Nat} (hx : x < 2 ^ 31) : fX1_boardOf n (nI x) = nI (x / li) := by
  unfold fX1_boardOf
  have h1 := hW.li1
  have h6 := hW.li6
  rw [hR.f1, if_neg (nI_nle (by omega) (by omega)), pk_div hx (by omega) (by omega)]
theorem c_count (hR : RC bo li mi sv cn cs n) (hW : WF bo li mi sv cn cs) : fX1_countCalls n = some (nI (cnt (busy cs) 48)) := by
  unfold fX1_countCalls
  have h := iloop (fun k i (a : Int32) => fX1_countCalls_4 n k a i) 48 (fun i a => a = nI (cnt (busy cs) i)) (nI (cnt (busy cs) 48)) ?_ ?_ FU 0 (0 : Int32) (by omega) (FU_big (by omega)) rfl
  · exact h
  · intro k i s hi hI
    subst hI
    refine Or.inl ⟨_, rfl, ?_⟩
    show fX1_countCalls_4 n (k + 1) _ _ = fX1_countCalls_4 n k _ _
    rw [fX1_countCalls_4_s, if_neg (ge48 hi), hR.r0 hi]
    have hc : cnt (busy cs) (i + 1) = cnt (busy cs) i + (if busy cs i = true then 1 else 0) := rfl
    by_cases hb : busy cs i = true
    · rw [if_neg, nI_succ1, hc, if_pos hb, nI_succ1]
      rw [eN_lt0 m6 (fun k hk => hW.num31 hk), busy_num]; simp [hb]
    · rw [if_pos, nI_succ1, hc, if_neg hb, nI_add0]; rfl
      rw [eN_lt0 m6 (fun k hk => hW.num31 hk), busy_num]; simpa using hb
  · intro k s hI
    subst hI
    show fX1_countCalls_4 n (k + 1) _ _ = _
    rw [fX1_countCalls_4_s, if_pos (by decide)]
theorem c_findInlet (hR : RC bo li mi sv cn cs n) (hW : WF bo li mi sv cn cs) {c : Nat} (hc : c < 2 ^ 31) : fX1_findInlet n (nI c) = some (eN (findI (fun i => num cs i == some c) 48) (-1)) := by
  unfold fX1_findInlet
  rw [if_pos (nI_pos' hc)]
  have h := iloop (fun k i (_ : Unit) => fX1_findInlet_8 n (nI c) k i) 48 (fun i _ => ∀ j, j < i → num cs j ≠ some c) (eN (findI (fun i => num cs i == some c) 48) (-1)) ?_ ?_ FU 0 () (by omega) (FU_big (by omega)) (fun j hj => absurd hj (by omega))
  · exact h
  · intro k i s hi hI
    show (∃ s', _ ∧ fX1_findInlet_8 n (nI c) (k + 1) (nI i) = fX1_findInlet_8 n (nI c) k (nI (i + 1))) ∨ fX1_findInlet_8 n (nI c) (k + 1) (nI i) = _
    rw [fX1_findInlet_8_s, if_neg (ge48 hi), hR.r0 hi]
    by_cases hb : num cs i = some c
    · right
      rw [hb, eN_some, if_pos rfl]
      have : findI (fun i => num cs i == some c) 48 = some i := by
        cases hf : findI (fun i => num cs i == some c) 48 with
        | none => have := findI_none.mp hf i hi; simp [hb] at this
        | some j =>
          obtain ⟨h1, h2, h3⟩ := findI_some hf
          rcases Nat.lt_trichotomy i j with hlt | he | hlt
          · have := h3 i hlt; simp [hb] at this
          · rw [he]
          · exact absurd (by simpa using h2) (hI j hlt)
      rw [this]; rfl
    · left
      refine ⟨(), fun j hj => ?_, ?_⟩
      · by_cases hji : j = i
        · rw [hji]; exact hb
        · exact hI j (by omega)
      · rw [if_neg, nI_succ1]
        rw [eN_eqn m6 hc (fun k hk => hW.num31 hk)]
        exact hb
  · intro k s hI
    show fX1_findInlet_8 n (nI c) (k + 1) (nI 48) = _
    rw [fX1_findInlet_8_s, if_pos (by decide), findI_none.mpr (fun j hj => by simpa using hI j hj)]
    rfl
theorem c_load (hR : RC bo li mi sv cn cs n) (hW : WF bo li mi sv cn cs) {m : Nat} (hm : m < 8) : fX1_loadOf n (nI m) = some (nI (cnt (fun b => (lkF li cs b m).isSome) bo)) := by
  unfold fX1_loadOf
  have hbo := hW.bo8
  have h := iloop (fun k i (a : Int32) => fX1_loadOf_4 n (nI m) k a i) bo (fun i a => a = nI (cnt (fun b => (lkF li cs b m).isSome) i)) (nI (cnt (fun b => (lkF li cs b m).isSome) bo)) ?_ ?_ FU 0 (0 : Int32) (by omega) (FU_big (by omega)) rfl
  · exact h
  · intro k i s hi hI
    subst hI
    refine Or.inl ⟨_, rfl, ?_⟩
    show fX1_loadOf_4 n (nI m) (k + 1) _ _ = fX1_loadOf_4 n (nI m) k _ _
    rw [fX1_loadOf_4_s, hR.f0, if_neg (nI_ge hi (by omega)), hR.r4 (by omega) hm]
    have hc : cnt (fun b => (lkF li cs b m).isSome) (i + 1) = cnt (fun b => (lkF li cs b m).isSome) i + (if (lkF li cs i m).isSome = true then 1 else 0) := rfl
    cases hl : lkF li cs i m with
    | none => rw [hl] at hc; rw [eN_none, if_pos m6, nI_succ1, hc, nI_add0]; rfl
    | some q => rw [hl] at hc; rw [eN_some, if_neg (nI_pos (lkF48 hl)), nI_succ1, hc, nI_succ1]; rfl
  · intro k s hI
    subst hI
    show fX1_loadOf_4 n (nI m) (k + 1) _ _ = _
    rw [fX1_loadOf_4_s, hR.f0, if_pos (nI_le (Nat.le_refl _) (by omega))]
theorem or_bit (p : Nat → Bool) {i : Nat} (hi : i < 31) : (if p i = true then nI (bitsOf p i) ||| ((1 : Int32) <<< (nI i &&& 31)) else nI (bitsOf p i)) = nI (bitsOf p (i + 1)) := by
  have hc : bitsOf p (i + 1) = (if p i = true then bitsOf p i ||| 2 ^ i else bitsOf p i) := rfl
  rw [hc]
  split
  · rw [shl1 i hi, fa_or]
  · rfl
theorem c_freeF (hR : RC bo li mi sv cn cs n) (hW : WF bo li mi sv cn cs) {b : Nat} (hb : b < 8) : fX1_freeOnLinks4 n (nI b) = some (nI (bitsOf (fun m => (lkF li cs b m).isNone) mi &&& sv)) := by
  unfold fX1_freeOnLinks4
  have hmi := hW.mi8
  have h := iloop (fun k i (a : Int32) => fX1_freeOnLinks4_5 n (nI b) k a i) mi (fun i a => a = nI (bitsOf (fun m => (lkF li cs b m).isNone) i)) (nI (bitsOf (fun m => (lkF li cs b m).isNone) mi &&& sv)) ?_ ?_ FU 0 (0 : Int32) (by omega) (FU_big (by omega)) rfl
  · exact h
  · intro k i s hi hI
    subst hI
    refine Or.inl ⟨_, rfl, ?_⟩
    show fX1_freeOnLinks4_5 n (nI b) (k + 1) _ _ = fX1_freeOnLinks4_5 n (nI b) k _ _
    rw [fX1_freeOnLinks4_5_s, hR.f2, if_neg (nI_ge hi (by omega)), hR.r4 hb (by omega)]
    have ho := or_bit (fun m => (lkF li cs b m).isNone) (i := i) (by omega)
    cases hl : lkF li cs b i with
    | none => simp only [hl] at ho; rw [eN_none, if_neg (by decide), nI_succ1, ← ho]; rfl
    | some q => simp only [hl] at ho; rw [eN_some, if_pos (nI_pos' (lkF48 hl)), nI_succ1, ← ho]; rfl
  · intro k s hI
    subst hI
    show fX1_freeOnLinks4_5 n (nI b) (k + 1) _ _ = _
    rw [fX1_freeOnLinks4_5_s, hR.f2, if_pos (nI_le (Nat.le_refl _) (by omega)), hR.f3, fa_and]
theorem c_freeL (hR : RC bo li mi sv cn cs n) (hW : WF bo li mi sv cn cs) {b : Nat} (hb : b < 8) : fX1_freeOnLinks5 n (nI b) = some (nI (bitsOf (fun m => (lkL li cs m b).isNone) mi &&& sv)) := by
  unfold fX1_freeOnLinks5
  have hmi := hW.mi8
  have h := iloop (fun k i (a : Int32) => fX1_freeOnLinks5_5 n (nI b) k a i) mi (fun i a => a = nI (bitsOf (fun m => (lkL li cs m b).isNone) i)) (nI (bitsOf (fun m => (lkL li cs m b).isNone) mi &&& sv)) ?_ ?_ FU 0 (0 : Int32) (by omega) (FU_big (by omega)) rfl
  · exact h
  · intro k i s hi hI
    subst hI
    refine Or.inl ⟨_, rfl, ?_⟩
    show fX1_freeOnLinks5_5 n (nI b) (k + 1) _ _ = fX1_freeOnLinks5_5 n (nI b) k _ _
    rw [fX1_freeOnLinks5_5_s, hR.f2, if_neg (nI_ge hi (by omega)), hR.r5 hb (by omega)]
    have ho := or_bit (fun m => (lkL li cs m b).isNone) (i := i) (by omega)
    cases hl : lkL li cs i b with
    | none => simp only [hl] at ho; rw [eN_none, if_neg (by decide), nI_succ1, ← ho]; rfl
    | some q => simp only [hl] at ho; rw [eN_some, if_pos (nI_pos' (lkL48 hl)), nI_succ1, ← ho]; rfl
  · intro k s hI
    subst hI
    show fX1_freeOnLinks5_5 n (nI b) (k + 1) _ _ = _
    rw [fX1_freeOnLinks5_5_s, hR.f2, if_pos (nI_le (Nat.le_refl _) (by omega)), hR.f3, fa_and]
/-- the call off its links that has the least number -/
def lft (cs : CS) : Nat → Option Nat
  | 0 => none
  | k + 1 => if (busy cs k && (via cs k).isNone) = true then (match lft cs k with
      | none => some k
      | some f => if (num cs f).getD 0 ≤ (num cs k).getD 0 then some f else some k) else lft cs k
theorem lft_some {cs : CS} : ∀ {k f : Nat}, lft cs k = some f → f < k ∧ busy cs f = true ∧ via cs f = none
  | 0, f, h => by cases h
  | k + 1, f, h => by
    have hd : lft cs (k + 1) = (if (busy cs k && (via cs k).isNone) = true then (match lft cs k with
      | none => some k
      | some f => if (num cs f).getD 0 ≤ (num cs k).getD 0 then some f else some k) else lft cs k) := rfl
    rw [hd] at h
    by_cases hb : (busy cs k && (via cs k).isNone) = true
    · have hk : busy cs k = true ∧ via cs k = none := by
        simp only [Bool.and_eq_true, Option.isNone_iff_eq_none] at hb; exact hb
      rw [if_pos hb] at h
      cases hl : lft cs k with
      | none => rw [hl] at h; cases h; exact ⟨by omega, hk⟩
      | some g =>
        rw [hl] at h
        have ih := lft_some hl
        by_cases hle : (num cs g).getD 0 ≤ (num cs k).getD 0
        · simp only [hle, if_true] at h; cases h; exact ⟨by omega, ih.2⟩
        · simp only [hle, if_false] at h; cases h; exact ⟨by omega, hk⟩
    · rw [if_neg hb] at h
      have ih := lft_some h
      exact ⟨by omega, ih.2⟩
theorem lft_none {cs : CS} : ∀ {k : Nat}, lft cs k = none → ∀ i, i < k → busy cs i = true → via cs i ≠ none
  | 0, _, i, hi => by omega
  | k + 1, h, i, hi => by
    have hd : lft cs (k + 1) = (if (busy cs k && (via cs k).isNone) = true then (match lft cs k with
      | none => some k
      | some f => if (num cs f).getD 0 ≤ (num cs k).getD 0 then some f else some k) else lft cs k) := rfl
    rw [hd] at h
    by_cases hb : (busy cs k && (via cs k).isNone) = true
    · rw [if_pos hb] at h
      cases hl : lft cs k with
      | none => rw [hl] at h; cases h
      | some g =>
        rw [hl] at h
        by_cases hle : (num cs g).getD 0 ≤ (num cs k).getD 0
        · simp [hle] at h
        · simp [hle] at h
    · rw [if_neg hb] at h
      intro hbi hv
      by_cases hik : i = k
      · subst hik
        exact hb (by simp [hbi, hv])
      · exact lft_none h i (by omega) hbi hv
theorem c_lifted (hR : RC bo li mi sv cn cs n) (hW : WF bo li mi sv cn cs) : fX1_firstLifted n = some (eN (lft cs 48) (-6)) := by
  unfold fX1_firstLifted
  have h := iloop (fun k i (a : Int32) => fX1_firstLifted_5 n k a i) 48 (fun i a => a = eN (lft cs i) (-6)) (eN (lft cs 48) (-6)) ?_ ?_ FU 0 (-6 : Int32) (by omega) (FU_big (by omega)) rfl
  · exact h
  · intro k i s hi hI
    subst hI
    refine Or.inl ⟨_, rfl, ?_⟩
    show fX1_firstLifted_5 n (k + 1) _ _ = fX1_firstLifted_5 n k _ _
    rw [fX1_firstLifted_5_s, if_neg (ge48 hi), c_busy hR hW hi, hR.r2 hi, nI_succ1]
    have hd : lft cs (i + 1) = (if (busy cs i && (via cs i).isNone) = true then (match lft cs i with
      | none => some i
      | some f => if (num cs f).getD 0 ≤ (num cs i).getD 0 then some f else some i) else lft cs i) := rfl
    by_cases hb : busy cs i = true
    · rw [if_pos hb, if_neg (by decide)]
      cases hv : via cs i with
      | some v =>
        rw [if_neg (by simp [hv])] at hd
        rw [hd, eN_some, if_pos (nI_pos' (by have := hW.via8 hv; omega))]
      | none =>
        rw [if_pos (by simp [hb, hv])] at hd
        rw [eN_none, if_neg (by decide)]
        cases hl : lft cs i with
        | none =>
          rw [hl] at hd
          rw [hd, eN_none, if_pos m6]; rfl
        | some f =>
          obtain ⟨hf, hbf, -⟩ := lft_some hl
          rw [hl] at hd
          obtain ⟨a, ha⟩ := num_of_busy hbf
          obtain ⟨b, hb2⟩ := num_of_busy hb
          have hd : lft cs (i + 1) = if (num cs f).getD 0 ≤ (num cs i).getD 0 then some f else some i := hd
          rw [ha, hb2, Option.getD_some, Option.getD_some] at hd
          rw [hd, eN_some, if_neg (nI_pos (by omega)), hR.r0 (by omega), hR.r0 hi, ha, hb2, eN_some, eN_some]
          by_cases hab : a ≤ b
          · rw [if_pos (nI_le hab (hW.num31 hb2)), if_pos hab]; rfl
          · rw [if_neg (nI_ge (by omega) (hW.num31 ha)), if_neg hab]; rfl
    · rw [if_neg (by simp [hb])] at hd
      rw [hd, if_neg hb, if_pos rfl]
  · intro k s hI
    subst hI
    show fX1_firstLifted_5 n (k + 1) _ _ = _
    rw [fX1_firstLifted_5_s, if_pos (by decide)]
end CR
