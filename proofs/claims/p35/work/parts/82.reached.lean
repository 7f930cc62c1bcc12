/-! outlets that can be reached -/
theorem jn_eq {α β : Sort _} (a : α) (f : α → β) : jn a f = f a := rfl
section RE
variable {K bo li mi sv cn : Nat} {cs : CS} {n : OS} {B : Nat → Int32} {kx x : OS} {hi : HS}
theorem v_reasonB (h : VW K bo li mi sv cn cs n B) {i o : Nat} (hi : i < bo * li) (ho : o < bo * li) (hb : busy cs i = true) : fX5_reason kx n (nI i) (nI o) = some (2 : Int32) := by
  have h48 := h.W.n48
  unfold fX5_reason
  rw [c_isLine h.R, if_neg (nI_pos (by omega)), if_neg (nI_ge hi (by omega)), if_neg ne10, c_isLine h.R, if_neg (nI_pos (by omega)), if_neg (nI_ge ho (by omega)), if_neg ne10, c_busy h.R h.W (by omega), if_pos hb, if_neg ne10]
theorem v_reasonF (h : VW K bo li mi sv cn cs n B) {i o : Nat} (hi : i < bo * li) (ho : o < bo * li) (hb : busy cs i = false) : ∃ w : Int32, fX5_reason kx n (nI i) (nI o) = some w ∧ (w = (0 : Int32) ↔ rch li mi sv cs (frF li mi sv cs (i / li)) o = true) := by
  have h48 := h.W.n48
  have h8 := h.W.bo8
  have f1 : ∀ b, frF li mi sv cs b < 256 := fun b => frF256 h.W
  have f2 : ∀ b, frL li mi sv cs b < 256 := fun b => frL256 h.W
  have d1 := div_lt hi
  have d2 := div_lt ho
  unfold fX5_reason
  rw [c_isLine h.R, if_neg (nI_pos (by omega)), if_neg (nI_ge hi (by omega)), if_neg ne10, c_isLine h.R, if_neg (nI_pos (by omega)), if_neg (nI_ge ho (by omega)), if_neg ne10, c_busy h.R h.W (by omega), hb, if_neg (by decide : ¬ false = true), if_pos rfl, c_obusy h.R (by omega)]
  unfold rch
  cases hio : inlOf cs o with
  | some u =>
    refine ⟨(3 : Int32), ?_, ?_⟩
    · rw [if_pos (by rfl : (some u).isSome = true), if_neg ne10]
    · constructor
      · intro e; exact absurd e (by decide)
      · intro e; simp at e
  | none =>
    rw [if_neg (by decide : ¬ (none : Option Nat).isSome = true), if_pos rfl, c_board h.R h.W (by omega), c_board h.R h.W (by omega), v_frF h (by omega), Option.bind_some, v_frL h (by omega), Option.bind_some]
    have z1 : (nI (frF li mi sv cs (i / li)) = (0 : Int32)) ↔ frF li mi sv cs (i / li) = 0 := nI0 (by have := f1 (i / li); omega)
    have z2 : (nI (frL li mi sv cs (o / li)) = (0 : Int32)) ↔ frL li mi sv cs (o / li) = 0 := nI0 (by have := f2 (o / li); omega)
    have z3 : (nI (frF li mi sv cs (i / li)) &&& nI (frL li mi sv cs (o / li)) = (0 : Int32)) ↔ frF li mi sv cs (i / li) &&& frL li mi sv cs (o / li) = 0 := nI_and0 (f1 _)
    by_cases hF0 : frF li mi sv cs (i / li) = 0
    · refine ⟨(4 : Int32), by rw [if_pos (z1.mpr hF0)], ?_⟩
      constructor
      · intro e; exact absurd e (by decide)
      · intro e; rw [hF0, Nat.zero_and] at e; simp at e
    by_cases hL0 : frL li mi sv cs (o / li) = 0
    · refine ⟨(5 : Int32), by rw [if_neg (fun e => hF0 (z1.mp e)), if_pos (z2.mpr hL0)], ?_⟩
      constructor
      · intro e; exact absurd e (by decide)
      · intro e; rw [hL0, Nat.and_zero] at e; simp at e
    by_cases h0 : frF li mi sv cs (i / li) &&& frL li mi sv cs (o / li) = 0
    · refine ⟨(1 : Int32), by rw [if_neg (fun e => hF0 (z1.mp e)), if_neg (fun e => hL0 (z2.mp e)), if_pos (z3.mpr h0)], ?_⟩
      constructor
      · intro e; exact absurd e (by decide)
      · intro e; rw [h0] at e; simp at e
    · refine ⟨(0 : Int32), by rw [if_neg (fun e => hF0 (z1.mp e)), if_neg (fun e => hL0 (z2.mp e)), if_neg (fun e => h0 (z3.mp e))], ?_⟩
      simp [h0]
theorem v_reachB (h : VW K bo li mi sv cn cs n B) {i : Nat} (hi : i < bo * li) (hb : busy cs i = true) : fX5_reachable kx n (nI i) = some (-3 : Int32) := by
  have h48 := h.W.n48
  unfold fX5_reachable
  rw [c_isLine h.R, if_neg (nI_pos (by omega)), if_neg (nI_ge hi (by omega)), if_neg ne10, c_busy h.R h.W (by omega), if_pos hb, if_neg ne10]
theorem v_reachF (h : VW K bo li mi sv cn cs n B) {i : Nat} (hi : i < bo * li) (hb : busy cs i = false) : fX5_reachable kx n (nI i) = some (nI (cnt (rch li mi sv cs (frF li mi sv cs (i / li))) (bo * li))) := by
  have hR := h.R
  have W := h.W
  have h48 := W.n48
  have h8 := W.bo8
  have hl1 := W.li1
  have hl6 := W.li6
  have d1 := div_lt hi
  unfold fX5_reachable
  rw [c_isLine hR, if_neg (nI_pos (by omega)), if_neg (nI_ge hi (by omega)), if_neg ne10, c_busy hR W (by omega), hb, if_neg (by decide : ¬ false = true), if_pos rfl, c_board hR W (by omega), v_frF h (by omega), Option.bind_some]
  obtain ⟨F, hF⟩ : ∃ F, F = frF li mi sv cs (i / li) := ⟨_, rfl⟩
  have hF256 : F < 256 := by rw [hF]; exact frF256 W
  rw [← hF]
  have zF : ∀ t, (nI F &&& nI (frL li mi sv cs t) = (0 : Int32)) ↔ F &&& frL li mi sv cs t = 0 := fun t => nI_and0 hF256
  have ee : cnt (rch li mi sv cs F) (bo * li) = cnt (fun o => decide (o < bo * li) && rch li mi sv cs F o) 48 := by
    rw [cnt_ext h48 (fun i a _ => by
      have : ¬ i < bo * li := by omega
      simp [this])]
    exact cnt_congr (fun i hi => by simp [hi])
  rw [ee]
  have hq := iloop (fun k i (a : Int32) => fX5_reachable_55 kx n (nI F) k a i) 48 (fun i a => a = nI (cnt (fun o => decide (o < bo * li) && rch li mi sv cs F o) i)) (nI (cnt (fun o => decide (o < bo * li) && rch li mi sv cs F o) 48)) ?_ ?_ FU 0 (0 : Int32) (by omega) (FU_big (by omega)) rfl
  · exact hq
  · intro k o s ho hI
    subst hI
    refine Or.inl ⟨_, rfl, ?_⟩
    show fX5_reachable_55 kx n (nI F) (k + 1) _ _ = fX5_reachable_55 kx n (nI F) k _ _
    have hc : cnt (fun o => decide (o < bo * li) && rch li mi sv cs F o) (o + 1) = cnt (fun o => decide (o < bo * li) && rch li mi sv cs F o) o + (if (decide (o < bo * li) && rch li mi sv cs F o) = true then 1 else 0) := rfl
    rw [fX5_reachable_55_s, if_neg (ge48 ho), c_isLine hR, if_neg (nI_pos (by omega)), nI_succ1 o, hc]
    by_cases hol : o < bo * li
    · rw [if_neg (nI_ge hol (by omega)), if_neg ne10, c_obusy hR (by omega)]
      cases hio : inlOf cs o with
      | some u =>
        have hz : ¬ (decide (o < bo * li) && rch li mi sv cs F o) = true := by unfold rch; rw [hio]; simp
        rw [if_pos (by rfl : (some u).isSome = true), if_neg ne10, if_neg hz]; rfl
      | none =>
        have d2 := div_lt hol
        rw [if_neg (by decide : ¬ (none : Option Nat).isSome = true), if_pos rfl, c_board hR W (by omega), v_frL h (by omega), Option.bind_some]
        by_cases hz : F &&& frL li mi sv cs (o / li) = 0
        · have hz2 : ¬ (decide (o < bo * li) && rch li mi sv cs F o) = true := by unfold rch; rw [hz]; simp
          rw [if_pos ((zF _).mpr hz), nI_add0, if_neg hz2]; rfl
        · have hz2 : (decide (o < bo * li) && rch li mi sv cs F o) = true := by unfold rch; rw [hio]; simp [hol, hz]
          rw [if_neg (fun e => hz ((zF _).mp e)), nI_succ1, if_pos hz2]
    · have hz : ¬ (decide (o < bo * li) && rch li mi sv cs F o) = true := by simp [hol]
      rw [if_pos (nI_le (by omega) (by omega)), if_pos rfl, if_neg hz]; rfl
  · intro k s hI
    subst hI
    show fX5_reachable_55 kx n (nI F) (k + 1) _ _ = _
    rw [fX5_reachable_55_s, if_pos (by decide)]
theorem reachB (h : VW K bo li mi sv cn cs n B) {i : Nat} (hi1 : i < bo * li) (hb : busy cs i = true) : fL_isReached_21 kx hi x n (nI i) (1 : Int32) FU (0 : Int32) (0 : Int32) = some (1 : Int32) := by
  have h48 := h.W.n48
  have hq := iloop (fun k o (a : Int32) => fL_isReached_21 kx hi x n (nI i) (1 : Int32) k a o) (bo * li) (fun _ a => a = (0 : Int32)) (1 : Int32) ?_ ?_ FU 0 (0 : Int32) (by omega) (FU_big (by omega)) rfl
  · exact hq
  · intro k o s ho hI
    subst hI
    refine Or.inl ⟨(0 : Int32), rfl, ?_⟩
    show fL_isReached_21 kx hi x n (nI i) (1 : Int32) (k + 1) _ _ = fL_isReached_21 kx hi x n (nI i) (1 : Int32) k _ _
    rw [fL_isReached_21_s, v_t0 h, Option.bind_some, v_t1 h, Option.bind_some, pk_mul, if_neg (nI_ge ho (by omega)), v_reasonB h hi1 ho hb, Option.bind_some, if_neg (show ¬ (2 : Int32) = (0 : Int32) by decide), nI_add0, nI_succ1]
  · intro k s hI
    subst hI
    show fL_isReached_21 kx hi x n (nI i) (1 : Int32) (k + 1) _ _ = _
    rw [fL_isReached_21_s, v_t0 h, Option.bind_some, v_t1 h, Option.bind_some, pk_mul, if_pos (nI_le (Nat.le_refl _) (by omega)), if_neg ne10, if_pos z00, v_reachB h hi1 hb, Option.bind_some, if_pos rfl]
theorem reachF (h : VW K bo li mi sv cn cs n B) {i : Nat} (hi1 : i < bo * li) (hb : busy cs i = false) : fL_isReached_21 kx hi x n (nI i) (0 : Int32) FU (0 : Int32) (0 : Int32) = some (1 : Int32) := by
  have h48 := h.W.n48
  have hq := iloop (fun k o (a : Int32) => fL_isReached_21 kx hi x n (nI i) (0 : Int32) k a o) (bo * li) (fun o a => a = nI (cnt (rch li mi sv cs (frF li mi sv cs (i / li))) o)) (1 : Int32) ?_ ?_ FU 0 (0 : Int32) (by omega) (FU_big (by omega)) rfl
  · exact hq
  · intro k o s ho hI
    subst hI
    refine Or.inl ⟨_, rfl, ?_⟩
    show fL_isReached_21 kx hi x n (nI i) (0 : Int32) (k + 1) _ _ = fL_isReached_21 kx hi x n (nI i) (0 : Int32) k _ _
    have hc : cnt (rch li mi sv cs (frF li mi sv cs (i / li))) (o + 1) = cnt (rch li mi sv cs (frF li mi sv cs (i / li))) o + (if rch li mi sv cs (frF li mi sv cs (i / li)) o = true then 1 else 0) := rfl
    obtain ⟨w, hw, hz⟩ := v_reasonF (kx := kx) h hi1 ho hb
    rw [fL_isReached_21_s, v_t0 h, Option.bind_some, v_t1 h, Option.bind_some, pk_mul, if_neg (nI_ge ho (by omega)), hw, Option.bind_some, hc, nI_succ1 o]
    by_cases h0 : w = (0 : Int32)
    · rw [if_pos h0, nI_succ1, if_pos (hz.mp h0)]
    · rw [if_neg h0, nI_add0, if_neg (fun e => h0 (hz.mpr e))]; rfl
  · intro k s hI
    subst hI
    show fL_isReached_21 kx hi x n (nI i) (0 : Int32) (k + 1) _ _ = _
    rw [fL_isReached_21_s, v_t0 h, Option.bind_some, v_t1 h, Option.bind_some, pk_mul, if_pos (nI_le (Nat.le_refl _) (by omega)), if_pos z00, v_reachF h hi1 hb, Option.bind_some, if_pos rfl]
theorem v_reached (h : VW K bo li mi sv cn cs n B) {i : Nat} (hi1 : i < bo * li) : fL_isReached kx hi x n (nI i) = some (1 : Int32) := by
  unfold fL_isReached
  have hc := v_call (kx := kx) h hi1
  by_cases hb : busy cs i = true
  · obtain ⟨c, hn⟩ := num_of_busy hb
    rw [hn, eN_some] at hc
    have e : (if fX5_callOfInlet kx n (nI i) = (-6 : Int32) then (0 : Int32) else (1 : Int32)) = (1 : Int32) := by
      rw [hc, if_neg (nI_ne_of_neg (h.W.num31 hn) (by decide))]
    rw [e, jn_eq]
    exact reachB h hi1 hb
  · have hb : busy cs i = false := by simpa using hb
    rw [busy_num.mpr hb, eN_none] at hc
    have e : (if fX5_callOfInlet kx n (nI i) = (-6 : Int32) then (0 : Int32) else (1 : Int32)) = (0 : Int32) := by
      rw [hc, if_pos rfl]
    rw [e, jn_eq]
    exact reachF h hi1 hb
end RE
