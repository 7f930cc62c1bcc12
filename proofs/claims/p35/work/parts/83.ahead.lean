/-! what connecting would do, beside connecting -/
theorem lc0 (x : Int64) : lg_cmp x x = (0 : Int32) := (lg_cmp_eq x x).mpr rfl
section AH
variable {K bo li mi sv cn : Nat} {cs : CS} {n : OS} {B : Nat → Int32} {kx x : OS}
theorem would_neg {x1 x2 a : Int32} {r r1 : OS} (ha : a < 0) (e : fX3_tryCall r n x1 x2 = some (a, r1)) : fX5_wouldMove kx r n x1 x2 = some (a, r1) := by
  unfold fX5_wouldMove
  rw [e, Option.bind_some, if_neg (show ¬ (0 : Int32) ≤ a from fun q => nlt_of_le q ha)]
theorem conn_neg {hi : HS} {o : OS} {x1 x2 a : Int32} {r r1 : OS} (ha : a < 0) (e : fX3_tryCall r n x1 x2 = some (a, r1)) : fX5_connect kx hi o r n x1 x2 = some (a, hi, n, r1, n) := by
  unfold fX5_connect fX3_join
  rw [e, Option.bind_some, if_neg (show ¬ (0 : Int32) ≤ a from fun q => nlt_of_le q ha), Option.bind_some, recd_n ha, Option.bind_some]
theorem chain_neg {x1 x2 x3 a : Int32} {r r1 : OS} (ha : a < 0) (e : fX3_tryCall r n x1 x2 = some (a, r1)) : fX5_chainCall kx r n x1 x2 x3 = some (a, r1) := by
  unfold fX5_chainCall
  rw [e, Option.bind_some, if_neg (show ¬ (0 : Int32) ≤ a from fun q => nlt_of_le q ha)]
/-- a call that is not carried -/
theorem ahead_neg (v : VW K bo li mi sv cn cs n B) {x1 x2 a w : Int32} (hi : HS) (o r : OS) (ha : a < 0) (htr : ∀ r, ∃ r', fX3_tryCall r n x1 x2 = some (a, r')) (hw : fX5_reason kx n x1 x2 = some w)
    (q51 : (if a = (-1 : Int32) then (if w = a then (1 : Int32) else (0 : Int32)) else if a = (-3 : Int32) then (if w = (2 : Int32) then (1 : Int32) else if w = (3 : Int32) then (1 : Int32) else (0 : Int32)) else if w = (4 : Int32) then (1 : Int32) else if w = (5 : Int32) then (1 : Int32) else (0 : Int32)) = (1 : Int32))
    (q58 : (if a = (-4 : Int32) then Option.bind (α := Int32) (fL_bits (fX5_inService kx n)) (fun v53 => Option.bind (α := Int32) (fX5_total kx hi x n (2 : Int32)) (fun v54 => if v53 < v54 then some (1 : Int32) else Option.bind (α := Int32) (fX5_total kx hi x n (2 : Int32)) (fun v56 => if nI li ≤ v56 then some (0 : Int32) else some (1 : Int32)))) else some (1 : Int32)) = some (1 : Int32))
    (q67 : (if a = (-4 : Int32) then Option.bind (α := Int32) (if w = (4 : Int32) then (if ¬ nI li = (0 : Int32) then Option.bind (α := Int32) (fX5_freeForFirst kx n (x1 / nI li)) (fun v64 => some v64) else none) else (if ¬ nI li = (0 : Int32) then Option.bind (α := Int32) (fX5_freeForLast kx n (x2 / nI li)) (fun v62 => some v62) else none)) (fun v65 => if v65 = (0 : Int32) then some (1 : Int32) else some (0 : Int32)) else some (1 : Int32)) = some (1 : Int32)) :
    ∃ r', fL_isAhead kx hi x o r n x1 x2 = some ((1 : Int32), hi, n, r', n) := by
  obtain ⟨r1, e1⟩ := htr r
  obtain ⟨r2, e2⟩ := htr r1
  obtain ⟨r3, e3⟩ := htr r2
  refine ⟨r3, ?_⟩
  unfold fL_isAhead
  rw [v_told v, Option.bind_some, v_ends v, Option.bind_some, v_t1 v, Option.bind_some, would_neg ha e1, Option.bind_some, hw, Option.bind_some, v_t9 v, Option.bind_some, conn_neg ha e2, Option.bind_some, if_neg (show ¬ (0 : Int32) ≤ a from fun q => nlt_of_le q ha), jn_eq, q51, q58, Option.bind_some, q67, Option.bind_some, if_pos (rfl : a = a), if_neg ne10, if_neg ne10, if_neg ne10, v_told v, Option.bind_some, if_pos (lc0 _), chain_neg ha e3, Option.bind_some, if_pos (rfl : a = a)]
/-- what is told of the chain -/
theorem ahead_chain (v : VW K bo li mi sv cn cs n B) {x1 x2 : Int32} {m c : Nat} (hm : m < 8) (hc : c ≤ 16) (htr : ∀ r, ∃ r', fX3_tryCall r n x1 x2 = some (nI m, r') ∧ r'.1 1 = nI c ∧ ∀ k, k < c → ∃ u y, u < 48 ∧ r'.2 0 k = nI u ∧ num cs u = some y) (hi : HS) (o : OS) :
    ∀ (d k fu : Nat) (r : OS), c + 2 - k = d → k ≤ c + 2 → d < fu → ∃ r', fL_isAhead_401 kx hi x o n x1 x2 (nI c) fu (1 : Int32) (nI k) r = some ((1 : Int32), hi, o, r', n) := by
  intro d
  induction d with
  | zero =>
    intro k fu r hd hk hfu
    obtain ⟨fu, rfl⟩ : ∃ f, fu = f + 1 := ⟨fu - 1, by omega⟩
    refine ⟨r, ?_⟩
    have e : nI c + (2 : Int32) = nI (c + 2) := nI_add c 2
    rw [fL_isAhead_401_s, e, if_pos (nI_le (by omega) (by omega)), if_pos (Or.inr rfl)]
  | succ d ih =>
    intro k fu r hd hk hfu
    obtain ⟨fu, rfl⟩ : ∃ f, fu = f + 1 := ⟨fu - 1, by omega⟩
    have e : nI c + (2 : Int32) = nI (c + 2) := nI_add c 2
    obtain ⟨r1, e1, e2, e3⟩ := htr r
    obtain ⟨r', hr'⟩ := ih (k + 1) fu r1 (by omega) (by omega) (by omega)
    refine ⟨r', ?_⟩
    rw [fL_isAhead_401_s, e, if_neg (nI_ge (by omega) (by omega)), if_neg ne10]
    by_cases hck : c ≤ k
    · have ec : fX5_chainCall kx r n x1 x2 (nI k) = some ((-6 : Int32), r1) := by
        unfold fX5_chainCall
        rw [e1, Option.bind_some, if_pos (show (0 : Int32) ≤ nI m from nI_pos' (by omega)), if_pos (nI_pos' (by omega)), if_pos (show r1.1 1 ≤ nI k by rw [e2]; exact nI_le hck (by omega))]
      rw [ec, Option.bind_some, if_pos (nI_le hck (by omega)), if_pos (rfl : (-6 : Int32) = (-6 : Int32)), nI_succ1]
      exact hr'
    · obtain ⟨u, y, hu, hu1, hu2⟩ := e3 k (by omega)
      have ec : fX5_chainCall kx r n x1 x2 (nI k) = some (nI y, r1) := by
        unfold fX5_chainCall
        rw [e1, Option.bind_some, if_pos (show (0 : Int32) ≤ nI m from nI_pos' (by omega)), if_pos (nI_pos' (by omega)), if_neg (show ¬ r1.1 1 ≤ nI k by rw [e2]; exact nI_ge (by omega) (by omega)), rget_in (L := 16) (k := k) (by omega) (by decide), hu1, v.R.r0 hu, hu2, eN_some]
      rw [ec, Option.bind_some, if_neg (nI_ge (by omega) (by omega)), v_inletOf v hu2, Option.bind_some, if_neg (nI_pos (by omega)), nI_succ1]
      exact hr'
end AH
