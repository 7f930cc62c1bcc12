/-! what a call would do, and what it does: the router's rows play no part -/
def cg (B : Nat → Int32) : OS := (fun _ => (0 : Int32), fun _ j => B j)
theorem blk_cg (B : Nat → Int32) : blk (cg B) 0 = B := by
  funext j
  show B (0 + j) = B j
  rw [Nat.zero_add]
section TR
variable {K bo li mi sv cn : Nat} {cs : CS} {n : OS} {B : Nat → Int32}
theorem v_frF (h : VW K bo li mi sv cn cs n B) {b : Nat} (hb : b < 8) : fX1_freeOnLinks4 n (nI b) = some (nI (frF li mi sv cs b)) := c_frF h.R h.W hb
theorem v_frL (h : VW K bo li mi sv cn cs n B) {b : Nat} (hb : b < 8) : fX1_freeOnLinks5 n (nI b) = some (nI (frL li mi sv cs b)) := c_frL h.R h.W hb
/-- the way of a free inlet to a free outlet, where one of its boards is not full -/
theorem way_ex (h : VW K bo li mi sv cn cs n B) (hK : K + 1 < 2 ^ 30) {i o : Nat} (hi : i < bo * li) (ho : o < bo * li) (hb : busy cs i = false) (hio : inlOf cs o = none) (hF0 : frF li mi sv cs (i / li) ≠ 0) (hL0 : frL li mi sv cs (o / li) ≠ 0) :
    ∃ m c B', m < 8 ∧ c ≤ 16 ∧ (c = 0 ↔ frF li mi sv cs (i / li) &&& frL li mi sv cs (o / li) ≠ 0) ∧
      ∀ r, ∃ r' n' cs', fX3_findWay r n (nI i) (nI o) = some (nI m, r') ∧ fX3_settle r' (fX1_addCall n (nI i) (nI o)) (nI i) (nI m) = some n' ∧ VW (K + 1) bo li mi sv (cn + 1) cs' n' B' ∧ (∀ j, num cs' j = if j = i then some cn else num cs j) ∧ (∀ j, outl cs' j = if j = i then some o else outl cs j) ∧ via cs' i = some m ∧ n'.1 9 = n.1 9 + nI c ∧ r'.1 1 = nI c ∧ ∀ k, k < c → ∃ u y, u < 48 ∧ r'.2 0 k = nI u ∧ num cs u = some y := by
  obtain ⟨W, hR, hM, e4, e5, ep, e7, e8, e9⟩ := h.2.1
  have hcn := h.1
  have hall := h.2.2.1
  have h4 := h.2.2.2
  have h48 := W.n48
  have hcn1 : cn + 1 < 2 ^ 30 := by have := hcn.1; omega
  have W' := W.add hi ho hb hio hcn1
  obtain ⟨hv, hF, hL⟩ := add_lk W hi ho hb hio hcn1
  obtain ⟨hR', hf'⟩ := c_add hR W hi ho hb hio hcn1
  have hM' := hM.add (o := o) (i := i) (by omega)
  have hox : outl (addC cs i cn o) i = some o := by rw [outl_addC, if_pos rfl]
  have hvx : via (addC cs i cn o) i = none := by rw [via_addC, if_pos rfl]
  obtain ⟨B4, hB4⟩ : ∃ B4, B4 = upd (upd (upd (upd B (10 + 3 * i) (nI cn)) (10 + 3 * i + 1) (nI o)) (10 + 3 * i + 2) (-1 : Int32)) 5 (nI (cn + 1)) := ⟨_, rfl⟩
  rw [← hB4] at hM'
  have sm4 : SMB B B4 := by
    rw [hB4]
    exact ((SMB.put (by omega)).trans ((SMB.put (by omega)).trans (SMB.put (by omega)))).trans (SMB.put (by omega))
  have h84 : B4 8 = B 8 := by rw [hB4, upd_n (by omega), upd_n (by omega), upd_n (by omega), upd_n (by omega)]
  have hM4 : RM bo li mi sv (cn + 1) (addC cs i cn o) (blk (cg B4) 0) := by rw [blk_cg]; exact hM'
  have key := fun (r : OS) => route (r := r) (o := o) hR W hR' W' hM4 (by decide : (0 : Nat) ≤ 924) hv hF hL (fun j hj => by
    rw [outl_addC, if_neg]
    intro e
    rw [e, via_nobusy hb] at hj; exact hj rfl) hi hvx hox (by rw [blk_cg]; exact e4.trans sm4.1.symm) (by rw [blk_cg]; exact e5.trans sm4.2.1.symm) (by rw [blk_cg, sm4.2.1]; exact ep)
  -- the model's way is one
  obtain ⟨a, r0, g', -, w2, -, -, w5, hor⟩ := key n
  rcases hor with ⟨-, hblk, -⟩ | ⟨m, c, cs0, n0, ha, hm8, -, -, -, -, -, -, -, -, -, -, -, t12, t13, tz, -⟩
  · exact absurd hblk (fun e => e.elim hF0 hL0)
  refine ⟨m, c, blk g' 0, hm8, t13, tz, fun r => ?_⟩
  obtain ⟨a', r', g2, z1, z2, -, -, z5, hor⟩ := key r
  rw [w2] at z2
  have hag := Option.some.inj z2
  have ea : a = a' := congrArg Prod.fst hag
  have eg : g' = g2 := congrArg Prod.snd hag
  subst ea
  subst eg
  rcases hor with ⟨-, hblk, -⟩ | ⟨m', c', cs', n', ha', hm8', s1, s2, s3, s4, s5, s6, s7, s8, s9, s10, s11, s12, s13, -, s14⟩
  · exact absurd hblk (fun e => e.elim hF0 hL0)
  have em : m = m' := (nI_eq (by omega) (by omega)).mp (ha.symm.trans ha')
  have ec : c = c' := (nI_eq (by omega) (by omega)).mp (t12.symm.trans s12)
  subst em
  subst ec
  rw [blk_cg] at w5 s10
  have sm := sm4.trans w5
  refine ⟨r', n', cs', by rw [z1, ha], s1, ⟨⟨by have := hcn.1; omega, ext_add hcn.2 W hi (by omega) hb s5 hR.f6 s2.f6 (by rw [s9, upd_n (by decide), hf' 7 (by decide)]) (by rw [s9, upd_n (by decide), hf' 8 (by decide)])⟩, ⟨s3, s2, s4, ?_, ?_, ?_, ?_, ?_, ?_⟩, fun j hj => ?_, by rw [s9, upd_n (by decide), hf' 4 (by decide)]; exact h4⟩, fun j => by rw [s5, num_addC], fun j => by rw [s6, outl_addC], s7, ?_, s11, fun k hk => ?_⟩
  · rw [s9, upd_n (by decide), hf' 4 (by decide), e4, sm.1]
  · rw [s9, upd_n (by decide), hf' 5 (by decide), e5, sm.2.1]
  · rw [sm.2.1]; exact ep
  · rw [s9, upd_n (by decide), hf' 7 (by decide), e7, sm.2.2.1]
  · rw [s9, upd_n (by decide), hf' 8 (by decide), e8, sm.2.2.2]
  · rw [s9, upd_s, hf' 9 (by decide), e9, s10, h84]
  · by_cases hji : j = i
    · rw [hji, s7]; simp
    · intro hn
      rw [s8 j hji, hv] at hn
      refine hall j ?_ hn
      rw [busy_iff_num, s5, num_addC, if_neg hji, ← busy_iff_num] at hj
      exact hj
  · rw [s9, upd_s, hf' 9 (by decide)]
  · obtain ⟨u, hu48, huv, hu1, hu2⟩ := s14 k hk
    have hbu : busy cs u = true := by
      cases hvu : via cs u with
      | none => exact absurd hvu huv
      | some v => exact busy_of_via hvu
    obtain ⟨y, hy⟩ := num_of_busy hbu
    exact ⟨u, y, hu48, hu1, hy⟩
/-- every call: refused, blocked, or carried -/
theorem try_ex (h : VW K bo li mi sv cn cs n B) (hK : K + 1 < 2 ^ 30) (x1 x2 : Int32) :
    ((∀ r, fX3_tryCall r n x1 x2 = some ((-1 : Int32), r)) ∧ ∀ kx, fX5_reason kx n x1 x2 = some (-1 : Int32)) ∨
    ∃ i o, i < bo * li ∧ o < bo * li ∧ x1 = nI i ∧ x2 = nI o ∧
      (((∀ r, fX3_tryCall r n x1 x2 = some ((-3 : Int32), r)) ∧ ∃ w : Int32, (w = (2 : Int32) ∨ w = (3 : Int32)) ∧ ∀ kx, fX5_reason kx n x1 x2 = some w) ∨
       (busy cs i = false ∧ inlOf cs o = none ∧
        (((∀ r, fX3_tryCall r n x1 x2 = some ((-4 : Int32), setF r 1 (0 : Int32))) ∧ ((frF li mi sv cs (i / li) = 0 ∧ ∀ kx, fX5_reason kx n x1 x2 = some (4 : Int32)) ∨ (frF li mi sv cs (i / li) ≠ 0 ∧ frL li mi sv cs (o / li) = 0 ∧ ∀ kx, fX5_reason kx n x1 x2 = some (5 : Int32)))) ∨
         (frF li mi sv cs (i / li) ≠ 0 ∧ frL li mi sv cs (o / li) ≠ 0 ∧ (∀ kx, fX5_reason kx n x1 x2 = some (if frF li mi sv cs (i / li) &&& frL li mi sv cs (o / li) = 0 then (1 : Int32) else (0 : Int32))) ∧
          ∃ m c B', m < 8 ∧ c ≤ 16 ∧ (c = 0 ↔ frF li mi sv cs (i / li) &&& frL li mi sv cs (o / li) ≠ 0) ∧
            ∀ r, ∃ r' n' cs', fX3_tryCall r n x1 x2 = some (nI m, r') ∧ fX3_settle r' (fX1_addCall n x1 x2) x1 (nI m) = some n' ∧ VW (K + 1) bo li mi sv (cn + 1) cs' n' B' ∧ (∀ j, num cs' j = if j = i then some cn else num cs j) ∧ (∀ j, outl cs' j = if j = i then some o else outl cs j) ∧ via cs' i = some m ∧ n'.1 9 = n.1 9 + nI c ∧ r'.1 1 = nI c ∧ ∀ k, k < c → ∃ u y, u < 48 ∧ r'.2 0 k = nI u ∧ num cs u = some y)))) := by
  have W := h.W
  have hR := h.R
  have h48 := W.n48
  have h8 := W.bo8
  have f1 : ∀ b, frF li mi sv cs b < 256 := fun b => frF256 W
  have f2 : ∀ b, frL li mi sv cs b < 256 := fun b => frL256 W
  rcases rng (bo * li) (by omega) x1 with hx1 | ⟨hx1, i, hi, rfl⟩
  · left
    refine ⟨fun r => ?_, fun kx => ?_⟩
    · unfold fX3_tryCall
      rw [c_isLine hR, hx1, if_pos rfl]
    · unfold fX5_reason
      rw [c_isLine hR, hx1, if_pos rfl]
  rcases rng (bo * li) (by omega) x2 with hx2 | ⟨hx2, o, ho, rfl⟩
  · left
    refine ⟨fun r => ?_, fun kx => ?_⟩
    · unfold fX3_tryCall
      rw [c_isLine hR, c_isLine hR, hx1, hx2, if_neg ne10, if_pos rfl]
    · unfold fX5_reason
      rw [c_isLine hR, c_isLine hR, hx1, hx2, if_neg ne10, if_pos rfl]
  right
  refine ⟨i, o, hi, ho, rfl, rfl, ?_⟩
  have d1 := div_lt hi
  have d2 := div_lt ho
  by_cases hb : busy cs i = true
  · left
    refine ⟨fun r => ?_, (2 : Int32), Or.inl rfl, fun kx => ?_⟩
    · unfold fX3_tryCall
      rw [c_isLine hR, c_isLine hR, hx1, hx2, if_neg ne10, if_neg ne10, c_busy hR W (by omega), if_pos hb, if_neg ne10]
    · unfold fX5_reason
      rw [c_isLine hR, c_isLine hR, hx1, hx2, if_neg ne10, if_neg ne10, c_busy hR W (by omega), if_pos hb, if_neg ne10]
  have hb : busy cs i = false := by simpa using hb
  cases hio : inlOf cs o with
  | some u =>
    left
    refine ⟨fun r => ?_, (3 : Int32), Or.inr rfl, fun kx => ?_⟩
    · unfold fX3_tryCall
      rw [c_isLine hR, c_isLine hR, hx1, hx2, if_neg ne10, if_neg ne10, c_busy hR W (by omega), hb, if_neg (by decide : ¬ false = true), if_pos rfl, c_obusy hR (by omega), hio, if_pos (by rfl : (some u).isSome = true), if_neg ne10]
    · unfold fX5_reason
      rw [c_isLine hR, c_isLine hR, hx1, hx2, if_neg ne10, if_neg ne10, c_busy hR W (by omega), hb, if_neg (by decide : ¬ false = true), if_pos rfl, c_obusy hR (by omega), hio, if_pos (by rfl : (some u).isSome = true), if_neg ne10]
  | none =>
    right
    refine ⟨hb, rfl, ?_⟩
    have tr : ∀ r, fX3_tryCall r n (nI i) (nI o) = Option.bind (fX3_findWay r n (nI i) (nI o)) (fun v5 => some (v5.1, v5.2)) := fun r => by
      unfold fX3_tryCall
      rw [c_isLine hR, c_isLine hR, hx1, hx2, if_neg ne10, if_neg ne10, c_busy hR W (by omega), hb, if_neg (by decide : ¬ false = true), if_pos rfl, c_obusy hR (by omega), hio, if_neg (by decide : ¬ (none : Option Nat).isSome = true), if_pos rfl]
    have rs : ∀ kx, fX5_reason kx n (nI i) (nI o) = (if nI (frF li mi sv cs (i / li)) = (0 : Int32) then some (4 : Int32) else if nI (frL li mi sv cs (o / li)) = (0 : Int32) then some (5 : Int32) else if nI (frF li mi sv cs (i / li)) &&& nI (frL li mi sv cs (o / li)) = (0 : Int32) then some (1 : Int32) else some (0 : Int32)) := fun kx => by
      unfold fX5_reason
      rw [c_isLine hR, c_isLine hR, hx1, hx2, if_neg ne10, if_neg ne10, c_busy hR W (by omega), hb, if_neg (by decide : ¬ false = true), if_pos rfl, c_obusy hR (by omega), hio, if_neg (by decide : ¬ (none : Option Nat).isSome = true), if_pos rfl, c_board hR W (by omega), c_board hR W (by omega), v_frF h (by omega), Option.bind_some, v_frL h (by omega), Option.bind_some]
    have z1 : (nI (frF li mi sv cs (i / li)) = (0 : Int32)) ↔ frF li mi sv cs (i / li) = 0 := nI0 (by have := f1 (i / li); omega)
    have z2 : (nI (frL li mi sv cs (o / li)) = (0 : Int32)) ↔ frL li mi sv cs (o / li) = 0 := nI0 (by have := f2 (o / li); omega)
    have z3 : (nI (frF li mi sv cs (i / li)) &&& nI (frL li mi sv cs (o / li)) = (0 : Int32)) ↔ frF li mi sv cs (i / li) &&& frL li mi sv cs (o / li) = 0 := nI_and0 (f1 _)
    by_cases hF0 : frF li mi sv cs (i / li) = 0
    · left
      refine ⟨fun r => ?_, Or.inl ⟨hF0, fun kx => ?_⟩⟩
      · rw [tr, c_way_b hR W hi ho (Or.inl hF0), Option.bind_some]
      · rw [rs, if_pos (z1.mpr hF0)]
    by_cases hL0 : frL li mi sv cs (o / li) = 0
    · left
      refine ⟨fun r => ?_, Or.inr ⟨hF0, hL0, fun kx => ?_⟩⟩
      · rw [tr, c_way_b hR W hi ho (Or.inr hL0), Option.bind_some]
      · rw [rs, if_neg (fun e => hF0 (z1.mp e)), if_pos (z2.mpr hL0)]
    right
    refine ⟨hF0, hL0, fun kx => ?_, ?_⟩
    · rw [rs, if_neg (fun e => hF0 (z1.mp e)), if_neg (fun e => hL0 (z2.mp e))]
      by_cases h0 : frF li mi sv cs (i / li) &&& frL li mi sv cs (o / li) = 0
      · rw [if_pos (z3.mpr h0), if_pos h0]
      · rw [if_neg (fun e => h0 (z3.mp e)), if_neg h0]
    · obtain ⟨m, c, B', w1, w2, w3, w4⟩ := way_ex h hK hi ho hb hio hF0 hL0
      refine ⟨m, c, B', w1, w2, w3, fun r => ?_⟩
      obtain ⟨r', n', cs', q1, q2⟩ := w4 r
      exact ⟨r', n', cs', by rw [tr, q1, Option.bind_some], q2⟩
end TR
