/-! a network as one looks at it: what each question answers, in the words of the abstract network -/
def VW (K bo li mi sv cn : Nat) (cs : CS) (n : OS) (B : Nat → Int32) : Prop := (cn ≤ K ∧ EXT cs n) ∧ NB bo li mi sv cn cs n B ∧ (∀ i, busy cs i = true → via cs i ≠ none) ∧ (0 : Int32) ≤ n.1 4
theorem SIM.vw {K : Nat} {n : OS} {B : Nat → Int32} (h : SIM K n B) : ∃ bo li mi sv cn cs, VW K bo li mi sv cn cs n B := by
  obtain ⟨⟨bo, li, mi, sv, cn, cs, h1, h2, h3⟩, h4⟩ := h
  exact ⟨bo, li, mi, sv, cn, cs, h1, h2, h3, h4⟩
theorem cs_eq {cs cs' : CS} {i : Nat} (h1 : num cs i = num cs' i) (h2 : outl cs i = outl cs' i) (h3 : via cs i = via cs' i) : cs i = cs' i := by
  unfold num at h1
  unfold outl at h2
  unfold via at h3
  cases ha : cs i with
  | none =>
    cases hb : cs' i with
    | none => rfl
    | some c => rw [ha, hb] at h1; cases h1
  | some c =>
    cases hb : cs' i with
    | none => rw [ha, hb] at h1; cases h1
    | some d =>
      rw [ha, hb] at h1 h2 h3
      obtain ⟨a, b, v⟩ := c
      obtain ⟨a', b', v'⟩ := d
      have h1 : a = a' := Option.some.inj h1
      have h2 : b = b' := Option.some.inj h2
      have h3 : v = v' := h3
      rw [h1, h2, h3]
/-- a block holds one network's calls -/
theorem RM_uniq {bo li mi sv cn bo' li' mi' sv' cn' : Nat} {cs cs' : CS} {B : Nat → Int32} (W : WF bo li mi sv cn cs) (W' : WF bo' li' mi' sv' cn' cs') (hM : RM bo li mi sv cn cs B) (hM' : RM bo' li' mi' sv' cn' cs' B) : bo = bo' ∧ li = li' ∧ mi = mi' ∧ sv = sv' ∧ cn = cn' ∧ cs = cs' := by
  have a1 := W.bo8
  have a2 := W.li6
  have a3 := W.mi8
  have a4 := W.sv256
  have a5 := W.cn30
  have b1 := W'.bo8
  have b2 := W'.li6
  have b3 := W'.mi8
  have b4 := W'.sv256
  have b5 := W'.cn30
  refine ⟨(nI_eq (by omega) (by omega)).mp (hM.b0.symm.trans hM'.b0), (nI_eq (by omega) (by omega)).mp (hM.b1.symm.trans hM'.b1), (nI_eq (by omega) (by omega)).mp (hM.b2.symm.trans hM'.b2), (nI_eq (by omega) (by omega)).mp (hM.b9.symm.trans hM'.b9), (nI_eq (by omega) (by omega)).mp (hM.b5.symm.trans hM'.b5), ?_⟩
  funext i
  by_cases hi : i < 48
  · have hn : num cs i = num cs' i := (eN_inj m1 (fun k hk => W.num31 hk) (fun k hk => W'.num31 hk)).mp ((hM.nm hi).symm.trans (hM'.nm hi))
    by_cases hb : busy cs i = true
    · have hb' : busy cs' i = true := by rw [busy_iff_num, ← hn, ← busy_iff_num]; exact hb
      obtain ⟨o, ho⟩ := out_of_busy hb
      obtain ⟨o', ho'⟩ := out_of_busy hb'
      have c1 := W.out48 ho
      have c2 := W'.out48 ho'
      have e := (nI_eq (by omega) (by omega)).mp ((hM.ou hi ho).symm.trans (hM'.ou hi ho'))
      subst e
      have hv : via cs i = via cs' i := (eN_inj m1 (fun k hk => by have := W.via8 hk; omega) (fun k hk => by have := W'.via8 hk; omega)).mp ((hM.vi hi hb).symm.trans (hM'.vi hi hb'))
      exact cs_eq hn (ho.trans ho'.symm) hv
    · have hb : busy cs i = false := by simpa using hb
      have hb' : busy cs' i = false := by rw [busy_iff_num, ← hn, ← busy_iff_num]; exact hb
      exact cs_eq hn (by rw [busy_out.mpr hb, busy_out.mpr hb']) (by rw [via_nobusy hb, via_nobusy hb'])
  · have hb : busy cs i = false := by
      cases hq : busy cs i with
      | false => rfl
      | true => exact absurd (W.lt48 hq) hi
    have hb' : busy cs' i = false := by
      cases hq : busy cs' i with
      | false => rfl
      | true => exact absurd (W'.lt48 hq) hi
    exact cs_eq (by rw [busy_num.mpr hb, busy_num.mpr hb']) (by rw [busy_out.mpr hb, busy_out.mpr hb']) (by rw [via_nobusy hb, via_nobusy hb'])
section VI
variable {K bo li mi sv cn : Nat} {cs : CS} {n : OS} {B : Nat → Int32} {kx x : OS} {hi : HS}
theorem VW.sim (h : VW K bo li mi sv cn cs n B) : SIM K n B := ⟨⟨bo, li, mi, sv, cn, cs, h.1, h.2.1, h.2.2.1⟩, h.2.2.2⟩
theorem VW.W (h : VW K bo li mi sv cn cs n B) : WF bo li mi sv cn cs := h.2.1.1
theorem VW.R (h : VW K bo li mi sv cn cs n B) : RC bo li mi sv cn cs n := h.2.1.2.1
theorem VW.M (h : VW K bo li mi sv cn cs n B) : RM bo li mi sv cn cs B := h.2.1.2.2.1
theorem VW.E (h : VW K bo li mi sv cn cs n B) : EXT cs n := h.1.2
theorem VW.all (h : VW K bo li mi sv cn cs n B) {i : Nat} (hb : busy cs i = true) : ∃ m, via cs i = some m := by
  cases hv : via cs i with
  | none => exact absurd hv (h.2.2.1 i hb)
  | some m => exact ⟨m, rfl⟩
theorem VW.lin (h : VW K bo li mi sv cn cs n B) : bo * li < 2 ^ 31 := by have := h.W.n48; omega
theorem v_t0 (h : VW K bo li mi sv cn cs n B) : fX5_total kx hi x n (0 : Int32) = some (nI bo) := by
  unfold fX5_total
  rw [if_pos rfl, h.R.f0]
theorem v_t1 (h : VW K bo li mi sv cn cs n B) : fX5_total kx hi x n (1 : Int32) = some (nI li) := by
  unfold fX5_total
  rw [if_neg (by decide), if_pos rfl, h.R.f1]
theorem v_t2 (h : VW K bo li mi sv cn cs n B) : fX5_total kx hi x n (2 : Int32) = some (nI mi) := by
  unfold fX5_total
  rw [if_neg (by decide), if_neg (by decide), if_pos rfl, h.R.f2]
theorem v_t3 (h : VW K bo li mi sv cn cs n B) : fX5_total kx hi x n (3 : Int32) = some (n.1 4) := by
  unfold fX5_total
  rw [if_neg (by decide), if_neg (by decide), if_neg (by decide), if_pos rfl]
theorem v_t4 (h : VW K bo li mi sv cn cs n B) : fX5_total kx hi x n (4 : Int32) = some (n.1 5) := by
  unfold fX5_total
  rw [if_neg (by decide), if_neg (by decide), if_neg (by decide), if_neg (by decide), if_pos rfl]
theorem v_t5 (h : VW K bo li mi sv cn cs n B) : fX5_total kx hi x n (5 : Int32) = some (nI (cnt (busy cs) 48)) := by
  unfold fX5_total
  rw [if_neg (by decide), if_neg (by decide), if_neg (by decide), if_neg (by decide), if_neg (by decide), if_pos rfl, c_count h.R h.W, Option.bind_some]
theorem v_t6 (h : VW K bo li mi sv cn cs n B) : fX5_total kx hi x n (6 : Int32) = some (nI cn) := by
  unfold fX5_total
  rw [if_neg (by decide), if_neg (by decide), if_neg (by decide), if_neg (by decide), if_neg (by decide), if_neg (by decide), if_pos rfl, h.R.f6]
theorem v_t7 (h : VW K bo li mi sv cn cs n B) : fX5_total kx hi x n (7 : Int32) = some (n.1 7) := by
  unfold fX5_total
  rw [if_neg (by decide), if_neg (by decide), if_neg (by decide), if_neg (by decide), if_neg (by decide), if_neg (by decide), if_neg (by decide), if_pos rfl]
theorem v_t8 (h : VW K bo li mi sv cn cs n B) : fX5_total kx hi x n (8 : Int32) = some (n.1 8) := by
  unfold fX5_total
  rw [if_neg (by decide), if_neg (by decide), if_neg (by decide), if_neg (by decide), if_neg (by decide), if_neg (by decide), if_neg (by decide), if_neg (by decide), if_pos rfl]
theorem v_t9 (h : VW K bo li mi sv cn cs n B) : fX5_total kx hi x n (9 : Int32) = some (n.1 9) := by
  unfold fX5_total
  rw [if_neg (by decide), if_neg (by decide), if_neg (by decide), if_neg (by decide), if_neg (by decide), if_neg (by decide), if_neg (by decide), if_neg (by decide), if_neg (by decide), if_pos rfl]
theorem v_t10 : fX5_total kx hi x n (10 : Int32) = some (hi.1 2) := by
  unfold fX5_total
  rw [if_neg (by decide), if_neg (by decide), if_neg (by decide), if_neg (by decide), if_neg (by decide), if_neg (by decide), if_neg (by decide), if_neg (by decide), if_neg (by decide), if_neg (by decide), if_pos rfl]
theorem v_serv (h : VW K bo li mi sv cn cs n B) : fX5_inService kx n = nI sv := h.R.f3
theorem v_call (h : VW K bo li mi sv cn cs n B) {i : Nat} (hil : i < bo * li) : fX5_callOfInlet kx n (nI i) = eN (num cs i) (-6) := by
  have h48 := h.W.n48
  unfold fX5_callOfInlet
  rw [c_isLine h.R, if_neg (nI_pos (by omega)), if_neg (nI_ge hil (by omega)), if_neg ne10, h.R.r0 (by omega)]
theorem v_callO (h : VW K bo li mi sv cn cs n B) {i o : Nat} (ho : outl cs i = some o) : fX5_callOfOutlet kx n (nI o) = eN (num cs i) (-6) := by
  have h48 := h.W.n48
  have hol := h.W.outlt ho
  unfold fX5_callOfOutlet
  rw [c_isLine h.R, if_neg (nI_pos (by omega)), if_neg (nI_ge hol (by omega)), if_neg ne10, h.R.r3 (by omega), h.W.inl.mpr ho, eN_some, h.R.r0 (h.W.lt48 (busy_of_out ho))]
theorem v_find (hE : INJ cs) {i c : Nat} (hi : i < 48) (hn : num cs i = some c) : findI (fun j => num cs j == some c) 48 = some i :=
  (findI_iff (fun a b _ _ ha hb => hE a b c (by simpa using ha) (by simpa using hb))).mpr ⟨hi, by simp [hn]⟩
theorem v_inletOf (h : VW K bo li mi sv cn cs n B) {i c : Nat} (hn : num cs i = some c) : fX5_inletOf kx n (nI c) = some (nI i) := by
  have h48 := h.W.lt48 (busy_of_num hn)
  unfold fX5_inletOf
  rw [c_findInlet h.R h.W (h.W.num31 hn), Option.bind_some, v_find h.E.1 h48 hn, eN_some]
theorem v_outletOf (h : VW K bo li mi sv cn cs n B) {i c o : Nat} (hn : num cs i = some c) (ho : outl cs i = some o) : fX5_outletOf kx n (nI c) = some (nI o) := by
  have h48 := h.W.lt48 (busy_of_num hn)
  unfold fX5_outletOf
  rw [c_findInlet h.R h.W (h.W.num31 hn), Option.bind_some, v_find h.E.1 h48 hn, eN_some, if_pos (nI_pos' (by omega)), h.R.r1 h48, ho, eN_some]
theorem v_middleOf (h : VW K bo li mi sv cn cs n B) {i c m : Nat} (hn : num cs i = some c) (hv : via cs i = some m) : fX5_middleOf kx n (nI c) = some (nI m) := by
  have h48 := h.W.lt48 (busy_of_num hn)
  unfold fX5_middleOf
  rw [c_findInlet h.R h.W (h.W.num31 hn), Option.bind_some, v_find h.E.1 h48 hn, eN_some, if_pos (nI_pos' (by omega)), h.R.r2 h48, hv, eN_some]
theorem v_findN : fX1_findInlet n (-6 : Int32) = some (-1 : Int32) := by
  unfold fX1_findInlet
  rw [if_neg (by decide)]
theorem v_outletN : fX5_outletOf kx n (-6 : Int32) = some (-1 : Int32) := by
  unfold fX5_outletOf
  rw [v_findN, Option.bind_some, if_neg (by decide)]
theorem v_middleN : fX5_middleOf kx n (-6 : Int32) = some (-1 : Int32) := by
  unfold fX5_middleOf
  rw [v_findN, Option.bind_some, if_neg (by decide)]
theorem v_outO (h : VW K bo li mi sv cn cs n B) (i : Nat) : fX5_outletOf kx n (eN (num cs i) (-6)) = some (eN (outl cs i) (-1)) := by
  cases hn : num cs i with
  | none => rw [busy_out.mpr (busy_num.mp hn), eN_none, eN_none]; exact v_outletN
  | some c =>
    obtain ⟨o, ho⟩ := out_of_busy (busy_of_num hn)
    rw [ho, eN_some, eN_some]
    exact v_outletOf h hn ho
theorem v_midO (h : VW K bo li mi sv cn cs n B) (i : Nat) : fX5_middleOf kx n (eN (num cs i) (-6)) = some (eN (via cs i) (-1)) := by
  cases hn : num cs i with
  | none => rw [via_nobusy (busy_num.mp hn), eN_none, eN_none]; exact v_middleN
  | some c =>
    obtain ⟨m, hm⟩ := h.all (busy_of_num hn)
    rw [hm, eN_some, eN_some]
    exact v_middleOf h hn hm
/-- the law's sums -/
def endsH (cs : CS) (but : Int32) : Nat → Int64
  | 0 => 5
  | i + 1 => if nI i = but then endsH cs but i else (31 : Int64) * ((31 : Int64) * endsH cs but i + (eN (num cs i) (-6)).toInt64) + (eN (outl cs i) (-1)).toInt64
theorem endsH_t {cs : CS} {but : Int32} {i : Nat} (h : nI i = but) : endsH cs but (i + 1) = endsH cs but i := if_pos h
theorem endsH_f {cs : CS} {but : Int32} {i : Nat} (h : ¬ nI i = but) : endsH cs but (i + 1) = (31 : Int64) * ((31 : Int64) * endsH cs but i + (eN (num cs i) (-6)).toInt64) + (eN (outl cs i) (-1)).toInt64 := if_neg h
theorem endsH_congr {cs cs' : CS} {but : Int32} : ∀ {k : Nat}, (∀ i, i < k → nI i ≠ but → num cs i = num cs' i ∧ outl cs i = outl cs' i) → endsH cs but k = endsH cs' but k
  | 0, _ => rfl
  | k + 1, h => by
    have ih := endsH_congr (k := k) (fun i hi => h i (by omega))
    by_cases hb : nI k = but
    · rw [endsH_t hb, endsH_t hb, ih]
    · obtain ⟨h1, h2⟩ := h k (by omega) hb
      rw [endsH_f hb, endsH_f hb, ih, h1, h2]
def midH (cs : CS) (h0 : Int64) : Nat → Int64
  | 0 => h0
  | i + 1 => (31 : Int64) * midH cs h0 i + (eN (via cs i) (-1)).toInt64
def totV (bo li mi cn ct : Nat) (f4 f5 f7 f8 f9 : Int32) : Nat → Int32
  | 0 => nI bo
  | 1 => nI li
  | 2 => nI mi
  | 3 => f4
  | 4 => f5
  | 5 => nI ct
  | 6 => nI cn
  | 7 => f7
  | 8 => f8
  | _ => f9
def totH (t : Nat → Int32) (h0 : Int64) : Nat → Int64
  | 0 => h0
  | i + 1 => (31 : Int64) * totH t h0 i + (t i).toInt64
theorem v_ends (h : VW K bo li mi sv cn cs n B) (but : Int32) : fL_ends kx hi x n but = some (endsH cs but (bo * li)) := by
  have h48 := h.W.n48
  unfold fL_ends
  have hq := iloop (fun k i (a : Int64) => fL_ends_7 kx hi x n but k a i) (bo * li) (fun i a => a = endsH cs but i) (endsH cs but (bo * li)) ?_ ?_ FU 0 (5 : Int64) (by omega) (FU_big (by omega)) rfl
  · exact hq
  · intro k i s hil hI
    subst hI
    refine Or.inl ⟨_, rfl, ?_⟩
    show fL_ends_7 kx hi x n but (k + 1) _ _ = fL_ends_7 kx hi x n but k _ _
    rw [fL_ends_7_s, v_t0 h, Option.bind_some, v_t1 h, Option.bind_some, pk_mul, if_neg (nI_ge hil (by omega)), v_call h hil, nI_succ1]
    by_cases hb : nI i = but
    · rw [if_pos hb, endsH_t hb]
    · rw [if_neg hb, v_outO h, Option.bind_some, endsH_f hb]
  · intro k s hI
    subst hI
    show fL_ends_7 kx hi x n but (k + 1) _ _ = _
    rw [fL_ends_7_s, v_t0 h, Option.bind_some, v_t1 h, Option.bind_some, pk_mul, if_pos (nI_le (Nat.le_refl _) (by omega))]
theorem v_tots (h : VW K bo li mi sv cn cs n B) {i : Nat} (hi10 : i < 10) : fX5_total kx hi x n (nI i) = some (totV bo li mi cn (cnt (busy cs) 48) (n.1 4) (n.1 5) (n.1 7) (n.1 8) (n.1 9) i) := by
  rcases (by omega : i = 0 ∨ i = 1 ∨ i = 2 ∨ i = 3 ∨ i = 4 ∨ i = 5 ∨ i = 6 ∨ i = 7 ∨ i = 8 ∨ i = 9) with rfl | rfl | rfl | rfl | rfl | rfl | rfl | rfl | rfl | rfl
  · exact v_t0 h
  · exact v_t1 h
  · exact v_t2 h
  · exact v_t3 h
  · exact v_t4 h
  · exact v_t5 h
  · exact v_t6 h
  · exact v_t7 h
  · exact v_t8 h
  · exact v_t9 h
def toldH (bo li mi sv cn : Nat) (cs : CS) (f4 f5 f7 f8 f9 : Int32) : Int64 := midH cs (totH (totV bo li mi cn (cnt (busy cs) 48) f4 f5 f7 f8 f9) ((31 : Int64) * endsH cs (-1 : Int32) (bo * li) + (nI sv).toInt64) 10) (bo * li)
theorem v_told (h : VW K bo li mi sv cn cs n B) : fL_told kx hi x n = some (toldH bo li mi sv cn cs (n.1 4) (n.1 5) (n.1 7) (n.1 8) (n.1 9)) := by
  have h48 := h.W.n48
  have mid : ∀ h0 : Int64, fL_told_45 kx hi x n FU h0 (0 : Int32) = some (midH cs h0 (bo * li)) := by
    intro h0
    have hq := iloop (fun k i (a : Int64) => fL_told_45 kx hi x n k a i) (bo * li) (fun i a => a = midH cs h0 i) (midH cs h0 (bo * li)) ?_ ?_ FU 0 h0 (by omega) (FU_big (by omega)) rfl
    · exact hq
    · intro k i s hil hI
      subst hI
      refine Or.inl ⟨_, rfl, ?_⟩
      show fL_told_45 kx hi x n (k + 1) _ _ = fL_told_45 kx hi x n k _ _
      rw [fL_told_45_s, v_t0 h, Option.bind_some, v_t1 h, Option.bind_some, pk_mul, if_neg (nI_ge hil (by omega)), v_call h hil, nI_succ1, v_midO h, Option.bind_some]
      rfl
    · intro k s hI
      subst hI
      show fL_told_45 kx hi x n (k + 1) _ _ = _
      rw [fL_told_45_s, v_t0 h, Option.bind_some, v_t1 h, Option.bind_some, pk_mul, if_pos (nI_le (Nat.le_refl _) (by omega))]
  unfold fL_told toldH
  rw [v_ends h, Option.bind_some, v_serv h]
  obtain ⟨t, ht⟩ : ∃ t, t = totV bo li mi cn (cnt (busy cs) 48) (n.1 4) (n.1 5) (n.1 7) (n.1 8) (n.1 9) := ⟨_, rfl⟩
  obtain ⟨h0, hh0⟩ : ∃ h0, h0 = (31 : Int64) * endsH cs (-1 : Int32) (bo * li) + (nI sv).toInt64 := ⟨_, rfl⟩
  rw [← ht, ← hh0]
  have hq := iloop (fun k i (a : Int64) => fL_told_18 kx hi x n k a i) 10 (fun i a => a = totH t h0 i) (midH cs (totH t h0 10) (bo * li)) ?_ ?_ FU 0 h0 (by omega) (FU_big (by omega)) rfl
  · exact hq
  · intro k i s hil hI
    subst hI
    refine Or.inl ⟨_, rfl, ?_⟩
    show fL_told_18 kx hi x n (k + 1) _ _ = fL_told_18 kx hi x n k _ _
    rw [fL_told_18_s, if_neg (show ¬ (10 : Int32) ≤ nI i from nI_ge (b := 10) hil (by decide)), v_tots h hil, Option.bind_some, nI_succ1, ht]
    rfl
  · intro k s hI
    subst hI
    show fL_told_18 kx hi x n (k + 1) _ _ = _
    rw [fL_told_18_s, if_pos (by decide)]
    exact mid _
end VI
/-- networks with one block look alike -/
theorem told_same {K K' : Nat} {n1 n2 : OS} {B : Nat → Int32} (h1 : SIM K n1 B) (h2 : SIM K' n2 B) : ∃ v, (∀ kx hi x, fL_told kx hi x n1 = some v) ∧ ∀ kx hi x, fL_told kx hi x n2 = some v := by
  obtain ⟨bo, li, mi, sv, cn, cs, v1⟩ := h1.vw
  obtain ⟨bo', li', mi', sv', cn', cs', v2⟩ := h2.vw
  obtain ⟨rfl, rfl, rfl, rfl, rfl, rfl⟩ := RM_uniq v1.W v2.W v1.M v2.M
  obtain ⟨-, -, -, a4, a5, -, a7, a8, a9⟩ := v1.2.1
  obtain ⟨-, -, -, b4, b5, -, b7, b8, b9⟩ := v2.2.1
  refine ⟨_, fun kx hi x => v_told v1, fun kx hi x => ?_⟩
  rw [v_told v2, a4, a5, a7, a8, a9, b4, b5, b7, b8, b9]
