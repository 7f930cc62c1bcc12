/-! the law's turns -/
def fTail (xs : Nat → Int32) (L : Nat) (x : OS) (tr : OS) (k : Nat) (x2 v10 v11 : Int32) (kx : OS) (hi : HS) (o sn r n : OS) : Option (Int32 × OS × HS × OS × OS × OS × OS) :=
  Option.bind (α := Int32) (fX5_total kx hi x n (0 : Int32)) (fun v41 =>
  Option.bind (α := Int32) (fX5_total kx hi x n (1 : Int32)) (fun v42 =>
  Option.bind (α := Int32 × HS × OS × OS × OS) (
   if (x2 - x2 / (3 : Int32) * (3 : Int32)) = (0 : Int32) then
    Option.bind (α := Int32) (fL_holds kx hi x n) (fun v50 =>
    some (v50, hi, o, r, n))
   else
    if (x2 - x2 / (3 : Int32) * (3 : Int32)) = (1 : Int32) then
     Option.bind (α := Int32) (fL_up (v10 >>> ((9 : Int32) &&& 31)) ((v41 * v42) + (1 : Int32))) (fun v47 =>
     Option.bind (α := Int32) (fL_up (v11 >>> ((9 : Int32) &&& 31)) ((v41 * v42) + (1 : Int32))) (fun v48 =>
     Option.bind (α := Int32 × HS × OS × OS × OS) (fL_isAhead kx hi x o r n v47 v48) (fun v49 =>
     some (v49.1, v49.2.1, v49.2.2.1, v49.2.2.2.1, v49.2.2.2.2))))
    else
     Option.bind (α := Int32) (fL_up (v10 >>> ((9 : Int32) &&& 31)) (v41 * v42)) (fun v45 =>
     Option.bind (α := Int32) (fL_isReached kx hi x n v45) (fun v46 =>
     some (v46, hi, o, r, n)))) (fun v51 =>
  if v51.1 = (0 : Int32) then
   some ((0 : Int32), kx, v51.2.1, v51.2.2.1, sn, v51.2.2.2.1, v51.2.2.2.2)
  else
   Option.bind (α := Int32 × OS × OS) (
    if (x2 - x2 / (11 : Int32) * (11 : Int32)) = (5 : Int32) then
     Option.bind (α := Int32 × OS × OS) (fX5_keep kx sn v51.2.2.2.2) (fun v55 =>
     some (v55.1, v55.2.1, v55.2.2))
    else
     Option.bind (α := Int32) (fX5_total kx v51.2.1 x v51.2.2.2.2 (5 : Int32)) (fun v54 =>
     some (v54, kx, sn))) (fun v56 =>
   Option.bind (α := Int32) (fX5_total v56.2.1 v51.2.1 x v51.2.2.2.2 (5 : Int32)) (fun v57 =>
   if v56.1 = v57 then
    fL_law_37 xs L x tr k (x2 + (1 : Int32)) v56.2.1 v51.2.1 v51.2.2.1 v56.2.2 v51.2.2.2.1 v51.2.2.2.2
   else
    some ((0 : Int32), v56.2.1, v51.2.1, v51.2.2.1, v56.2.2, v51.2.2.2.1, v51.2.2.2.2))))))
def INV (K : Nat) (kx : OS) (hi : HS) (sn n : OS) : Prop := (∃ B, SIM K n B) ∧ HOK K hi ∧ kx.1 7 = (1 : Int32) ∧ ∃ Bs, SIM K sn Bs
theorem INV.mono {K K' : Nat} {kx : OS} {hi : HS} {sn n : OS} (h : INV K kx hi sn n) (hK : K ≤ K') : INV K' kx hi sn n := by
  obtain ⟨⟨B, h1⟩, h2, h3, Bs, h4⟩ := h
  exact ⟨⟨B, h1.mono hK⟩, h2.mono hK, h3, Bs, h4.mono hK⟩
theorem cell_ex {xs : Nat → Int32} {L j : Nat} (hL : L < 2 ^ 31) (hj : j < 2 ^ 31) : ∃ v, fL_cell xs L (nI j) = some v := by
  unfold fL_cell
  by_cases h : L ≤ j
  · exact ⟨_, if_pos (nI_le h hj)⟩
  · rw [if_neg (show ¬ Int32.ofNat L ≤ nI j from nI_ge (by omega) hL), if_pos (inb_nI (show j < L by omega) hL)]
    exact ⟨_, rfl⟩
/-- what is checked behind an act -/
theorem tail_ok {xs : Nat → Int32} {L K k : Nat} {x tr kx : OS} {hi : HS} {o sn r n : OS} {x2 v10 v11 : Int32} (h : INV K kx hi sn n) (hK : K + 1 < 2 ^ 30)
    (ih : ∀ (kx : OS) (hi : HS) (o sn r n : OS), INV K kx hi sn n → ∃ z, fL_law_37 xs L x tr k (x2 + (1 : Int32)) kx hi o sn r n = some ((1 : Int32), z)) :
    ∃ z, fTail xs L x tr k x2 v10 v11 kx hi o sn r n = some ((1 : Int32), z) := by
  obtain ⟨⟨B, hS⟩, hH, hk7, Bs, hs⟩ := h
  obtain ⟨bo, li, mi, sv, cn, cs, v⟩ := hS.vw
  have h48 := v.W.n48
  have b2 := v.W.bo2
  have l1 := v.W.li1
  have pos : 0 < bo * li := Nat.mul_pos (by omega) (by omega)
  -- the check
  have chk : ∃ hi' o' r', (
    if (x2 - x2 / (3 : Int32) * (3 : Int32)) = (0 : Int32) then
     Option.bind (α := Int32) (fL_holds kx hi x n) (fun v50 =>
     some (v50, hi, o, r, n))
    else
     if (x2 - x2 / (3 : Int32) * (3 : Int32)) = (1 : Int32) then
      Option.bind (α := Int32) (fL_up (v10 >>> ((9 : Int32) &&& 31)) ((nI bo * nI li) + (1 : Int32))) (fun v47 =>
      Option.bind (α := Int32) (fL_up (v11 >>> ((9 : Int32) &&& 31)) ((nI bo * nI li) + (1 : Int32))) (fun v48 =>
      Option.bind (α := Int32 × HS × OS × OS × OS) (fL_isAhead kx hi x o r n v47 v48) (fun v49 =>
      some (v49.1, v49.2.1, v49.2.2.1, v49.2.2.2.1, v49.2.2.2.2))))
     else
      Option.bind (α := Int32) (fL_up (v10 >>> ((9 : Int32) &&& 31)) (nI bo * nI li)) (fun v45 =>
      Option.bind (α := Int32) (fL_isReached kx hi x n v45) (fun v46 =>
      some (v46, hi, o, r, n)))) = some ((1 : Int32), hi', o', r', n) ∧ HOK K hi' := by
    by_cases c0 : (x2 - x2 / (3 : Int32) * (3 : Int32)) = (0 : Int32)
    · refine ⟨hi, o, r, ?_, hH⟩
      rw [if_pos c0, v_holds v, Option.bind_some]
    by_cases c1 : (x2 - x2 / (3 : Int32) * (3 : Int32)) = (1 : Int32)
    · obtain ⟨u1, hu1, e1⟩ := up_ex (v10 >>> ((9 : Int32) &&& 31)) (m := bo * li + 1) (by omega) (by omega)
      obtain ⟨u2, hu2, e2⟩ := up_ex (v11 >>> ((9 : Int32) &&& 31)) (m := bo * li + 1) (by omega) (by omega)
      obtain ⟨hi', o', r', e3, e4⟩ := v_ahead (kx := kx) (x := x) hS hK hH (nI u1) (nI u2) o r
      refine ⟨hi', o', r', ?_, e4⟩
      rw [← nI_succ1] at e1 e2
      rw [if_neg c0, if_pos c1, pk_mul, e1, Option.bind_some, e2, Option.bind_some, e3, Option.bind_some]
    · obtain ⟨u1, hu1, e1⟩ := up_ex (v10 >>> ((9 : Int32) &&& 31)) (m := bo * li) pos (by omega)
      refine ⟨hi, o, r, ?_, hH⟩
      rw [if_neg c0, if_neg c1, pk_mul, e1, Option.bind_some, v_reached v hu1, Option.bind_some]
  obtain ⟨hi', o', r', e, hH'⟩ := chk
  unfold fTail
  rw [v_t0 v, Option.bind_some, v_t1 v, Option.bind_some, e, Option.bind_some, if_neg ne10]
  by_cases c5 : (x2 - x2 / (11 : Int32) * (11 : Int32)) = (5 : Int32)
  · have ek : fX5_keep kx sn n = some (nI (cnt (busy cs) 48), setF kx 7 (1 : Int32), n) := by
      unfold fX5_keep
      rw [c_count v.R v.W, Option.bind_some]
    rw [if_pos c5, ek, Option.bind_some, Option.bind_some, v_t5 v, Option.bind_some, if_pos (rfl : nI (cnt (busy cs) 48) = nI (cnt (busy cs) 48))]
    exact ih _ _ _ _ _ _ ⟨⟨B, hS⟩, hH', rfl, B, hS⟩
  · rw [if_neg c5, v_t5 v, Option.bind_some, Option.bind_some, v_t5 v, Option.bind_some, if_pos (rfl : nI (cnt (busy cs) 48) = nI (cnt (busy cs) 48))]
    exact ih _ _ _ _ _ _ ⟨⟨B, hS⟩, hH', hk7, Bs, hs⟩
theorem law_turns {xs : Nat → Int32} {L : Nat} (hL : L < 2 ^ 31) {x tr : OS} : ∀ (d t k : Nat), 40 - t = d → t ≤ 40 → d < k → ∀ (kx : OS) (hi : HS) (o sn r n : OS), INV t kx hi sn n → ∃ z, fL_law_37 xs L x tr k (nI t) kx hi o sn r n = some ((1 : Int32), z) := by
  intro d
  induction d with
  | zero =>
    intro t k hd ht hk kx hi o sn r n h
    obtain ⟨k, rfl⟩ : ∃ f, k = f + 1 := ⟨k - 1, by omega⟩
    obtain ⟨⟨B, hS⟩, hH, hk7, Bs, hs⟩ := h
    obtain ⟨bo, li, mi, sv, cn, cs, v⟩ := hS.vw
    rw [fL_law_37_s, if_pos (show (40 : Int32) ≤ nI t from nI_le (a := 40) (by omega) (by omega)), v_holds v, Option.bind_some, if_pos (Or.inr rfl)]
    exact ⟨_, rfl⟩
  | succ d ihd =>
    intro t k hd ht hk kx hi o sn r n h
    obtain ⟨k, rfl⟩ : ∃ f, k = f + 1 := ⟨k - 1, by omega⟩
    have ih : ∀ (kx : OS) (hi : HS) (o sn r n : OS), INV (t + 1) kx hi sn n → ∃ z, fL_law_37 xs L x tr k (nI t + (1 : Int32)) kx hi o sn r n = some ((1 : Int32), z) := by
      rw [nI_succ1]
      exact ihd (t + 1) k (by omega) (by omega) (by omega)
    obtain ⟨⟨B, hS⟩, hH, hk7, Bs, hs⟩ := h
    obtain ⟨X, hX⟩ := cell_ex (xs := xs) hL (j := 2 * t) (by omega)
    obtain ⟨Y, hY⟩ := cell_ex (xs := xs) hL (j := 2 * t + 1) (by omega)
    have e2t : (2 : Int32) * nI t = nI (2 * t) := pk_mul 2 t
    obtain ⟨T0, hT0, -⟩ := told_same hS hS
    obtain ⟨a, B', act⟩ := d_act (kx := kx) (x := x) hS (by omega) hk7 hs X Y
    obtain ⟨hi1, o1, r1, n1, ea, hor⟩ := act hi o r hH.lat
    have ea : fL_act kx hi x o sn r n X Y = some (a, hi1, o1, r1, n1) := ea
    rw [fL_law_37_s, if_neg (show ¬ (40 : Int32) ≤ nI t from nI_ge (b := 40) (by omega) (by decide)), e2t, nI_succ1 (2 * t), hX, Option.bind_some, hY, Option.bind_some, hT0, Option.bind_some, v_t10, Option.bind_some, ea, Option.bind_some]
    rcases hor with ⟨ha, rfl, rfl⟩ | ⟨ha, hp, hS1⟩
    · -- refused: nothing has changed
      rw [hT0, Option.bind_some, if_neg (show ¬ (0 : Int32) ≤ a from fun q => nlt_of_le q ha), if_pos (lc0 T0), v_t10, Option.bind_some, if_pos (rfl : hi1.1 2 = hi1.1 2), if_pos ha]
      exact tail_ok (K := t + 1) ⟨⟨B, hS.mono (by omega)⟩, hH.mono (by omega), hk7, Bs, hs.mono (by omega)⟩ (by omega) ih
    · have ha0 : (0 : Int32) ≤ a := by
        rw [Int32.le_iff_toInt_le]
        rw [Int32.lt_iff_toInt_lt] at ha
        omega
      obtain ⟨hi1', c, hc4, p0, p1, p2, p3, p4⟩ := push_ok hH hS
      have ehi : hi1 = hi1' := Option.some.inj (hp.symm.trans p1)
      subst ehi
      obtain ⟨T1, hT1, -⟩ := told_same hS1 hS1
      obtain ⟨c', hc'⟩ : ∃ c', c' = if c < 4 then c + 1 else 4 := ⟨_, rfl⟩
      have hcc : 0 < c' ∧ c' ≤ 4 := by
        by_cases hq : c < 4
        · rw [if_pos hq] at hc'; omega
        · rw [if_neg hq] at hc'; omega
      rw [← hc'] at p3
      have e19 : (if (4 : Int32) ≤ hi.1 2 then (4 : Int32) else (hi.1 2 + (1 : Int32))) = nI c' := by
        rw [p0, nI_succ1]
        by_cases hq : c < 4
        · rw [if_neg (show ¬ (4 : Int32) ≤ nI c from nI_ge (b := 4) hq (by decide)), hc', if_pos hq]
        · rw [if_pos (show (4 : Int32) ≤ nI c from nI_le (a := 4) (by omega) (by omega)), hc', if_neg hq]; rfl
      rw [hT1, Option.bind_some, if_pos ha0, v_t10, Option.bind_some, p3, jn_eq, e19, if_pos (rfl : nI c' = nI c'), if_neg ha]
      by_cases hb : ((X >>> ((8 : Int32) &&& 31)) &&& (1 : Int32)) = (0 : Int32)
      · obtain ⟨hi2, p5, p6⟩ := p4 n1
        rw [← hc'] at p5
        have eu : fX5_undo kx hi1 n1 = some (nI (c' - 1), hi2, n) := by
          unfold fX5_undo
          rw [p5, Option.bind_some]
        have ec : nI c' - (1 : Int32) = nI (c' - 1) := pk_sub (a := c') (b := 1) (by omega)
        obtain ⟨hi3, o3, r3, n3, eb, hor⟩ := act hi2 o1 r1 p6.lat
        have eb : fL_act kx hi2 x o1 sn r1 n X Y = some (a, hi3, o3, r3, n3) := eb
        rcases hor with ⟨hb2, -⟩ | ⟨-, hp3, hS3⟩
        · exact absurd hb2 ha
        obtain ⟨hi3', c3, -, -, s1, s2, -⟩ := push_ok p6 hS
        have ehi3 : hi3 = hi3' := Option.some.inj (hp3.symm.trans s1)
        subst ehi3
        obtain ⟨T3, t1, t3⟩ := told_same hS1 hS3
        have eT : T3 = T1 := Option.some.inj ((t1 kx hi x).symm.trans (hT1 kx hi x))
        subst eT
        rw [if_pos hb, Option.bind_some, eu, Option.bind_some, ec, if_pos (rfl : nI (c' - 1) = nI (c' - 1)), hT0, Option.bind_some, if_pos (lc0 T0), eb, Option.bind_some, if_pos (rfl : a = a), t3, Option.bind_some, if_pos (lc0 _)]
        exact tail_ok (K := t + 1) ⟨⟨B', hS3⟩, s2.mono (by omega), hk7, Bs, hs.mono (by omega)⟩ (by omega) ih
      · rw [if_neg hb]
        exact tail_ok (K := t + 1) ⟨⟨B', hS1⟩, p2.mono (by omega), hk7, Bs, hs.mono (by omega)⟩ (by omega) ih
/-- from the new object on -/
theorem law_fine {xs : Nat → Int32} {L : Nat} (hL : L < 2 ^ 31) : ∃ z, fL_law_8 xs L txt0 his0 txt0 net0 net0 txt0 net0 net0 = some ((1 : Int32), z) := by
  have h0 : ∃ B, SIM 0 net0 B := by
    obtain ⟨g', m1, m2, m3, m4, b0, b1, b2, b9, bk, bi⟩ := m_builds (g := mod0) (bb := 0) (b := 4) (l := 3) (m := 3) (by decide) (by decide) (by decide)
    have z : ∀ k, 3 ≤ k → k ≤ 8 → blk g' 0 k = (0 : Int32) := fun k h1 h2 => bk k h1 h2
    refine ⟨blk g' 0, fresh_sim (b := 4) (l := 3) (m := 3) (cn := 0) (by decide) (by decide) (by decide) (by decide) (by decide) (by decide) (by decide) (by decide) rfl rfl rfl rfl rfl (fun _ _ => rfl) b0 b1 b2 b9 (z 5 (by decide) (by decide)) bi ?_ ?_ ?_ ?_ ?_ ?_ (by decide) (by decide)⟩
    · rw [z 3 (by decide) (by decide)]; rfl
    · rw [z 4 (by decide) (by decide)]; rfl
    · exact Or.inl (z 4 (by decide) (by decide))
    · rw [z 6 (by decide) (by decide)]; rfl
    · rw [z 7 (by decide) (by decide)]; rfl
    · rw [z 8 (by decide) (by decide)]; rfl
  obtain ⟨B, hS⟩ := h0
  obtain ⟨bo, li, mi, sv, cn, cs, v⟩ := hS.vw
  have hH : HOK 0 his0 := ⟨0, 0, by decide, by decide, rfl, rfl, fun d hd => by omega⟩
  have e1 : fX5_undo txt0 his0 net0 = some ((-6 : Int32), his0, net0) := by
    have hb := c_back (hi := his0) (n := net0) (lt := 0) (c := 0) rfl (by decide) rfl (by decide)
    rw [if_pos rfl] at hb
    unfold fX5_undo
    rw [hb, Option.bind_some]
  have e2 : fX5_restore txt0 his0 net0 net0 = some ((-6 : Int32), his0, net0) := by
    unfold fX5_restore
    rw [if_pos (show txt0.1 7 = (0 : Int32) from rfl)]
  have hc0 : cnt (busy cs) 48 = 0 := by
    refine cnt_zero.mpr (fun i hi => ?_)
    cases hb : busy cs i with
    | false => rfl
    | true =>
      exfalso
      obtain ⟨y, hy⟩ := num_of_busy hb
      have h1 := v.R.r0 hi
      rw [hy, eN_some] at h1
      have h2 : rget (net0.2 0) 48 (nI i) = (-6 : Int32) := by rw [rget_in hi (by decide)]; rfl
      exact nI_ne_of_neg (v.W.num31 hy) (by decide) (h1.symm.trans h2)
  have e3 : fX5_keep txt0 net0 net0 = some ((0 : Int32), setF txt0 7 (1 : Int32), net0) := by
    unfold fX5_keep
    rw [c_count v.R v.W, Option.bind_some, hc0]; rfl
  have hl := law_turns (xs := xs) hL (x := txt0) (tr := net0) 40 0 FU rfl (by omega) (FU_big (by omega)) (setF txt0 7 (1 : Int32)) his0 net0 net0 txt0 net0 ⟨⟨B, hS⟩, hH, rfl, B, hS⟩
  obtain ⟨z, hz⟩ := hl
  refine ⟨z, ?_⟩
  unfold fL_law_8
  rw [e1, Option.bind_some, if_pos (rfl : (-6 : Int32) = (-6 : Int32)), e2, Option.bind_some, if_pos (rfl : (-6 : Int32) = (-6 : Int32)), e3, Option.bind_some, if_pos (rfl : (0 : Int32) = (0 : Int32))]
  exact hz
