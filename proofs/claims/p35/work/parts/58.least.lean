/-! the fullest board: counted on boards, and over all calls -/
def fbN (li : Nat) (cs : CS) (b : Nat) : Nat := cnt (fun i => busy cs i && i / li == b) 48
def lbN (li : Nat) (cs : CS) (b : Nat) : Nat := cnt (fun i => (outl cs i).map (fun o => o / li) == some b) 48
def lst (li : Nat) (cs : CS) : Nat → Nat
  | 0 => 0
  | b + 1 => max (lst li cs b) (max (fbN li cs b) (lbN li cs b))
theorem lst_s (li : Nat) (cs : CS) (b : Nat) : lst li cs (b + 1) = max (lst li cs b) (max (fbN li cs b) (lbN li cs b)) := rfl
theorem lst_le {li : Nat} {cs : CS} {c : Nat} (h : ∀ b, fbN li cs b ≤ c ∧ lbN li cs b ≤ c) : ∀ k, lst li cs k ≤ c
  | 0 => Nat.zero_le _
  | k + 1 => by
    have := lst_le h k
    have := h k
    rw [lst_s]
    omega
theorem le_lst {li : Nat} {cs : CS} {b : Nat} : ∀ {k : Nat}, b < k → fbN li cs b ≤ lst li cs k ∧ lbN li cs b ≤ lst li cs k
  | 0, h => by omega
  | k + 1, h => by
    rw [lst_s]
    by_cases hb : b = k
    · subst hb; omega
    · have := le_lst (li := li) (cs := cs) (b := b) (k := k) (by omega)
      omega
theorem fbN_48 (li : Nat) (cs : CS) (b : Nat) : fbN li cs b ≤ 48 := cnt_le _ _
theorem lbN_48 (li : Nat) (cs : CS) (b : Nat) : lbN li cs b ≤ 48 := cnt_le _ _
theorem lst_48 (li : Nat) (cs : CS) (k : Nat) : lst li cs k ≤ 48 := lst_le (fun b => ⟨fbN_48 li cs b, lbN_48 li cs b⟩) k
theorem fbN_congr {li : Nat} {cs cs' : CS} (h : ∀ j, num cs' j = num cs j) (b : Nat) : fbN li cs' b = fbN li cs b := cnt_congr (fun i _ => by rw [busy_iff_num, busy_iff_num, h])
theorem lbN_congr {li : Nat} {cs cs' : CS} (h : ∀ j, outl cs' j = outl cs j) (b : Nat) : lbN li cs' b = lbN li cs b := cnt_congr (fun i _ => by rw [h])
theorem nI_max1 {a b : Nat} (ha : a < 2 ^ 31) (hb : b < 2 ^ 31) : (if nI a < nI b then nI b else nI a) = nI (max a b) := by
  by_cases h : a < b
  · rw [if_pos (nI_lt h hb), Nat.max_eq_right (by omega)]
  · rw [if_neg (nI_nlt (by omega) ha), Nat.max_eq_left (by omega)]
section LE
variable {bo li mi sv cn : Nat} {cs : CS} {bb : Nat}
theorem brd {b j : Nat} (h : j < li) : (b * li + j) / li = b := by
  refine Nat.div_eq_of_lt_le (by omega) ?_
  rw [Nat.add_mul, Nat.one_mul]; omega
theorem brd_le {b i : Nat} (hb : b < bo) (h : i < b * li + li) : i < bo * li := by
  have : (b + 1) * li ≤ bo * li := Nat.mul_le_mul_right _ hb
  rw [Nat.add_mul, Nat.one_mul] at this
  omega
theorem at_mod {i b : Nat} (h : i / li = b) : b * li + i % li = i := by
  rw [← h]; exact Nat.div_add_mod' i li
theorem fbN_eq (W : WF bo li mi sv cn cs) {b : Nat} : cnt (fun j => busy cs (b * li + j)) li = fbN li cs b := by
  have h1 := W.li1
  apply Nat.le_antisymm
  · refine cnt_inj2 (fun j => b * li + j) (fun j hj h => ?_) (fun j k _ _ _ _ he => ?_)
    · refine ⟨W.lt48 h, ?_⟩
      rw [h, brd hj]; simp
    · have he : b * li + j = b * li + k := he
      omega
  · refine cnt_inj2 (fun i => i % li) (fun i hi h => ?_) (fun i k hi hk h h' he => ?_)
    · have h : busy cs i = true ∧ i / li = b := by simpa using h
      refine ⟨Nat.mod_lt _ h1, ?_⟩
      show busy cs (b * li + i % li) = true
      rw [at_mod h.2]; exact h.1
    · have h : busy cs i = true ∧ i / li = b := by simpa using h
      have h' : busy cs k = true ∧ k / li = b := by simpa using h'
      have he : i % li = k % li := he
      rw [← at_mod h.2, ← at_mod h'.2, he]
theorem lbN_eq (W : WF bo li mi sv cn cs) {b : Nat} : cnt (fun j => (inlOf cs (b * li + j)).isSome) li = lbN li cs b := by
  have h1 := W.li1
  apply Nat.le_antisymm
  · refine cnt_inj2 (fun j => (inlOf cs (b * li + j)).getD 0) (fun j hj h => ?_) (fun j k hj hk h h' he => ?_)
    · obtain ⟨i, hi⟩ := Option.isSome_iff_exists.mp h
      simp only [hi, Option.getD_some]
      refine ⟨findI_lt hi, ?_⟩
      rw [W.inl.mp hi]
      show (some ((b * li + j) / li) == some b) = true
      rw [brd hj]; simp
    · obtain ⟨i, hi⟩ := Option.isSome_iff_exists.mp h
      obtain ⟨i', hi'⟩ := Option.isSome_iff_exists.mp h'
      simp only [hi, hi', Option.getD_some] at he
      subst he
      have e1 := W.inl.mp hi
      rw [W.inl.mp hi'] at e1
      have := Option.some.inj e1
      omega
  · refine cnt_inj2 (fun i => (outl cs i).getD 0 % li) (fun i hi h => ?_) (fun i k hi hk h h' he => ?_)
    · have h : (outl cs i).map (fun o => o / li) = some b := by simpa using h
      cases ho : outl cs i with
      | none => rw [ho] at h; cases h
      | some o =>
        rw [ho] at h
        have h : o / li = b := Option.some.inj h
        refine ⟨Nat.mod_lt _ h1, ?_⟩
        show (inlOf cs (b * li + o % li)).isSome = true
        rw [at_mod h, W.inl.mpr ho]; rfl
    · have h : (outl cs i).map (fun o => o / li) = some b := by simpa using h
      have h' : (outl cs k).map (fun o => o / li) = some b := by simpa using h'
      cases ho : outl cs i with
      | none => rw [ho] at h; cases h
      | some o =>
        cases ho' : outl cs k with
        | none => rw [ho'] at h'; cases h'
        | some o' =>
          rw [ho] at h
          rw [ho'] at h'
          have h : o / li = b := Option.some.inj h
          have h' : o' / li = b := Option.some.inj h'
          simp only [ho, ho', Option.getD_some] at he
          have : o = o' := by rw [← at_mod h, ← at_mod h', he]
          subst this
          exact W.outinj ho ho'
theorem c_board2 {n : OS} (hR : RC bo li mi sv cn cs n) (W : WF bo li mi sv cn cs) {b : Nat} (hb : b < bo) (x1 : Int32) : fX1_fullestBoard_25 n x1 (nI b) FU (0 : Int32) (0 : Int32) (nI (b * li)) = some (nI (fbN li cs b), nI (lbN li cs b)) := by
  have h48 := W.n48
  have hlim : ∀ i, i < b * li + li → i < bo * li := fun i h => brd_le hb h
  rw [← fbN_eq W, ← lbN_eq W]
  have h := iloop (fun k i (s : Int32 × Int32) => fX1_fullestBoard_25 n x1 (nI b) k s.1 s.2 i) (b * li + li) (fun i s => b * li ≤ i ∧ s.1 = nI (cnt (fun j => busy cs (b * li + j)) (i - b * li)) ∧ s.2 = nI (cnt (fun j => (inlOf cs (b * li + j)).isSome) (i - b * li))) (nI (cnt (fun j => busy cs (b * li + j)) li), nI (cnt (fun j => (inlOf cs (b * li + j)).isSome) li)) ?_ ?_ FU (b * li) ((0 : Int32), (0 : Int32)) (by omega) (FU_big (by have := W.li6; omega)) ⟨Nat.le_refl _, by rw [Nat.sub_self]; rfl, by rw [Nat.sub_self]; rfl⟩
  · exact h
  · intro k i s hi hI
    obtain ⟨hle, h1, h2⟩ := hI
    have hi48 := hlim i hi
    obtain ⟨d, rfl⟩ : ∃ d, i = b * li + d := ⟨i - b * li, by omega⟩
    rw [Nat.add_sub_cancel_left] at h1 h2
    refine Or.inl ⟨(nI (cnt (fun j => busy cs (b * li + j)) (d + 1)), nI (cnt (fun j => (inlOf cs (b * li + j)).isSome) (d + 1))), ⟨by omega, by rw [show b * li + d + 1 - b * li = d + 1 by omega], by rw [show b * li + d + 1 - b * li = d + 1 by omega]⟩, ?_⟩
    show fX1_fullestBoard_25 n x1 (nI b) (k + 1) s.1 s.2 _ = fX1_fullestBoard_25 n x1 (nI b) k _ _ _
    rw [fX1_fullestBoard_25_s, hR.f1, nI_succ1 b, pk_mul, if_neg (nI_ge (by rw [Nat.add_mul, Nat.one_mul]; exact hi) (by rw [Nat.add_mul, Nat.one_mul]; have := W.li6; omega)), c_busy hR W (by omega), c_obusy hR (by omega), nI_succ1 (b * li + d), h1, h2]
    simp only [jn]
    have hc1 : cnt (fun j => busy cs (b * li + j)) (d + 1) = cnt (fun j => busy cs (b * li + j)) d + (if busy cs (b * li + d) = true then 1 else 0) := rfl
    have hc2 : cnt (fun j => (inlOf cs (b * li + j)).isSome) (d + 1) = cnt (fun j => (inlOf cs (b * li + j)).isSome) d + (if (inlOf cs (b * li + d)).isSome = true then 1 else 0) := rfl
    rw [hc1, hc2]
    by_cases hb1 : busy cs (b * li + d) = true
    · rw [if_pos hb1, if_pos hb1, if_neg ne10]
      by_cases hb2 : (inlOf cs (b * li + d)).isSome = true
      · rw [if_pos hb2, if_pos hb2, if_neg ne10]
        simp only [nI_succ1, nI_add0, Nat.add_zero, Nat.add_assoc]
      · rw [if_neg hb2, if_neg hb2, if_pos rfl]
        simp only [nI_succ1, nI_add0, Nat.add_zero, Nat.add_assoc]
    · rw [if_neg hb1, if_neg hb1, if_pos rfl]
      by_cases hb2 : (inlOf cs (b * li + d)).isSome = true
      · rw [if_pos hb2, if_pos hb2, if_neg ne10]
        simp only [nI_succ1, nI_add0, Nat.add_zero, Nat.add_assoc]
      · rw [if_neg hb2, if_neg hb2, if_pos rfl]
        simp only [nI_succ1, nI_add0, Nat.add_zero, Nat.add_assoc]
  · intro k s hI
    obtain ⟨hle, h1, h2⟩ := hI
    rw [Nat.add_sub_cancel_left] at h1 h2
    show fX1_fullestBoard_25 n x1 (nI b) (k + 1) s.1 s.2 _ = _
    rw [fX1_fullestBoard_25_s, hR.f1, nI_succ1 b, pk_mul, if_pos (nI_le (by rw [Nat.add_mul, Nat.one_mul]; exact Nat.le_refl _) (by have := W.li6; have := W.n48; have := W.bo8; have : b * li ≤ bo * li := Nat.mul_le_mul_right _ (by omega); omega)), h1, h2]
theorem c_least {n : OS} (hR : RC bo li mi sv cn cs n) (W : WF bo li mi sv cn cs) : fX1_fullestBoard n = some (nI (lst li cs bo)) := by
  have h8 := W.bo8
  unfold fX1_fullestBoard
  have h := iloop (fun k i (a : Int32) => fX1_fullestBoard_4 n k a i) bo (fun i a => a = nI (lst li cs i)) (nI (lst li cs bo)) ?_ ?_ FU 0 (0 : Int32) (by omega) (FU_big (by omega)) rfl
  · exact h
  · intro k i s hi hI
    subst hI
    refine Or.inl ⟨_, rfl, ?_⟩
    show fX1_fullestBoard_4 n (k + 1) _ _ = fX1_fullestBoard_4 n k _ _
    have e1 := fbN_48 li cs i
    have e2 := lbN_48 li cs i
    have e3 := lst_48 li cs i
    rw [fX1_fullestBoard_4_s, hR.f0, if_neg (nI_ge hi (by omega)), hR.f1, pk_mul, c_board2 hR W hi, Option.bind_some, nI_succ1]
    show fX1_fullestBoard_4 n k (if nI (lst li cs i) < (if nI (fbN li cs i) < nI (lbN li cs i) then nI (lbN li cs i) else nI (fbN li cs i)) then (if nI (fbN li cs i) < nI (lbN li cs i) then nI (lbN li cs i) else nI (fbN li cs i)) else nI (lst li cs i)) _ = _
    rw [nI_max1 (by omega) (by omega), nI_max1 (by omega) (by omega)]; rfl
  · intro k s hI
    subst hI
    show fX1_fullestBoard_4 n (k + 1) _ _ = _
    rw [fX1_fullestBoard_4_s, hR.f0, if_pos (nI_le (Nat.le_refl _) (by omega))]
theorem m_board2 {g : OS} (hM : RM bo li mi sv cn cs (blk g bb)) (W : WF bo li mi sv cn cs) (hbb : bb ≤ 924) {b : Nat} (hb : b < bo) (x2 : Int32) : fX6_least_25 g (nI bb) x2 (nI b) FU (0 : Int32) (0 : Int32) (0 : Int32) = some (nI (fbN li cs b), nI (lbN li cs b)) := by
  have h48 := W.n48
  have h1 := W.li1
  have h6 := W.li6
  have h8 := W.bo8
  have ef : fbN li cs b = cnt (fun i => busy cs i && i / li == b) (bo * li) := cnt_ext h48 (fun i a c => by
    cases hq : busy cs i with
    | false => rfl
    | true => have := W.lt hq; omega)
  have el : lbN li cs b = cnt (fun i => (outl cs i).map (fun o => o / li) == some b) (bo * li) := cnt_ext h48 (fun i a c => by
    cases hq : outl cs i with
    | none => rfl
    | some z => have := W.lt (busy_of_out hq); omega)
  rw [ef, el]
  have h := iloop (fun k i (s : Int32 × Int32) => fX6_least_25 g (nI bb) x2 (nI b) k s.1 s.2 i) (bo * li) (fun i s => s.1 = nI (cnt (fun i => busy cs i && i / li == b) i) ∧ s.2 = nI (cnt (fun i => (outl cs i).map (fun o => o / li) == some b) i)) (nI (cnt (fun i => busy cs i && i / li == b) (bo * li)), nI (cnt (fun i => (outl cs i).map (fun o => o / li) == some b) (bo * li))) ?_ ?_ FU 0 ((0 : Int32), (0 : Int32)) (by omega) (FU_big (by omega)) ⟨rfl, rfl⟩
  · exact h
  · intro k i s hi hI
    obtain ⟨e1, e2⟩ := hI
    refine Or.inl ⟨(nI (cnt (fun i => busy cs i && i / li == b) (i + 1)), nI (cnt (fun i => (outl cs i).map (fun o => o / li) == some b) (i + 1))), ⟨rfl, rfl⟩, ?_⟩
    show fX6_least_25 g (nI bb) x2 (nI b) (k + 1) s.1 s.2 _ = fX6_least_25 g (nI bb) x2 (nI b) k _ _ _
    have hc1 : cnt (fun i => busy cs i && i / li == b) (i + 1) = cnt (fun i => busy cs i && i / li == b) i + (if (busy cs i && i / li == b) = true then 1 else 0) := rfl
    have hc2 : cnt (fun i => (outl cs i).map (fun o => o / li) == some b) (i + 1) = cnt (fun i => (outl cs i).map (fun o => o / li) == some b) i + (if ((outl cs i).map (fun o => o / li) == some b) = true then 1 else 0) := rfl
    rw [fX6_least_25_s, m_lines hM hbb, Option.bind_some, if_neg (nI_ge hi (by omega)), m_of0 hbb (by omega), Option.bind_some, nI_succ1 i, e1, e2, hc1, hc2]
    simp only [jn]
    by_cases hbi : busy cs i = true
    · obtain ⟨o, ho⟩ := out_of_busy hbi
      have ho48 := W.out48 ho
      have hd1 := Nat.div_le_self i li
      have hd2 := Nat.div_le_self o li
      rw [if_neg (show ¬ blk g bb (10 + 3 * i) = (-1 : Int32) by rw [m_numeq hM W (by omega)]; simp [hbi]), if_neg ne10, if_pos (in_1 hbb), m_li hM hbb, if_pos (nI_ne0 (by omega) (by omega)), pk_div (by omega) (by omega) (by omega)]
      have hx : (if nI (i / li) = nI b then some (1 : Int32) else some (0 : Int32)) = some (nI (if (busy cs i && i / li == b) = true then 1 else 0)) := by
        by_cases hd : i / li = b
        · rw [if_pos (by rw [hd]), if_pos (by simp [hbi, hd])]; rfl
        · rw [if_neg (by rw [nI_eq (by omega) (by omega)]; exact hd), if_neg (by simp [hd])]; rfl
      rw [hx, Option.bind_some, if_neg ne10, m_of1 hbb (by omega), Option.bind_some, hM.ou (by omega) ho, if_pos (in_1 hbb), if_pos (nI_ne0 (by omega) (by omega)), pk_div (by omega) (by omega) (by omega), nI_add]
      by_cases hd : o / li = b
      · rw [if_pos (by rw [hd]), nI_succ1 (cnt (fun i => (outl cs i).map (fun o => o / li) == some b) i), if_pos (show ((outl cs i).map (fun o => o / li) == some b) = true by rw [ho, ← hd]; simp)]
      · rw [if_neg (by rw [nI_eq (by omega) (by omega)]; exact hd), nI_add0, if_neg (show ¬ ((outl cs i).map (fun o => o / li) == some b) = true by rw [ho]; simpa using hd)]; rfl
    · have hbi : busy cs i = false := by simpa using hbi
      rw [if_pos ((m_numeq hM W (by omega)).mpr hbi), if_pos rfl, Option.bind_some, if_pos rfl, nI_add0, nI_add0, if_neg (show ¬ (busy cs i && i / li == b) = true by rw [hbi]; simp), if_neg (show ¬ ((outl cs i).map (fun o => o / li) == some b) = true by rw [busy_out.mpr hbi]; simp)]; rfl
  · intro k s hI
    obtain ⟨e1, e2⟩ := hI
    show fX6_least_25 g (nI bb) x2 (nI b) (k + 1) s.1 s.2 _ = _
    rw [fX6_least_25_s, m_lines hM hbb, Option.bind_some, if_pos (nI_le (Nat.le_refl _) (by omega)), e1, e2]
theorem m_least {g : OS} (hM : RM bo li mi sv cn cs (blk g bb)) (W : WF bo li mi sv cn cs) (hbb : bb ≤ 924) : fX6_least g (nI bb) = some (nI (lst li cs bo)) := by
  have h8 := W.bo8
  unfold fX6_least
  have hf0 : ((g.2 0) (nI bb + (0 : Int32)).toNatClampNeg) = nI bo := by rw [show (0 : Int32) = nI 0 from rfl, m_fld hbb (by decide), hM.b0]
  have h := iloop (fun k i (a : Int32) => fX6_least_4 g (nI bb) k a i) bo (fun i a => a = nI (lst li cs i)) (nI (lst li cs bo)) ?_ ?_ FU 0 (0 : Int32) (by omega) (FU_big (by omega)) rfl
  · exact h
  · intro k i s hi hI
    subst hI
    refine Or.inl ⟨_, rfl, ?_⟩
    show fX6_least_4 g (nI bb) (k + 1) _ _ = fX6_least_4 g (nI bb) k _ _
    have e1 := fbN_48 li cs i
    have e2 := lbN_48 li cs i
    have e3 := lst_48 li cs i
    rw [fX6_least_4_s, if_pos (in_0 hbb), hf0, if_neg (nI_ge hi (by omega)), m_board2 hM W hbb hi, Option.bind_some, nI_succ1]
    simp only [jn]
    have hx : (if nI (fbN li cs i) ≤ nI (lst li cs i) then nI (lst li cs i) else nI (fbN li cs i)) = nI (max (lst li cs i) (fbN li cs i)) := by
      by_cases h : fbN li cs i ≤ lst li cs i
      · rw [if_pos (nI_le h (by omega)), Nat.max_eq_left h]
      · rw [if_neg (nI_ge (by omega) (by omega)), Nat.max_eq_right (by omega)]
    rw [hx]
    by_cases h : lbN li cs i ≤ max (lst li cs i) (fbN li cs i)
    · rw [if_pos (nI_le h (by omega)), lst_s, show max (lst li cs i) (max (fbN li cs i) (lbN li cs i)) = max (lst li cs i) (fbN li cs i) by omega]
    · rw [if_neg (nI_ge (by omega) (by omega)), lst_s, show max (lst li cs i) (max (fbN li cs i) (lbN li cs i)) = lbN li cs i by omega]
  · intro k s hI
    subst hI
    show fX6_least_4 g (nI bb) (k + 1) _ _ = _
    rw [fX6_least_4_s, if_pos (in_0 hbb), hf0, if_pos (nI_le (Nat.le_refl _) (by omega))]
end LE
