/-! changes of the abstract network, and of what holds it -/
def setV (cs : CS) (i : Nat) (v : Option Nat) : CS := fun j => if j = i then (cs i).map (fun c => (c.1, c.2.1, v)) else cs j
def addC (cs : CS) (i c o : Nat) : CS := fun j => if j = i then some (c, o, none) else cs j
def delC (cs : CS) (i : Nat) : CS := fun j => if j = i then none else cs j
theorem opt_eq {a b : Option Nat} (h : ∀ j, a = some j ↔ b = some j) : a = b := by
  cases a with
  | none => cases b with
    | none => rfl
    | some y => exact absurd ((h y).mpr rfl) (by simp)
  | some x => exact ((h x).mp rfl).symm
theorem num_setV {cs : CS} {i : Nat} {v : Option Nat} (j : Nat) : num (setV cs i v) j = num cs j := by
  unfold num setV
  by_cases h : j = i
  · subst h; rw [if_pos rfl]; cases cs j <;> rfl
  · rw [if_neg h]
theorem outl_setV {cs : CS} {i : Nat} {v : Option Nat} (j : Nat) : outl (setV cs i v) j = outl cs j := by
  unfold outl setV
  by_cases h : j = i
  · subst h; rw [if_pos rfl]; cases cs j <;> rfl
  · rw [if_neg h]
theorem busy_setV {cs : CS} {i : Nat} {v : Option Nat} (j : Nat) : busy (setV cs i v) j = busy cs j := by
  unfold busy setV
  by_cases h : j = i
  · subst h; rw [if_pos rfl]; cases cs j <;> rfl
  · rw [if_neg h]
theorem via_setV_n {cs : CS} {i j : Nat} {v : Option Nat} (h : j ≠ i) : via (setV cs i v) j = via cs j := by
  unfold via setV; rw [if_neg h]
theorem via_setV_s {cs : CS} {i : Nat} {v : Option Nat} (h : busy cs i = true) : via (setV cs i v) i = v := by
  unfold busy at h
  unfold via setV; rw [if_pos rfl]
  cases hc : cs i with
  | none => rw [hc] at h; cases h
  | some c => rfl
theorem via_nobusy {cs : CS} {i : Nat} (h : busy cs i = false) : via cs i = none := by
  unfold busy at h; unfold via
  cases hc : cs i with
  | none => rfl
  | some c => rw [hc] at h; cases h
theorem via_setV_0 {cs : CS} {i : Nat} : via (setV cs i none) i = none := by
  unfold via setV; rw [if_pos rfl]
  cases cs i <;> rfl
theorem setV_same {cs : CS} {i : Nat} (h : via cs i = none) : setV cs i none = cs := by
  funext j
  unfold setV
  by_cases hj : j = i
  · subst hj
    rw [if_pos rfl]
    unfold via at h
    cases hc : cs j with
    | none => rfl
    | some c =>
      rw [hc] at h
      have h : c.2.2 = none := h
      show some (c.1, c.2.1, none) = some c
      rw [← h]
  · rw [if_neg hj]
theorem num_addC {cs : CS} {i c o : Nat} (j : Nat) : num (addC cs i c o) j = if j = i then some c else num cs j := by
  unfold num addC; by_cases h : j = i
  · rw [if_pos h, if_pos h]; rfl
  · rw [if_neg h, if_neg h]
theorem outl_addC {cs : CS} {i c o : Nat} (j : Nat) : outl (addC cs i c o) j = if j = i then some o else outl cs j := by
  unfold outl addC; by_cases h : j = i
  · rw [if_pos h, if_pos h]; rfl
  · rw [if_neg h, if_neg h]
theorem via_addC {cs : CS} {i c o : Nat} (j : Nat) : via (addC cs i c o) j = if j = i then none else via cs j := by
  unfold via addC; by_cases h : j = i
  · rw [if_pos h, if_pos h]; rfl
  · rw [if_neg h, if_neg h]
theorem busy_addC {cs : CS} {i c o : Nat} (j : Nat) : busy (addC cs i c o) j = if j = i then true else busy cs j := by
  unfold busy addC; by_cases h : j = i
  · rw [if_pos h, if_pos h]; rfl
  · rw [if_neg h, if_neg h]
theorem num_delC {cs : CS} {i : Nat} (j : Nat) : num (delC cs i) j = if j = i then none else num cs j := by
  unfold num delC; by_cases h : j = i
  · rw [if_pos h, if_pos h]; rfl
  · rw [if_neg h, if_neg h]
theorem outl_delC {cs : CS} {i : Nat} (j : Nat) : outl (delC cs i) j = if j = i then none else outl cs j := by
  unfold outl delC; by_cases h : j = i
  · rw [if_pos h, if_pos h]; rfl
  · rw [if_neg h, if_neg h]
theorem via_delC {cs : CS} {i : Nat} (j : Nat) : via (delC cs i) j = if j = i then none else via cs j := by
  unfold via delC; by_cases h : j = i
  · rw [if_pos h, if_pos h]; rfl
  · rw [if_neg h, if_neg h]
theorem busy_delC {cs : CS} {i : Nat} (j : Nat) : busy (delC cs i) j = if j = i then false else busy cs j := by
  unfold busy delC; by_cases h : j = i
  · rw [if_pos h, if_pos h]; rfl
  · rw [if_neg h, if_neg h]
theorem busy_iff_num {cs : CS} {i : Nat} : busy cs i = (num cs i).isSome := by
  unfold busy num; cases cs i <;> rfl
section CG
variable {bo li mi sv cn : Nat} {cs cs' : CS}
theorem WF.mono (W : WF bo li mi sv cn cs) (h1 : ∀ j, num cs' j = num cs j) (h2 : ∀ j, outl cs' j = outl cs j) (h3 : ∀ j m, via cs' j = some m → via cs j = some m) : WF bo li mi sv cn cs' := by
  refine ⟨W.bo2, W.bo8, W.li1, W.li6, W.mi1, W.mi8, W.svlt, W.cn30, fun i hb => ?_, fun i c hc => ?_, fun i o ho => ?_, fun i m hm => ?_, fun i j o a b => ?_, fun i j m a b c => ?_, fun i j m o o' a b c d e => ?_⟩
  · exact W.lt (by rw [busy_iff_num, ← h1, ← busy_iff_num]; exact hb)
  · exact W.numlt (by rw [← h1]; exact hc)
  · exact W.outlt (by rw [← h2]; exact ho)
  · exact ⟨W.vialt (h3 _ _ hm), W.viasv (h3 _ _ hm)⟩
  · exact W.outinj (by rw [← h2]; exact a) (by rw [← h2]; exact b)
  · exact W.finj (h3 _ _ a) (h3 _ _ b) c
  · exact W.linj (h3 _ _ a) (h3 _ _ b) (by rw [← h2]; exact c) (by rw [← h2]; exact d) e
theorem WF.lift (W : WF bo li mi sv cn cs) {i : Nat} : WF bo li mi sv cn (setV cs i none) := by
  refine W.mono (num_setV) (outl_setV) (fun j m h => ?_)
  by_cases hj : j = i
  · subst hj; rw [via_setV_0] at h; cases h
  · rw [via_setV_n hj] at h; exact h
theorem WF.unset {v : Option Nat} {i : Nat} (W : WF bo li mi sv cn (setV cs i v)) (h : via cs i = none) : WF bo li mi sv cn cs := by
  refine W.mono (fun j => (num_setV j).symm) (fun j => (outl_setV j).symm) (fun j m hm => ?_)
  by_cases hj : j = i
  · subst hj; rw [h] at hm; cases hm
  · rw [via_setV_n hj]; exact hm
theorem inlOf_congr (h : ∀ j, outl cs' j = outl cs j) (o : Nat) : inlOf cs' o = inlOf cs o := by
  unfold inlOf; exact findI_congr (fun i _ => by rw [h])
theorem lkF_lift (W : WF bo li mi sv cn cs) {i v b m : Nat} (hv : via cs i = some v) : lkF li (setV cs i none) b m = if b = i / li ∧ m = v then none else lkF li cs b m := by
  apply opt_eq
  intro j
  rw [W.lift.lF]
  by_cases hbm : b = i / li ∧ m = v
  · rw [if_pos hbm]
    constructor
    · intro ⟨h1, h2⟩
      exfalso
      by_cases hj : j = i
      · subst hj; rw [via_setV_0] at h1; cases h1
      · rw [via_setV_n hj] at h1
        exact hj (W.finj h1 (by rw [hv, hbm.2]) (by rw [h2, hbm.1]))
    · intro h; cases h
  · rw [if_neg hbm, W.lF]
    constructor
    · intro ⟨h1, h2⟩
      by_cases hj : j = i
      · subst hj; rw [via_setV_0] at h1; cases h1
      · rw [via_setV_n hj] at h1; exact ⟨h1, h2⟩
    · intro ⟨h1, h2⟩
      by_cases hj : j = i
      · subst hj; rw [hv] at h1; cases h1; exact absurd ⟨h2.symm, rfl⟩ hbm
      · rw [via_setV_n hj]; exact ⟨h1, h2⟩
theorem lkL_lift (W : WF bo li mi sv cn cs) {i v t m o : Nat} (hv : via cs i = some v) (ho : outl cs i = some o) : lkL li (setV cs i none) m t = if t = o / li ∧ m = v then none else lkL li cs m t := by
  apply opt_eq
  intro j
  rw [W.lift.lL]
  by_cases hbm : t = o / li ∧ m = v
  · rw [if_pos hbm]
    constructor
    · intro ⟨h1, o', h2, h3⟩
      exfalso
      by_cases hj : j = i
      · subst hj; rw [via_setV_0] at h1; cases h1
      · rw [via_setV_n hj] at h1
        rw [outl_setV] at h2
        exact hj (W.linj h1 (by rw [hv, hbm.2]) h2 ho (by rw [h3, hbm.1]))
    · intro h; cases h
  · rw [if_neg hbm, W.lL]
    constructor
    · intro ⟨h1, o', h2, h3⟩
      rw [outl_setV] at h2
      by_cases hj : j = i
      · subst hj; rw [via_setV_0] at h1; cases h1
      · rw [via_setV_n hj] at h1; exact ⟨h1, o', h2, h3⟩
    · intro ⟨h1, o', h2, h3⟩
      by_cases hj : j = i
      · subst hj; rw [hv] at h1; cases h1; rw [ho] at h2; cases h2; exact absurd ⟨h3.symm, rfl⟩ hbm
      · rw [via_setV_n hj]; exact ⟨h1, o', by rw [outl_setV]; exact h2, h3⟩
theorem c_boardR (n n' : OS) (h : n'.1 = n.1) (x : Int32) : fX1_boardOf n' x = fX1_boardOf n x := by
  unfold fX1_boardOf; rw [h]
theorem lk_inj {b m b' m' : Nat} (h1 : m < 8) (h2 : m' < 8) : b * 8 + m = b' * 8 + m' ↔ b = b' ∧ m = m' := by
  constructor
  · intro h; constructor <;> omega
  · intro ⟨h, h'⟩; rw [h, h']
theorem c_lift {n : OS} (hR : RC bo li mi sv cn cs n) (W : WF bo li mi sv cn cs) {i : Nat} (hi : i < 48) : RC bo li mi sv cn (setV cs i none) (fX1_liftCall n (nI i)) ∧ (fX1_liftCall n (nI i)).1 = n.1 := by
  unfold fX1_liftCall
  rw [hR.r2 hi]
  cases hv : via cs i with
  | none =>
    rw [eN_none, if_pos m6, setV_same hv]
    exact ⟨hR, rfl⟩
  | some v =>
    have hv8 := W.via8 hv
    have hb := busy_of_via hv
    obtain ⟨o, ho⟩ := out_of_busy hb
    have ho48 := W.out48 ho
    have hbo := W.bo8
    have hib := div_lt (W.lt hb)
    have hob := div_lt (W.outlt ho)
    rw [eN_some, if_neg (nI_pos (by omega))]
    simp only [jn]
    rw [hR.r1 hi, ho, eN_some, c_boardR n (setR n 4 _) rfl, c_board hR W (by omega), c_board hR W (by omega), link_nI, link_nI, rset_in (by omega) (by decide), rset_in (by omega) (by decide), rset_in hi (by decide)]
    refine ⟨⟨hR.f0, hR.f1, hR.f2, hR.f3, hR.f6, fun j hj => ?_, fun j hj => ?_, fun j hj => ?_, fun u hu => ?_, fun b m hb8 hm8 => ?_, fun t m ht8 hm8 => ?_⟩, rfl⟩
    · rw [num_setV]; exact hR.2.2.2.2.2.1 j hj
    · rw [outl_setV]; exact hR.2.2.2.2.2.2.1 j hj
    · show upd (n.2 2) i (-6 : Int32) j = _
      by_cases hji : j = i
      · subst hji; rw [upd_s, via_setV_0]; rfl
      · rw [upd_n hji, via_setV_n hji]; exact hR.2.2.2.2.2.2.2.1 j hj
    · rw [inlOf_congr outl_setV]; exact hR.2.2.2.2.2.2.2.2.1 u hu
    · show upd (n.2 4) (i / li * 8 + v) (-6 : Int32) (b * 8 + m) = _
      rw [lkF_lift W hv, upd_if]
      by_cases hbm : b = i / li ∧ m = v
      · rw [if_pos hbm, if_pos (by rw [hbm.1, hbm.2])]; rfl
      · rw [if_neg hbm, if_neg (fun e => hbm ((lk_inj hm8 hv8).mp e))]
        exact hR.2.2.2.2.2.2.2.2.2.1 b m hb8 hm8
    · show upd (n.2 5) (o / li * 8 + v) (-6 : Int32) (t * 8 + m) = _
      rw [lkL_lift W hv ho, upd_if]
      by_cases hbm : t = o / li ∧ m = v
      · rw [if_pos hbm, if_pos (by rw [hbm.1, hbm.2])]; rfl
      · rw [if_neg hbm, if_neg (fun e => hbm ((lk_inj hm8 hv8).mp e))]
        exact hR.2.2.2.2.2.2.2.2.2.2 t m ht8 hm8
theorem lkF_carry {i v b m : Nat} (W : WF bo li mi sv cn (setV cs i (some v))) (hn : via cs i = none) (hb : busy cs i = true) : lkF li (setV cs i (some v)) b m = if b = i / li ∧ m = v then some i else lkF li cs b m := by
  apply opt_eq
  intro j
  rw [W.lF]
  by_cases hbm : b = i / li ∧ m = v
  · rw [if_pos hbm]
    constructor
    · intro ⟨h1, h2⟩
      congr 1
      exact (W.finj h1 (by rw [via_setV_s hb, hbm.2]) (by rw [h2, hbm.1])).symm
    · intro h; cases h
      exact ⟨by rw [via_setV_s hb, hbm.2], hbm.1.symm⟩
  · rw [if_neg hbm, (W.unset hn).lF]
    constructor
    · intro ⟨h1, h2⟩
      by_cases hj : j = i
      · subst hj; rw [via_setV_s hb] at h1; cases h1; exact absurd ⟨h2.symm, rfl⟩ hbm
      · rw [via_setV_n hj] at h1; exact ⟨h1, h2⟩
    · intro ⟨h1, h2⟩
      by_cases hj : j = i
      · subst hj; rw [hn] at h1; cases h1
      · rw [via_setV_n hj]; exact ⟨h1, h2⟩
theorem lkL_carry {i v t m o : Nat} (W : WF bo li mi sv cn (setV cs i (some v))) (hn : via cs i = none) (ho : outl cs i = some o) : lkL li (setV cs i (some v)) m t = if t = o / li ∧ m = v then some i else lkL li cs m t := by
  have hb := busy_of_out ho
  apply opt_eq
  intro j
  rw [W.lL]
  by_cases hbm : t = o / li ∧ m = v
  · rw [if_pos hbm]
    constructor
    · intro ⟨h1, o', h2, h3⟩
      congr 1
      exact (W.linj h1 (by rw [via_setV_s hb, hbm.2]) h2 (by rw [outl_setV]; exact ho) (by rw [h3, hbm.1])).symm
    · intro h; cases h
      exact ⟨by rw [via_setV_s hb, hbm.2], o, by rw [outl_setV]; exact ho, hbm.1.symm⟩
  · rw [if_neg hbm, (W.unset hn).lL]
    constructor
    · intro ⟨h1, o', h2, h3⟩
      rw [outl_setV] at h2
      by_cases hj : j = i
      · subst hj; rw [via_setV_s hb] at h1; cases h1; rw [ho] at h2; cases h2; exact absurd ⟨h3.symm, rfl⟩ hbm
      · rw [via_setV_n hj] at h1; exact ⟨h1, o', h2, h3⟩
    · intro ⟨h1, o', h2, h3⟩
      by_cases hj : j = i
      · subst hj; rw [hn] at h1; cases h1
      · rw [via_setV_n hj]; exact ⟨h1, o', by rw [outl_setV]; exact h2, h3⟩
theorem c_carry {n : OS} (hR : RC bo li mi sv cn cs n) {i v : Nat} (W : WF bo li mi sv cn (setV cs i (some v))) (hn : via cs i = none) (hb : busy cs i = true) (hi : i < 48) : RC bo li mi sv cn (setV cs i (some v)) (fX1_carryCall n (nI i) (nI v)) ∧ (fX1_carryCall n (nI i) (nI v)).1 = n.1 := by
  have W0 := W.unset hn
  have hv8 : v < 8 := W.via8 (via_setV_s hb)
  obtain ⟨o, ho⟩ := out_of_busy hb
  have ho48 := W0.out48 ho
  have hbo := W.bo8
  have hib := div_lt (W0.lt hb)
  have hob := div_lt (W0.outlt ho)
  unfold fX1_carryCall
  simp only [jn]
  rw [hR.r1 hi, ho, eN_some, c_boardR n (setR n 2 _) rfl, c_boardR n (setR (setR n 2 _) 4 _) rfl, c_board hR W0 (by omega), c_board hR W0 (by omega), link_nI, link_nI, rset_in hi (by decide), rset_in (by omega) (by decide), rset_in (by omega) (by decide)]
  refine ⟨⟨hR.f0, hR.f1, hR.f2, hR.f3, hR.f6, fun j hj => ?_, fun j hj => ?_, fun j hj => ?_, fun u hu => ?_, fun b m hb8 hm8 => ?_, fun t m ht8 hm8 => ?_⟩, rfl⟩
  · rw [num_setV]; exact hR.2.2.2.2.2.1 j hj
  · rw [outl_setV]; exact hR.2.2.2.2.2.2.1 j hj
  · show upd (n.2 2) i (nI v) j = _
    by_cases hji : j = i
    · subst hji; rw [upd_s, via_setV_s hb]; rfl
    · rw [upd_n hji, via_setV_n hji]; exact hR.2.2.2.2.2.2.2.1 j hj
  · rw [inlOf_congr outl_setV]; exact hR.2.2.2.2.2.2.2.2.1 u hu
  · show upd (n.2 4) (i / li * 8 + v) (nI i) (b * 8 + m) = _
    rw [lkF_carry W hn hb, upd_if]
    by_cases hbm : b = i / li ∧ m = v
    · rw [if_pos hbm, if_pos (by rw [hbm.1, hbm.2])]; rfl
    · rw [if_neg hbm, if_neg (fun e => hbm ((lk_inj hm8 hv8).mp e))]
      exact hR.2.2.2.2.2.2.2.2.2.1 b m hb8 hm8
  · show upd (n.2 5) (o / li * 8 + v) (nI i) (t * 8 + m) = _
    rw [lkL_carry W hn ho, upd_if]
    by_cases hbm : t = o / li ∧ m = v
    · rw [if_pos hbm, if_pos (by rw [hbm.1, hbm.2])]; rfl
    · rw [if_neg hbm, if_neg (fun e => hbm ((lk_inj hm8 hv8).mp e))]
      exact hR.2.2.2.2.2.2.2.2.2.2 t m ht8 hm8
end CG
