/-! a call comes, a call goes -/
section AD
variable {bo li mi sv cn : Nat} {cs cs' : CS}
theorem WF.add (W : WF bo li mi sv cn cs) {i o : Nat} (hi : i < bo * li) (ho : o < bo * li) (hb : busy cs i = false) (hio : inlOf cs o = none) (hcn : cn + 1 < 2 ^ 30) : WF bo li mi sv (cn + 1) (addC cs i cn o) := by
  have vn : ∀ {j m}, via (addC cs i cn o) j = some m → j ≠ i ∧ via cs j = some m := by
    intro j m h
    rw [via_addC] at h
    by_cases hj : j = i
    · rw [if_pos hj] at h; cases h
    · rw [if_neg hj] at h; exact ⟨hj, h⟩
  have on : ∀ {j u}, j ≠ i → outl (addC cs i cn o) j = some u → outl cs j = some u := by
    intro j u hj h
    rw [outl_addC, if_neg hj] at h; exact h
  refine ⟨W.bo2, W.bo8, W.li1, W.li6, W.mi1, W.mi8, W.svlt, hcn, fun j h => ?_, fun j c h => ?_, fun j u h => ?_, fun j m h => ?_, fun j k u a b => ?_, fun j k m a b c => ?_, fun j k m u u' a b c d e => ?_⟩
  · rw [busy_addC] at h
    by_cases hj : j = i
    · rw [hj]; exact hi
    · rw [if_neg hj] at h; exact W.lt h
  · rw [num_addC] at h
    by_cases hj : j = i
    · rw [if_pos hj] at h; cases h; omega
    · rw [if_neg hj] at h; have := W.numlt h; omega
  · rw [outl_addC] at h
    by_cases hj : j = i
    · rw [if_pos hj] at h; cases h; exact ho
    · rw [if_neg hj] at h; exact W.outlt h
  · obtain ⟨-, h⟩ := vn h
    exact ⟨W.vialt h, W.viasv h⟩
  · rw [outl_addC] at a b
    by_cases hj : j = i
    · rw [if_pos hj] at a
      cases a
      by_cases hk : k = i
      · rw [hj, hk]
      · rw [if_neg hk] at b
        exact absurd b (W.inl_none.mp hio k)
    · rw [if_neg hj] at a
      by_cases hk : k = i
      · rw [if_pos hk] at b; cases b
        exact absurd a (W.inl_none.mp hio j)
      · rw [if_neg hk] at b; exact W.outinj a b
  · exact W.finj (vn a).2 (vn b).2 c
  · exact W.linj (vn a).2 (vn b).2 (on (vn a).1 c) (on (vn b).1 d) e
theorem WF.del (W : WF bo li mi sv cn cs) {i : Nat} : WF bo li mi sv cn (delC cs i) := by
  have vn : ∀ {j m}, via (delC cs i) j = some m → j ≠ i ∧ via cs j = some m := by
    intro j m h
    rw [via_delC] at h
    by_cases hj : j = i
    · rw [if_pos hj] at h; cases h
    · rw [if_neg hj] at h; exact ⟨hj, h⟩
  have on : ∀ {j u}, outl (delC cs i) j = some u → outl cs j = some u := by
    intro j u h
    rw [outl_delC] at h
    by_cases hj : j = i
    · rw [if_pos hj] at h; cases h
    · rw [if_neg hj] at h; exact h
  refine ⟨W.bo2, W.bo8, W.li1, W.li6, W.mi1, W.mi8, W.svlt, W.cn30, fun j h => ?_, fun j c h => ?_, fun j u h => W.outlt (on h), fun j m h => ?_, fun j k u a b => W.outinj (on a) (on b), fun j k m a b c => W.finj (vn a).2 (vn b).2 c, fun j k m u u' a b c d e => W.linj (vn a).2 (vn b).2 (on c) (on d) e⟩
  · rw [busy_delC] at h
    by_cases hj : j = i
    · rw [if_pos hj] at h; cases h
    · rw [if_neg hj] at h; exact W.lt h
  · rw [num_delC] at h
    by_cases hj : j = i
    · rw [if_pos hj] at h; cases h
    · rw [if_neg hj] at h; exact W.numlt h
  · obtain ⟨-, h⟩ := vn h
    exact ⟨W.vialt h, W.viasv h⟩
/-- two states that have the same calls on links have the same links -/
theorem lk_congr {n1 n2 : Nat} (W : WF bo li mi sv n1 cs) (W' : WF bo li mi sv n2 cs') (hv : ∀ j, via cs' j = via cs j) (ho : ∀ j, via cs j ≠ none → outl cs' j = outl cs j) : (∀ b m, lkF li cs' b m = lkF li cs b m) ∧ ∀ m t, lkL li cs' m t = lkL li cs m t := by
  constructor
  · intro b m
    apply opt_eq
    intro j
    rw [W.lF, W'.lF, hv]
  · intro m t
    apply opt_eq
    intro j
    rw [W.lL, W'.lL, hv]
    constructor
    · intro ⟨h1, o, h2, h3⟩
      exact ⟨h1, o, by rw [← ho j (by rw [h1]; simp)]; exact h2, h3⟩
    · intro ⟨h1, o, h2, h3⟩
      exact ⟨h1, o, by rw [ho j (by rw [h1]; simp)]; exact h2, h3⟩
theorem add_lk (W : WF bo li mi sv cn cs) {i o : Nat} (hi : i < bo * li) (ho : o < bo * li) (hb : busy cs i = false) (hio : inlOf cs o = none) (hcn : cn + 1 < 2 ^ 30) : (∀ j, via (addC cs i cn o) j = via cs j) ∧ (∀ b m, lkF li (addC cs i cn o) b m = lkF li cs b m) ∧ ∀ m t, lkL li (addC cs i cn o) m t = lkL li cs m t := by
  have hv : ∀ j, via (addC cs i cn o) j = via cs j := by
    intro j
    rw [via_addC]
    by_cases hj : j = i
    · rw [if_pos hj, hj, via_nobusy hb]
    · rw [if_neg hj]
  refine ⟨hv, lk_congr W (W.add hi ho hb hio hcn) hv (fun j h => ?_)⟩
  rw [outl_addC, if_neg]
  intro hj
  rw [hj, via_nobusy hb] at h
  exact h rfl
theorem c_add {n : OS} (hR : RC bo li mi sv cn cs n) (W : WF bo li mi sv cn cs) {i o : Nat} (hi : i < bo * li) (ho : o < bo * li) (hb : busy cs i = false) (hio : inlOf cs o = none) (hcn : cn + 1 < 2 ^ 30) : RC bo li mi sv (cn + 1) (addC cs i cn o) (fX1_addCall n (nI i) (nI o)) ∧ ∀ k, k ≠ 6 → (fX1_addCall n (nI i) (nI o)).1 k = n.1 k := by
  have h48 := W.n48
  obtain ⟨hv, hF, hL⟩ := add_lk W hi ho hb hio hcn
  have W' := W.add hi ho hb hio hcn
  unfold fX1_addCall
  simp only [jn]
  rw [hR.f6, rset_in (by omega) (by decide), rset_in (by omega) (by decide), rset_in (by omega) (by decide), nI_succ1]
  refine ⟨⟨hR.f0, hR.f1, hR.f2, hR.f3, rfl, fun j hj => ?_, fun j hj => ?_, fun j hj => ?_, fun u hu => ?_, fun b m hb8 hm8 => ?_, fun t m ht8 hm8 => ?_⟩, fun k hk => pk_un hk⟩
  · show upd (n.2 0) i (nI cn) j = _
    rw [num_addC, upd_if]
    by_cases hj2 : j = i
    · rw [if_pos hj2, if_pos hj2]; rfl
    · rw [if_neg hj2, if_neg hj2]; exact hR.2.2.2.2.2.1 j hj
  · show upd (n.2 1) i (nI o) j = _
    rw [outl_addC, upd_if]
    by_cases hj2 : j = i
    · rw [if_pos hj2, if_pos hj2]; rfl
    · rw [if_neg hj2, if_neg hj2]; exact hR.2.2.2.2.2.2.1 j hj
  · rw [hv]; exact hR.2.2.2.2.2.2.2.1 j hj
  · show upd (n.2 3) o (nI i) u = _
    rw [upd_if]
    by_cases huo : u = o
    · subst huo
      rw [if_pos rfl, (W'.inl (i := i) (o := u)).mpr (by rw [outl_addC, if_pos rfl])]; rfl
    · rw [if_neg huo]
      have : inlOf (addC cs i cn o) u = inlOf cs u := by
        apply opt_eq
        intro j
        rw [W'.inl, W.inl, outl_addC]
        by_cases hj : j = i
        · rw [if_pos hj]
          constructor
          · intro h; cases h; exact absurd rfl huo
          · intro h; rw [hj] at h; have := busy_of_out h; rw [hb] at this; cases this
        · rw [if_neg hj]
      rw [this]; exact hR.2.2.2.2.2.2.2.2.1 u hu
  · rw [hF]; exact hR.2.2.2.2.2.2.2.2.2.1 b m hb8 hm8
  · rw [hL]; exact hR.2.2.2.2.2.2.2.2.2.2 t m ht8 hm8
theorem del_setV {i : Nat} : delC (setV cs i none) i = delC cs i := by
  funext j
  unfold delC setV
  by_cases hj : j = i
  · rw [if_pos hj, if_pos hj]
  · rw [if_neg hj, if_neg hj, if_neg hj]
theorem c_del {n : OS} (hR : RC bo li mi sv cn cs n) (W : WF bo li mi sv cn cs) {i : Nat} (hi : i < 48) (hb : busy cs i = true) : RC bo li mi sv cn (delC cs i) (fX1_removeCall n (nI i)) ∧ (fX1_removeCall n (nI i)).1 = n.1 := by
  obtain ⟨hR1, h1⟩ := c_lift hR W hi
  have W1 := W.lift (i := i)
  have W' := W1.del (i := i)
  obtain ⟨o, ho⟩ := out_of_busy hb
  have ho48 := W.out48 ho
  have ho' : outl (setV cs i none) i = some o := by rw [outl_setV]; exact ho
  have hv : ∀ j, via (delC (setV cs i none) i) j = via (setV cs i none) j := by
    intro j
    rw [via_delC]
    by_cases hj : j = i
    · rw [if_pos hj, hj, via_setV_0]
    · rw [if_neg hj]
  obtain ⟨hF, hL⟩ := lk_congr W1 W' hv (fun j h => by
    rw [outl_delC, if_neg]
    intro hj
    rw [hj, via_setV_0] at h
    exact h rfl)
  rw [← del_setV]
  unfold fX1_removeCall
  simp only [jn]
  rw [hR1.r1 hi, ho', eN_some, rset_in ho48 (by decide), rset_in hi (by decide), rset_in hi (by decide)]
  refine ⟨⟨hR1.f0, hR1.f1, hR1.f2, hR1.f3, hR1.f6, fun j hj => ?_, fun j hj => ?_, fun j hj => ?_, fun u hu => ?_, fun b m hb8 hm8 => ?_, fun t m ht8 hm8 => ?_⟩, h1⟩
  · show upd ((fX1_liftCall n (nI i)).2 0) i (-6 : Int32) j = _
    rw [num_delC, upd_if]
    by_cases hj2 : j = i
    · rw [if_pos hj2, if_pos hj2]; rfl
    · rw [if_neg hj2, if_neg hj2]; exact hR1.2.2.2.2.2.1 j hj
  · show upd ((fX1_liftCall n (nI i)).2 1) i (-6 : Int32) j = _
    rw [outl_delC, upd_if]
    by_cases hj2 : j = i
    · rw [if_pos hj2, if_pos hj2]; rfl
    · rw [if_neg hj2, if_neg hj2]; exact hR1.2.2.2.2.2.2.1 j hj
  · rw [hv]; exact hR1.2.2.2.2.2.2.2.1 j hj
  · show upd ((fX1_liftCall n (nI i)).2 3) o (-6 : Int32) u = _
    rw [upd_if]
    by_cases huo : u = o
    · subst huo
      rw [if_pos rfl]
      have : inlOf (delC (setV cs i none) i) u = none := W'.inl_none.mpr (fun j h => by
        rw [outl_delC] at h
        by_cases hj : j = i
        · rw [if_pos hj] at h; cases h
        · rw [if_neg hj] at h
          exact hj (W1.outinj h ho'))
      rw [this]; rfl
    · rw [if_neg huo]
      have : inlOf (delC (setV cs i none) i) u = inlOf (setV cs i none) u := by
        apply opt_eq
        intro j
        rw [W'.inl, W1.inl, outl_delC]
        by_cases hj : j = i
        · rw [if_pos hj]
          constructor
          · intro h; cases h
          · intro h; rw [hj, ho'] at h; cases h; exact absurd rfl huo
        · rw [if_neg hj]
      rw [this]; exact hR1.2.2.2.2.2.2.2.2.1 u hu
  · rw [hF]; exact hR1.2.2.2.2.2.2.2.2.2.1 b m hb8 hm8
  · rw [hL]; exact hR1.2.2.2.2.2.2.2.2.2.2 t m ht8 hm8
/-! the model's block under the same changes -/
theorem RM.lay2 {B : Nat → Int32} (h : RM bo li mi sv cn cs B) {i : Nat} (hi : i < 48) (v : Option Nat) : RM bo li mi sv cn (setV cs i v) (upd B (10 + 3 * i + 2) (eN v (-1))) := by
  refine ⟨by rw [upd_n (by omega)]; exact h.b0, by rw [upd_n (by omega)]; exact h.b1, by rw [upd_n (by omega)]; exact h.b2, by rw [upd_n (by omega)]; exact h.b9, by rw [upd_n (by omega)]; exact h.b5, fun j hj => ?_, fun j o hj ho => ?_, fun j hj hb => ?_⟩
  · rw [upd_n (by omega), num_setV]; exact h.nm hj
  · rw [upd_n (by omega)]; rw [outl_setV] at ho; exact h.ou hj ho
  · rw [busy_setV] at hb
    by_cases hji : j = i
    · subst hji; rw [upd_s, via_setV_s hb]
    · rw [upd_n (by omega), via_setV_n hji]; exact h.vi hj hb
/-- a middle laid where no call is plays no part -/
theorem RM.lay2n {B : Nat → Int32} (h : RM bo li mi sv cn cs B) {i : Nat} {x : Int32} (hi : i < 48) (hb : busy cs i = false) : RM bo li mi sv cn cs (upd B (10 + 3 * i + 2) x) := by
  refine ⟨by rw [upd_n (by omega)]; exact h.b0, by rw [upd_n (by omega)]; exact h.b1, by rw [upd_n (by omega)]; exact h.b2, by rw [upd_n (by omega)]; exact h.b9, by rw [upd_n (by omega)]; exact h.b5, fun j hj => ?_, fun j o hj ho => ?_, fun j hj hbj => ?_⟩
  · rw [upd_n (by omega)]; exact h.nm hj
  · rw [upd_n (by omega)]; exact h.ou hj ho
  · by_cases hji : j = i
    · subst hji; rw [hb] at hbj; cases hbj
    · rw [upd_n (by omega)]; exact h.vi hj hbj
theorem RM.lay0 {B : Nat → Int32} (h : RM bo li mi sv cn cs B) {i : Nat} (hi : i < 48) : RM bo li mi sv cn (delC cs i) (upd B (10 + 3 * i) (-1 : Int32)) := by
  refine ⟨by rw [upd_n (by omega)]; exact h.b0, by rw [upd_n (by omega)]; exact h.b1, by rw [upd_n (by omega)]; exact h.b2, by rw [upd_n (by omega)]; exact h.b9, by rw [upd_n (by omega)]; exact h.b5, fun j hj => ?_, fun j o hj ho => ?_, fun j hj hb => ?_⟩
  · rw [num_delC]
    by_cases hji : j = i
    · subst hji; rw [upd_s, if_pos rfl]; rfl
    · rw [upd_n (by omega), if_neg hji]; exact h.nm hj
  · rw [upd_n (by omega)]
    rw [outl_delC] at ho
    by_cases hji : j = i
    · rw [if_pos hji] at ho; cases ho
    · rw [if_neg hji] at ho; exact h.ou hj ho
  · rw [upd_n (by omega), via_delC]
    rw [busy_delC] at hb
    by_cases hji : j = i
    · rw [if_pos hji] at hb; cases hb
    · rw [if_neg hji] at hb; rw [if_neg hji]; exact h.vi hj hb
theorem RM.put {B : Nat → Int32} (h : RM bo li mi sv cn cs B) {k : Nat} {x : Int32} (hk : k = 3 ∨ k = 4 ∨ k = 6 ∨ k = 7 ∨ k = 8) : RM bo li mi sv cn cs (upd B k x) := by
  refine ⟨by rw [upd_n (by omega)]; exact h.b0, by rw [upd_n (by omega)]; exact h.b1, by rw [upd_n (by omega)]; exact h.b2, by rw [upd_n (by omega)]; exact h.b9, by rw [upd_n (by omega)]; exact h.b5, fun j hj => ?_, fun j o hj ho => ?_, fun j hj hb => ?_⟩
  · rw [upd_n (by omega)]; exact h.nm hj
  · rw [upd_n (by omega)]; exact h.ou hj ho
  · rw [upd_n (by omega)]; exact h.vi hj hb
theorem RM.add {B : Nat → Int32} (h : RM bo li mi sv cn cs B) {i o : Nat} (hi : i < 48) : RM bo li mi sv (cn + 1) (addC cs i cn o) (upd (upd (upd (upd B (10 + 3 * i) (nI cn)) (10 + 3 * i + 1) (nI o)) (10 + 3 * i + 2) (-1 : Int32)) 5 (nI (cn + 1))) := by
  refine ⟨by rw [upd_n (by omega), upd_n (by omega), upd_n (by omega), upd_n (by omega)]; exact h.b0, by rw [upd_n (by omega), upd_n (by omega), upd_n (by omega), upd_n (by omega)]; exact h.b1, by rw [upd_n (by omega), upd_n (by omega), upd_n (by omega), upd_n (by omega)]; exact h.b2, by rw [upd_n (by omega), upd_n (by omega), upd_n (by omega), upd_n (by omega)]; exact h.b9, by rw [upd_s], fun j hj => ?_, fun j u hj hu => ?_, fun j hj hb => ?_⟩
  · rw [upd_n (by omega), upd_n (by omega), upd_n (by omega), num_addC]
    by_cases hji : j = i
    · subst hji; rw [upd_s, if_pos rfl]; rfl
    · rw [upd_n (by omega), if_neg hji]; exact h.nm hj
  · rw [upd_n (by omega), upd_n (by omega)]
    rw [outl_addC] at hu
    by_cases hji : j = i
    · rw [if_pos hji] at hu; cases hu; subst hji; rw [upd_s]
    · rw [if_neg hji] at hu; rw [upd_n (by omega), upd_n (by omega)]; exact h.ou hj hu
  · rw [upd_n (by omega), via_addC]
    rw [busy_addC] at hb
    by_cases hji : j = i
    · subst hji; rw [upd_s, if_pos rfl]; rfl
    · rw [if_neg hji] at hb; rw [upd_n (by omega), upd_n (by omega), upd_n (by omega), if_neg hji]; exact h.vi hj hb
end AD
