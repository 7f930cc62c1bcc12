/-! a way is taken: the class's tables, the model's block -/
section ST
variable {bo li mi sv cn : Nat} {cs : CS} {p q t x o : Nat}
theorem RC.set9 {n : OS} {v : Int32} (h : RC bo li mi sv cn cs n) : RC bo li mi sv cn cs (setF n 9 v) := h
theorem pos_lt (W : WF bo li mi sv cn cs) (hpq : p ≠ q) (hq : lkL li cs q t = none) {j l : Nat} (h : pos li cs p q t j = some l) : l < clen li cs p q t := by
  obtain ⟨-, h2, -⟩ := clen_spec W hpq hq
  have hc := (pos_iff W hpq hq).mp h
  rcases Nat.lt_or_ge l (clen li cs p q t) with hl | hl
  · exact hl
  · obtain ⟨i', hi'⟩ := chn_down (k := clen li cs p q t) (d := l - clen li cs p q t) (by rw [Nat.add_sub_cancel' hl]; exact hc)
    rw [h2] at hi'; cases hi'
theorem lif_next (W : WF bo li mi sv cn cs) (hpq : p ≠ q) (hq : lkL li cs q t = none) {k i : Nat} (hi : chn li cs p q t k = some i) : setV (mapV cs (lifF li cs p q t k)) i none = mapV cs (lifF li cs p q t (k + 1)) := by
  refine setV_mapV ?_ (fun j hj => ?_)
  · rw [lifF_s ((pos_iff W hpq hq).mpr hi), if_pos (by omega)]
  · cases hp : pos li cs p q t j with
    | none => rw [lifF_n hp, lifF_n hp]
    | some l =>
      have hl : l ≠ k := fun e => by
        subst e
        rw [(pos_iff W hpq hq).mp hp] at hi; cases hi; exact hj rfl
      rw [lifF_s hp, lifF_s hp]
      by_cases h : l < k
      · rw [if_pos h, if_pos (by omega)]
      · rw [if_neg h, if_neg (by omega)]
theorem car_next (W : WF bo li mi sv cn cs) (hpq : p ≠ q) (hq : lkL li cs q t = none) {k i : Nat} (hi : chn li cs p q t k = some i) : setV (mapV cs (carF li cs p q t k)) i (some (pq q p k)) = mapV cs (carF li cs p q t (k + 1)) := by
  refine setV_mapV ?_ (fun j hj => ?_)
  · rw [carF_s ((pos_iff W hpq hq).mpr hi), if_pos (by omega)]
  · cases hp : pos li cs p q t j with
    | none => rw [carF_n hp, carF_n hp]
    | some l =>
      have hl : l ≠ k := fun e => by
        subst e
        rw [(pos_iff W hpq hq).mp hp] at hi; cases hi; exact hj rfl
      rw [carF_s hp, carF_s hp]
      by_cases h : l < k
      · rw [if_pos h, if_pos (by omega)]
      · rw [if_neg h, if_neg (by omega)]
theorem flp_next (W : WF bo li mi sv cn cs) (hpq : p ≠ q) (hq : lkL li cs q t = none) {k i : Nat} (hi : chn li cs p q t k = some i) : setV (mapV cs (flpF li cs p q t k)) i (some (pq q p k)) = mapV cs (flpF li cs p q t (k + 1)) := by
  refine setV_mapV ?_ (fun j hj => ?_)
  · rw [flpF_s ((pos_iff W hpq hq).mpr hi), if_pos (by omega)]
  · cases hp : pos li cs p q t j with
    | none => rw [flpF_n hp, flpF_n hp]
    | some l =>
      have hl : l ≠ k := fun e => by
        subst e
        rw [(pos_iff W hpq hq).mp hp] at hi; cases hi; exact hj rfl
      rw [flpF_s hp, flpF_s hp]
      by_cases h : l < k
      · rw [if_pos h, if_pos (by omega)]
      · rw [if_neg h, if_neg (by omega)]
theorem lif_car (W : WF bo li mi sv cn cs) (hpq : p ≠ q) (hq : lkL li cs q t = none) : mapV cs (lifF li cs p q t (clen li cs p q t)) = mapV cs (carF li cs p q t 0) := by
  refine mapV_congr (fun j => ?_)
  cases hp : pos li cs p q t j with
  | none => rw [lifF_n hp, carF_n hp]
  | some l => rw [lifF_s hp, carF_s hp, if_pos (pos_lt W hpq hq hp), if_neg (by omega)]
theorem car_flip (W : WF bo li mi sv cn cs) (hpq : p ≠ q) (hq : lkL li cs q t = none) : mapV cs (carF li cs p q t (clen li cs p q t)) = flip li cs p q t := by
  unfold flip
  refine mapV_congr (fun j => ?_)
  cases hp : pos li cs p q t j with
  | none => rw [carF_n hp, flpF_n hp]
  | some l => rw [carF_s hp, flpF_s hp, if_pos (pos_lt W hpq hq hp), if_pos (chn_lt16 W hpq hq ((pos_iff W hpq hq).mp hp))]
theorem flp_flip (W : WF bo li mi sv cn cs) (hpq : p ≠ q) (hq : lkL li cs q t = none) : mapV cs (flpF li cs p q t (clen li cs p q t)) = flip li cs p q t := by
  unfold flip
  refine mapV_congr (fun j => ?_)
  cases hp : pos li cs p q t j with
  | none => rw [flpF_n hp, flpF_n hp]
  | some l => rw [flpF_s hp, flpF_s hp, if_pos (pos_lt W hpq hq hp), if_pos (chn_lt16 W hpq hq ((pos_iff W hpq hq).mp hp))]
theorem WF.lifK (W : WF bo li mi sv cn cs) (hpq : p ≠ q) (hq : lkL li cs q t = none) (k : Nat) : WF bo li mi sv cn (mapV cs (lifF li cs p q t k)) := by
  refine W.mono num_mapV outl_mapV (fun j m h => ?_)
  cases hp : pos li cs p q t j with
  | none => rw [via_mapV_n (lifF_n hp)] at h; exact h
  | some l =>
    have hb := busy_of_via (chn_via W ((pos_iff W hpq hq).mp hp))
    by_cases hl : l < k
    · rw [via_mapV_s (v := none) (by rw [lifF_s hp, if_pos hl]) hb] at h; cases h
    · rw [via_mapV_n (by rw [lifF_s hp, if_neg hl])] at h; exact h
theorem WF.carK (W : WF bo li mi sv cn cs) (hpq : p ≠ q) (hq : lkL li cs q t = none) (hx : via cs x = none) (WX : WF bo li mi sv cn (setV (flip li cs p q t) x (some p))) (k : Nat) : WF bo li mi sv cn (mapV cs (carF li cs p q t k)) := by
  refine WX.mono (fun j => by rw [num_mapV, num_setV]; exact (num_mapV j).symm) (fun j => by rw [outl_mapV, outl_setV]; exact (outl_mapV j).symm) (fun j m h => ?_)
  cases hp : pos li cs p q t j with
  | none =>
    rw [via_mapV_n (carF_n hp)] at h
    have hj : j ≠ x := fun e => by rw [e, hx] at h; cases h
    rw [via_setV_n hj, via_flip_out hp]; exact h
  | some l =>
    have hc := (pos_iff W hpq hq).mp hp
    have hv := chn_via W hc
    have hb := busy_of_via hv
    have hj : j ≠ x := fun e => by rw [e, hx] at hv; cases hv
    by_cases hl : l < k
    · rw [via_mapV_s (v := some (pq q p l)) (by rw [carF_s hp, if_pos hl]) hb] at h
      rw [via_setV_n hj, via_flip_in W hpq hq hc]; exact h
    · rw [via_mapV_s (v := none) (by rw [carF_s hp, if_neg hl]) hb] at h; cases h
theorem c_settle {n r : OS} (hR : RC bo li mi sv cn cs n) (W : WF bo li mi sv cn cs) (hpq : p ≠ q) (hq : lkL li cs q t = none) (hx : via cs x = none) (hbx : busy cs x = true) (WX : WF bo li mi sv cn (setV (flip li cs p q t) x (some p))) (e1 : r.1 1 = nI (clen li cs p q t)) (e2 : r.1 2 = nI p) (e3 : r.1 3 = nI q) (hH : HC (r.2 0) li cs p q t (clen li cs p q t)) :
    ∃ n', fX3_settle r n (nI x) (nI p) = some n' ∧ RC bo li mi sv cn (setV (flip li cs p q t) x (some p)) n' ∧ n'.1 = upd n.1 9 (n.1 9 + nI (clen li cs p q t)) := by
  obtain ⟨hc16, hce, hcs⟩ := clen_spec W hpq hq
  have hx48 := W.lt48 hbx
  obtain ⟨c, hcc⟩ : ∃ c, c = clen li cs p q t := ⟨_, rfl⟩
  have hchain : ∀ k i, k < c → chn li cs p q t k = some i → rget (r.2 0) 16 (nI k) = nI i := by
    intro k i hk hi
    rw [rget_in (by omega) (by decide)]
    exact hH k i (by omega) hi
  -- calls come back
  have second : ∀ (d k fu : Nat) (m : OS), c - k = d → k ≤ c → d < fu → RC bo li mi sv cn (mapV cs (carF li cs p q t k)) m → m.1 = n.1 → ∃ n', fX3_settle_34 r (nI x) (nI p) fu (nI k) m = some n' ∧ RC bo li mi sv cn (setV (flip li cs p q t) x (some p)) n' ∧ n'.1 = upd n.1 9 (n.1 9 + nI c) := by
    intro d
    induction d with
    | zero =>
      intro k fu m hd hk hfu hm hf
      obtain ⟨fu, rfl⟩ : ∃ f, fu = f + 1 := ⟨fu - 1, by omega⟩
      have hkc : k = c := by omega
      rw [fX3_settle_34_s, e1, ← hcc, if_pos (nI_le (by omega) (by omega))]
      simp only [jn]
      rw [hkc, hcc, car_flip W hpq hq] at hm
      obtain ⟨g1, g2⟩ := c_carry (i := x) (v := p) (n := setF m 9 (m.1 9 + nI c)) hm.set9 WX (by
        have hxn : pos li cs p q t x = none := (pos_none W hpq hq).mpr (fun l h => by
          have := chn_via W h; rw [hx] at this; cases this)
        rw [via_flip_out hxn]; exact hx) (by unfold flip; rw [busy_mapV]; exact hbx) hx48
      refine ⟨_, rfl, g1, ?_⟩
      rw [g2]
      show upd m.1 9 (m.1 9 + nI c) = _
      rw [hf]
    | succ d ih =>
      intro k fu m hd hk hfu hm hf
      obtain ⟨fu, rfl⟩ : ∃ f, fu = f + 1 := ⟨fu - 1, by omega⟩
      obtain ⟨i, hi⟩ := hcs k (by omega)
      have hi48 := chn_48 W hi
      have hbi := busy_of_via (chn_via W hi)
      rw [fX3_settle_34_s, e1, ← hcc, if_neg (nI_ge (by omega) (by omega))]
      simp only [jn]
      rw [par2 (by omega), hchain k i (by omega) hi, e2, e3, nI_succ1]
      have hv6 : (if nI (k % 2) = (0 : Int32) then nI q else nI p) = nI (pq q p k) := by
        rcases mod2 k with h | h
        · rw [h, pq_even h]; rfl
        · rw [h, pq_odd h]; rfl
      rw [hv6]
      have hnx := car_next W hpq hq hi
      have WK := W.carK hpq hq hx WX (k + 1)
      rw [← hnx] at WK
      obtain ⟨g1, g2⟩ := c_carry (i := i) (v := pq q p k) hm WK (by
        rw [via_mapV_s (v := none) (by rw [carF_s ((pos_iff W hpq hq).mpr hi), if_neg (by omega)]) hbi]) (by rw [busy_mapV]; exact hbi) hi48
      rw [hnx] at g1
      exact ih (k + 1) fu _ (by omega) (by omega) (by omega) g1 (g2.trans hf)
  -- calls go off their links
  have first : ∀ (d k fu : Nat) (m : OS), c - k = d → k ≤ c → d < fu → RC bo li mi sv cn (mapV cs (lifF li cs p q t k)) m → m.1 = n.1 → ∃ n', fX3_settle_3 r (nI x) (nI p) fu (nI k) m = some n' ∧ RC bo li mi sv cn (setV (flip li cs p q t) x (some p)) n' ∧ n'.1 = upd n.1 9 (n.1 9 + nI c) := by
    intro d
    induction d with
    | zero =>
      intro k fu m hd hk hfu hm hf
      obtain ⟨fu, rfl⟩ : ∃ f, fu = f + 1 := ⟨fu - 1, by omega⟩
      have hkc : k = c := by omega
      rw [fX3_settle_3_s, e1, ← hcc, if_pos (nI_le (by omega) (by omega))]
      rw [hkc, hcc, lif_car W hpq hq] at hm
      exact second c 0 FU m (by omega) (by omega) (FU_big (by omega)) hm hf
    | succ d ih =>
      intro k fu m hd hk hfu hm hf
      obtain ⟨fu, rfl⟩ : ∃ f, fu = f + 1 := ⟨fu - 1, by omega⟩
      obtain ⟨i, hi⟩ := hcs k (by omega)
      rw [fX3_settle_3_s, e1, ← hcc, if_neg (nI_ge (by omega) (by omega))]
      simp only [jn]
      rw [hchain k i (by omega) hi, nI_succ1]
      obtain ⟨g1, g2⟩ := c_lift hm (W.lifK hpq hq k) (chn_48 W hi)
      rw [lif_next W hpq hq hi] at g1
      exact ih (k + 1) fu _ (by omega) (by omega) (by omega) g1 (g2.trans hf)
  unfold fX3_settle
  rw [← hcc]
  refine first c 0 FU n (by omega) (by omega) (FU_big (by omega)) ?_ rfl
  rw [mapV_id (fun j => ?_)]
  · exact hR
  · cases hp : pos li cs p q t j with
    | none => rw [lifF_n hp]
    | some l => rw [lifF_s hp, if_neg (by omega)]
theorem c_settle0 {n r : OS} {m : Nat} (hR : RC bo li mi sv cn cs n) (WX : WF bo li mi sv cn (setV cs x (some m))) (hx : via cs x = none) (hbx : busy cs x = true) (e1 : r.1 1 = (0 : Int32)) :
    ∃ n', fX3_settle r n (nI x) (nI m) = some n' ∧ RC bo li mi sv cn (setV cs x (some m)) n' ∧ n'.1 = upd n.1 9 (n.1 9 + (0 : Int32)) := by
  have W := WX.unset hx
  have hx48 := W.lt48 hbx
  unfold fX3_settle
  rw [show FU = 999999 + 1 from rfl, fX3_settle_3_s, e1, if_pos (by decide), show FU = 999999 + 1 from rfl, fX3_settle_34_s, e1, if_pos (by decide)]
  simp only [jn]
  obtain ⟨g1, g2⟩ := c_carry (i := x) (v := m) (n := setF n 9 (n.1 9 + (0 : Int32))) hR.set9 WX hx hbx hx48
  exact ⟨_, rfl, g1, g2⟩
end ST
