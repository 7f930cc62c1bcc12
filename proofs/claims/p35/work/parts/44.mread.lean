/-! what the model's block answers -/
def blk (g : OS) (bb : Nat) : Nat → Int32 := fun j => g.2 0 (bb + j)
theorem in_k {bb j : Nat} (hb : bb ≤ 924) (hj : j < 154) : inb (nI bb + nI j) 1078 = true := by
  rw [nI_add]; exact inb_nI (by omega) (by decide)
theorem in_0 {bb : Nat} (hb : bb ≤ 924) : inb (nI bb + (0 : Int32)) 1078 = true := in_k (j := 0) hb (by decide)
theorem in_1 {bb : Nat} (hb : bb ≤ 924) : inb (nI bb + (1 : Int32)) 1078 = true := in_k (j := 1) hb (by decide)
theorem in_2 {bb : Nat} (hb : bb ≤ 924) : inb (nI bb + (2 : Int32)) 1078 = true := in_k (j := 2) hb (by decide)
theorem in_3 {bb : Nat} (hb : bb ≤ 924) : inb (nI bb + (3 : Int32)) 1078 = true := in_k (j := 3) hb (by decide)
theorem in_4 {bb : Nat} (hb : bb ≤ 924) : inb (nI bb + (4 : Int32)) 1078 = true := in_k (j := 4) hb (by decide)
theorem in_5 {bb : Nat} (hb : bb ≤ 924) : inb (nI bb + (5 : Int32)) 1078 = true := in_k (j := 5) hb (by decide)
theorem in_6 {bb : Nat} (hb : bb ≤ 924) : inb (nI bb + (6 : Int32)) 1078 = true := in_k (j := 6) hb (by decide)
theorem in_7 {bb : Nat} (hb : bb ≤ 924) : inb (nI bb + (7 : Int32)) 1078 = true := in_k (j := 7) hb (by decide)
theorem in_8 {bb : Nat} (hb : bb ≤ 924) : inb (nI bb + (8 : Int32)) 1078 = true := in_k (j := 8) hb (by decide)
theorem in_9 {bb : Nat} (hb : bb ≤ 924) : inb (nI bb + (9 : Int32)) 1078 = true := in_k (j := 9) hb (by decide)
theorem cl_k {bb j : Nat} (hb : bb ≤ 924) (hj : j < 154) : (nI bb + nI j).toNatClampNeg = bb + j := by
  rw [nI_add, nI_clamp (by omega)]
theorem ix_of {bb i w : Nat} : ((nI bb + (10 : Int32)) + ((3 : Int32) * nI i)) + nI w = nI (bb + (10 + 3 * i + w)) := by
  rw [show (10 : Int32) = nI 10 from rfl, show (3 : Int32) = nI 3 from rfl, pk_mul, nI_add, nI_add, nI_add]
  congr 1
  omega
theorem m_of {g : OS} {bb i w : Nat} (hb : bb ≤ 924) (hi : i < 48) (hw : w < 3) : fX6_of g (nI bb) (nI i) (nI w) = some (blk g bb (10 + 3 * i + w)) := by
  unfold fX6_of
  rw [ix_of, if_pos (inb_nI (by omega) (by decide)), nI_clamp (by omega)]
  rfl
theorem m_of0 {g : OS} {bb i : Nat} (hb : bb ≤ 924) (hi : i < 48) : fX6_of g (nI bb) (nI i) (0 : Int32) = some (blk g bb (10 + 3 * i)) := m_of (w := 0) hb hi (by decide)
theorem m_of1 {g : OS} {bb i : Nat} (hb : bb ≤ 924) (hi : i < 48) : fX6_of g (nI bb) (nI i) (1 : Int32) = some (blk g bb (10 + 3 * i + 1)) := m_of (w := 1) hb hi (by decide)
theorem m_of2 {g : OS} {bb i : Nat} (hb : bb ≤ 924) (hi : i < 48) : fX6_of g (nI bb) (nI i) (2 : Int32) = some (blk g bb (10 + 3 * i + 2)) := m_of (w := 2) hb hi (by decide)
/-- the array s with one place of a block written -/
def putS (g : OS) (k : Nat) (v : Int32) : OS := setR g 0 (upd (g.2 0) k v)
theorem m_lay {g : OS} {bb i w : Nat} {v : Int32} (hb : bb ≤ 924) (hi : i < 48) (hw : w < 3) : fX6_lay g (nI bb) (nI i) (nI w) v = some (putS g (bb + (10 + 3 * i + w)) v) := by
  unfold fX6_lay jn
  rw [ix_of, if_pos (inb_nI (by omega) (by decide)), nI_clamp (by omega)]
  rfl
theorem m_lay0 {g : OS} {bb i : Nat} {v : Int32} (hb : bb ≤ 924) (hi : i < 48) : fX6_lay g (nI bb) (nI i) (0 : Int32) v = some (putS g (bb + (10 + 3 * i)) v) := m_lay (w := 0) hb hi (by decide)
theorem m_lay1 {g : OS} {bb i : Nat} {v : Int32} (hb : bb ≤ 924) (hi : i < 48) : fX6_lay g (nI bb) (nI i) (1 : Int32) v = some (putS g (bb + (10 + 3 * i + 1)) v) := m_lay (w := 1) hb hi (by decide)
theorem m_lay2 {g : OS} {bb i : Nat} {v : Int32} (hb : bb ≤ 924) (hi : i < 48) : fX6_lay g (nI bb) (nI i) (2 : Int32) v = some (putS g (bb + (10 + 3 * i + 2)) v) := m_lay (w := 2) hb hi (by decide)
theorem putS_1 (g : OS) (k : Nat) (v : Int32) : (putS g k v).1 = g.1 := rfl
theorem putS_r {g : OS} {k r : Nat} {v : Int32} (hr : r ≠ 0) : (putS g k v).2 r = g.2 r := by
  show (if r = 0 then _ else g.2 r) = _; rw [if_neg hr]
theorem putS_s (g : OS) (k : Nat) (v : Int32) : (putS g k v).2 0 = upd (g.2 0) k v := rfl
theorem blk_put {g : OS} {bb k : Nat} {v : Int32} : blk (putS g (bb + k) v) bb = upd (blk g bb) k v := by
  funext j
  show upd (g.2 0) (bb + k) v (bb + j) = upd (fun j => g.2 0 (bb + j)) k v j
  unfold upd
  by_cases h : j = k
  · rw [if_pos h, if_pos (by rw [h])]
  · rw [if_neg h, if_neg (by omega)]
theorem blk_other {g : OS} {bb cc k : Nat} {v : Int32} (h : ∀ j, j < 154 → cc + j ≠ bb + k) : ∀ j, j < 154 → blk (putS g (bb + k) v) cc j = blk g cc j := by
  intro j hj
  show upd (g.2 0) (bb + k) v (cc + j) = g.2 0 (cc + j)
  unfold upd
  rw [if_neg (h j hj)]
theorem sub1_toInt {N : Nat} (hN : N < 2 ^ 31) : (nI N - (1 : Int32)).toInt = (N : Int) - 1 := by
  by_cases h : N = 0
  · subst h; decide
  · have e : nI N - (1 : Int32) = nI (N - 1) := pk_sub (a := N) (b := 1) (by omega)
    rw [e, nI_toInt (by omega)]
    omega
section MR
variable {bo li mi sv cn : Nat} {cs : CS} {g : OS} {bb : Nat}
theorem RM.b0 {B : Nat → Int32} (h : RM bo li mi sv cn cs B) : B 0 = nI bo := h.1
theorem RM.b1 {B : Nat → Int32} (h : RM bo li mi sv cn cs B) : B 1 = nI li := h.2.1
theorem RM.b2 {B : Nat → Int32} (h : RM bo li mi sv cn cs B) : B 2 = nI mi := h.2.2.1
theorem RM.b9 {B : Nat → Int32} (h : RM bo li mi sv cn cs B) : B 9 = nI sv := h.2.2.2.1
theorem RM.b5 {B : Nat → Int32} (h : RM bo li mi sv cn cs B) : B 5 = nI cn := h.2.2.2.2.1
theorem RM.nm {B : Nat → Int32} (h : RM bo li mi sv cn cs B) {i : Nat} (hi : i < 48) : B (10 + 3 * i) = eN (num cs i) (-1) := h.2.2.2.2.2.1 i hi
theorem RM.ou {B : Nat → Int32} (h : RM bo li mi sv cn cs B) {i o : Nat} (hi : i < 48) (ho : outl cs i = some o) : B (10 + 3 * i + 1) = nI o := h.2.2.2.2.2.2.1 i o hi ho
theorem RM.vi {B : Nat → Int32} (h : RM bo li mi sv cn cs B) {i : Nat} (hi : i < 48) (hb : busy cs i = true) : B (10 + 3 * i + 2) = eN (via cs i) (-1) := h.2.2.2.2.2.2.2 i hi hb
theorem m_fld (hb : bb ≤ 924) {j : Nat} (hj : j < 10) : (g.2 0) (nI bb + nI j).toNatClampNeg = blk g bb j := by rw [cl_k hb (by omega)]; rfl
theorem m_lines (hM : RM bo li mi sv cn cs (blk g bb)) (hb : bb ≤ 924) : fX6_lines g (nI bb) = some (nI (bo * li)) := by
  unfold fX6_lines
  rw [show (0 : Int32) = nI 0 from rfl, show (1 : Int32) = nI 1 from rfl, if_pos (in_k hb (by decide)), if_pos (in_k hb (by decide)), m_fld hb (by decide), m_fld hb (by decide), hM.b0, hM.b1, pk_mul]
theorem in_of {N : Nat} (hN : N < 2 ^ 31) (x : Int32) : fX6_in x (0 : Int32) (nI N - (1 : Int32)) = (if x < 0 then (0 : Int32) else if nI N ≤ x then (0 : Int32) else (1 : Int32)) := by
  unfold fX6_in
  by_cases h0 : x < 0
  · rw [if_pos h0, if_pos h0]
  · rw [if_neg h0, if_neg h0]
    have e : nI N - (1 : Int32) < x ↔ nI N ≤ x := by
      rcases pk_ix x (n := N) hN with h | h | ⟨j, hj, e⟩
      · exact absurd h h0
      · refine ⟨fun _ => h, fun _ => ?_⟩
        rw [Int32.lt_iff_toInt_lt]
        rw [Int32.le_iff_toInt_le] at h
        have e2 : (nI N - (1 : Int32)).toInt = (N : Int) - 1 := sub1_toInt hN
        rw [nI_toInt hN] at h
        omega
      · subst e
        rw [Int32.lt_iff_toInt_lt, Int32.le_iff_toInt_le, nI_toInt hN, nI_toInt (by omega)]
        have e2 : (nI N - (1 : Int32)).toInt = (N : Int) - 1 := sub1_toInt hN
        rw [e2]
        omega
    by_cases h1 : nI N ≤ x
    · rw [if_pos (e.mpr h1), if_pos h1]
    · rw [if_neg (fun h => h1 (e.mp h)), if_neg h1]
theorem m_isLine (hM : RM bo li mi sv cn cs (blk g bb)) (hW : WF bo li mi sv cn cs) (hb : bb ≤ 924) (x : Int32) : fX6_isLine g (nI bb) x = some (if x < 0 then (0 : Int32) else if nI (bo * li) ≤ x then (0 : Int32) else (1 : Int32)) := by
  unfold fX6_isLine
  have := hW.n48
  rw [m_lines hM hb, Option.bind_some, in_of (by omega)]
theorem m_isMiddle (hM : RM bo li mi sv cn cs (blk g bb)) (hW : WF bo li mi sv cn cs) (hb : bb ≤ 924) (x : Int32) : fX6_isMiddle g (nI bb) x = some (if x < 0 then (0 : Int32) else if nI mi ≤ x then (0 : Int32) else (1 : Int32)) := by
  unfold fX6_isMiddle
  have := hW.mi8
  rw [show nI bb + (2 : Int32) = nI bb + nI 2 from rfl, if_pos (in_k hb (by decide)), m_fld hb (by decide), hM.b2, in_of (by omega)]
theorem m_isBoard (hM : RM bo li mi sv cn cs (blk g 0)) (hW : WF bo li mi sv cn cs) (x : Int32) : fX6_isBoard g x = some (if x < 0 then (0 : Int32) else if nI bo ≤ x then (0 : Int32) else (1 : Int32)) := by
  unfold fX6_isBoard
  have := hW.bo8
  have h0 : (g.2 0) (0 : Int32).toNatClampNeg = nI bo := hM.b0
  rw [if_pos (by decide), h0, in_of (by omega)]
theorem m_numeq (hM : RM bo li mi sv cn cs (blk g bb)) (hW : WF bo li mi sv cn cs) {i : Nat} (hi : i < 48) : (blk g bb (10 + 3 * i) = (-1 : Int32)) ↔ busy cs i = false := by
  rw [hM.nm hi, eN_eqd m1 (fun k hk => hW.num31 hk), busy_num]
end MR
section MR2
variable {bo li mi sv cn : Nat} {cs : CS} {g : OS} {bb : Nat}
theorem m_calls (hM : RM bo li mi sv cn cs (blk g bb)) (hW : WF bo li mi sv cn cs) (hb : bb ≤ 924) : fX6_calls g (nI bb) = some (nI (cnt (busy cs) 48)) := by
  unfold fX6_calls
  have hn := hW.n48
  have hx : cnt (busy cs) 48 = cnt (busy cs) (bo * li) := cnt_ext hn (fun i h1 h2 => by
    cases hbi : busy cs i with
    | false => rfl
    | true => have := hW.lt hbi; omega)
  rw [hx]
  have h := iloop (fun k i (a : Int32) => fX6_calls_4 g (nI bb) k a i) (bo * li) (fun i a => a = nI (cnt (busy cs) i)) (nI (cnt (busy cs) (bo * li))) ?_ ?_ FU 0 (0 : Int32) (by omega) (FU_big (by omega)) rfl
  · exact h
  · intro k i s hi hI
    subst hI
    refine Or.inl ⟨_, rfl, ?_⟩
    show fX6_calls_4 g (nI bb) (k + 1) _ _ = fX6_calls_4 g (nI bb) k _ _
    rw [fX6_calls_4_s, m_lines hM hb, Option.bind_some, if_neg (nI_ge hi (by omega)), m_of0 hb (by omega), Option.bind_some, nI_succ1]
    have hc : cnt (busy cs) (i + 1) = cnt (busy cs) i + (if busy cs i = true then 1 else 0) := rfl
    by_cases hbi : busy cs i = true
    · rw [if_neg (by rw [m_numeq hM hW (by omega)]; simp [hbi]), hc, if_pos hbi, nI_succ1]
    · rw [if_pos ((m_numeq hM hW (by omega)).mpr (by simpa using hbi)), hc, if_neg hbi, nI_add0]; rfl
  · intro k s hI
    subst hI
    show fX6_calls_4 g (nI bb) (k + 1) _ _ = _
    rw [fX6_calls_4_s, m_lines hM hb, Option.bind_some, if_pos (nI_le (Nat.le_refl _) (by omega))]
/-- a search over the lines: F answers -1 at the end, goes on at a line that isn't p, and answers the line at one that is -/
theorem m_find {F : Nat → Int32 → Option Int32} {p : Nat → Bool} {N : Nat} (hN : N ≤ 48) (hp : ∀ i, N ≤ i → i < 48 → p i = false)
    (he : ∀ k, F (k + 1) (nI N) = some (-1 : Int32)) (hs : ∀ k i, i < N → F (k + 1) (nI i) = (if p i = true then some (nI i) else F k (nI (i + 1)))) : F FU (0 : Int32) = some (eN (findI p 48) (-1)) := by
  rw [findI_ext hN hp]
  have h := iloop (fun k i (_ : Unit) => F k i) N (fun i _ => ∀ j, j < i → p j = false) (eN (findI p N) (-1)) ?_ ?_ FU 0 () (by omega) (FU_big (by omega)) (fun j hj => absurd hj (by omega))
  · exact h
  · intro k i s hi hI
    show (∃ s', _ ∧ F (k + 1) (nI i) = F k (nI (i + 1))) ∨ F (k + 1) (nI i) = _
    rw [hs k i hi]
    by_cases hpi : p i = true
    · right
      rw [if_pos hpi]
      have : findI p N = some i := by
        cases hf : findI p N with
        | none => have := findI_none.mp hf i hi; rw [hpi] at this; cases this
        | some j =>
          obtain ⟨h1, h2, h3⟩ := findI_some hf
          rcases Nat.lt_trichotomy i j with hlt | he | hlt
          · have := h3 i hlt; rw [hpi] at this; cases this
          · rw [he]
          · have := hI j hlt; rw [h2] at this; cases this
      rw [this]; rfl
    · left
      refine ⟨(), fun j hj => ?_, by rw [if_neg hpi]⟩
      by_cases hji : j = i
      · rw [hji]; simpa using hpi
      · exact hI j (by omega)
  · intro k s hI
    show F (k + 1) (nI N) = _
    rw [he k, findI_none.mpr hI]; rfl
theorem m_inletTo (hM : RM bo li mi sv cn cs (blk g bb)) (hW : WF bo li mi sv cn cs) (hb : bb ≤ 924) {o : Nat} (ho : o < 2 ^ 31) : fX6_inletTo g (nI bb) (nI o) = some (eN (inlOf cs o) (-1)) := by
  unfold fX6_inletTo inlOf
  have hn := hW.n48
  refine m_find (F := fX6_inletTo_2 g (nI bb) (nI o)) hn (fun i h1 h2 => ?_) (fun k => ?_) (fun k i hi => ?_)
  · cases hq : outl cs i with
    | none => rfl
    | some z => have := hW.lt (busy_of_out hq); omega
  · rw [fX6_inletTo_2_s, m_lines hM hb, Option.bind_some, if_pos (nI_le (Nat.le_refl _) (by omega))]
  · rw [fX6_inletTo_2_s, m_lines hM hb, Option.bind_some, if_neg (nI_ge hi (by omega)), m_of0 hb (by omega), Option.bind_some, nI_succ1]
    by_cases hbi : busy cs i = true
    · rw [if_neg (by rw [m_numeq hM hW (by omega)]; simp [hbi]), m_of1 hb (by omega), Option.bind_some]
      obtain ⟨z, hz⟩ := out_of_busy hbi
      rw [hM.ou (by omega) hz, hz]
      by_cases hzo : z = o
      · subst hzo; rw [if_pos rfl, if_pos (by simp)]
      · rw [if_neg (by rw [nI_eq (by have := hW.out48 hz; omega) ho]; exact hzo), if_neg (by simp [hzo])]
    · rw [if_pos ((m_numeq hM hW (by omega)).mpr (by simpa using hbi)), if_neg]
      have : outl cs i = none := busy_out.mpr (by simpa using hbi)
      simp [this]
theorem m_li (hM : RM bo li mi sv cn cs (blk g bb)) (hb : bb ≤ 924) : ((g.2 0) (nI bb + (1 : Int32)).toNatClampNeg) = nI li := by
  rw [show nI bb + (1 : Int32) = nI bb + nI 1 from rfl, m_fld hb (by decide), hM.b1]
theorem m_onFirst (hM : RM bo li mi sv cn cs (blk g bb)) (hW : WF bo li mi sv cn cs) (hb : bb ≤ 924) {b m : Nat} (hbd : b < 2 ^ 31) (hm : m < 2 ^ 31) : fX6_onFirst g (nI bb) (nI b) (nI m) = some (eN (lkF li cs b m) (-1)) := by
  unfold fX6_onFirst lkF
  have hn := hW.n48
  have h1 := hW.li1
  have h6 := hW.li6
  refine m_find (F := fX6_onFirst_3 g (nI bb) (nI b) (nI m)) hn (fun i h1 h2 => ?_) (fun k => ?_) (fun k i hi => ?_)
  · cases hq : onFp li cs b m i with
    | false => rfl
    | true => have := hW.lt (busy_of_via (onFp_iff.mp hq).1); omega
  · rw [fX6_onFirst_3_s, m_lines hM hb, Option.bind_some, if_pos (nI_le (Nat.le_refl _) (by omega))]
  · rw [fX6_onFirst_3_s, m_lines hM hb, Option.bind_some, if_neg (nI_ge hi (by omega)), m_of0 hb (by omega), Option.bind_some, nI_succ1]
    by_cases hbi : busy cs i = true
    · rw [if_neg (by rw [m_numeq hM hW (by omega)]; simp [hbi]), m_of2 hb (by omega), Option.bind_some, hM.vi (by omega) hbi]
      by_cases hv : via cs i = some m
      · rw [if_pos ((eN_eqn m1 hm (fun k hk => by have := hW.via8 hk; omega)).mpr hv), if_pos (in_1 hb), m_li hM hb, if_pos (nI_ne0 (by omega) (by omega)), pk_div (by omega) (by omega) (by omega)]
        by_cases hd : i / li = b
        · rw [if_pos (by rw [hd]), if_pos (onFp_iff.mpr ⟨hv, hd⟩)]
        · rw [if_neg (by rw [nI_eq (by have := Nat.div_le_self i li; omega) hbd]; exact hd), if_neg (by rw [onFp_iff]; exact fun h => hd h.2)]
      · rw [if_neg (by rw [eN_eqn m1 hm (fun k hk => by have := hW.via8 hk; omega)]; exact hv), if_neg (by rw [onFp_iff]; exact fun h => hv h.1)]
    · rw [if_pos ((m_numeq hM hW (by omega)).mpr (by simpa using hbi)), if_neg]
      rw [onFp_iff]
      exact fun h => hbi (busy_of_via h.1)
theorem m_onLast (hM : RM bo li mi sv cn cs (blk g bb)) (hW : WF bo li mi sv cn cs) (hb : bb ≤ 924) {t m : Nat} (ht : t < 2 ^ 31) (hm : m < 2 ^ 31) : fX6_onLast g (nI bb) (nI m) (nI t) = some (eN (lkL li cs m t) (-1)) := by
  unfold fX6_onLast lkL
  have hn := hW.n48
  have h1 := hW.li1
  have h6 := hW.li6
  refine m_find (F := fX6_onLast_3 g (nI bb) (nI m) (nI t)) hn (fun i h1 h2 => ?_) (fun k => ?_) (fun k i hi => ?_)
  · cases hq : onLp li cs m t i with
    | false => rfl
    | true => have := hW.lt (busy_of_via (onLp_iff.mp hq).1); omega
  · rw [fX6_onLast_3_s, m_lines hM hb, Option.bind_some, if_pos (nI_le (Nat.le_refl _) (by omega))]
  · rw [fX6_onLast_3_s, m_lines hM hb, Option.bind_some, if_neg (nI_ge hi (by omega)), m_of0 hb (by omega), Option.bind_some, nI_succ1]
    by_cases hbi : busy cs i = true
    · rw [if_neg (by rw [m_numeq hM hW (by omega)]; simp [hbi]), m_of2 hb (by omega), Option.bind_some, hM.vi (by omega) hbi]
      by_cases hv : via cs i = some m
      · obtain ⟨z, hz⟩ := out_of_busy hbi
        have hz48 := hW.out48 hz
        rw [if_pos ((eN_eqn m1 hm (fun k hk => by have := hW.via8 hk; omega)).mpr hv), m_of1 hb (by omega), Option.bind_some, if_pos (in_1 hb), m_li hM hb, if_pos (nI_ne0 (by omega) (by omega)), hM.ou (by omega) hz, pk_div (by omega) (by omega) (by omega)]
        by_cases hd : z / li = t
        · rw [if_pos (by rw [hd]), if_pos (onLp_iff.mpr ⟨hv, z, hz, hd⟩)]
        · rw [if_neg (by rw [nI_eq (by have := Nat.div_le_self z li; omega) ht]; exact hd), if_neg (by
            rw [onLp_iff]
            rintro ⟨-, z', hz', hd'⟩
            rw [hz] at hz'; cases hz'
            exact hd hd')]
      · rw [if_neg (by rw [eN_eqn m1 hm (fun k hk => by have := hW.via8 hk; omega)]; exact hv), if_neg (by rw [onLp_iff]; exact fun h => hv h.1)]
    · rw [if_pos ((m_numeq hM hW (by omega)).mpr (by simpa using hbi)), if_neg]
      rw [onLp_iff]
      exact fun h => hbi (busy_of_via h.1)
theorem m_load (hM : RM bo li mi sv cn cs (blk g bb)) (hW : WF bo li mi sv cn cs) (hb : bb ≤ 924) {m : Nat} (hm : m < 2 ^ 31) : fX6_loadOf g (nI bb) (nI m) = some (nI (cnt (fun i => via cs i == some m) 48)) := by
  unfold fX6_loadOf
  have hn := hW.n48
  rw [cnt_ext hn (fun i h1 h2 => by
    cases hq : via cs i with
    | none => rfl
    | some z => have := hW.lt (busy_of_via hq); omega)]
  have h := iloop (fun k i (a : Int32) => fX6_loadOf_5 g (nI bb) (nI m) k a i) (bo * li) (fun i a => a = nI (cnt (fun i => via cs i == some m) i)) (nI (cnt (fun i => via cs i == some m) (bo * li))) ?_ ?_ FU 0 (0 : Int32) (by omega) (FU_big (by omega)) rfl
  · exact h
  · intro k i s hi hI
    subst hI
    refine Or.inl ⟨_, rfl, ?_⟩
    show fX6_loadOf_5 g (nI bb) (nI m) (k + 1) _ _ = fX6_loadOf_5 g (nI bb) (nI m) k _ _
    rw [fX6_loadOf_5_s, m_lines hM hb, Option.bind_some, if_neg (nI_ge hi (by omega)), m_of0 hb (by omega), Option.bind_some, nI_succ1]
    have hc : cnt (fun i => via cs i == some m) (i + 1) = cnt (fun i => via cs i == some m) i + (if (via cs i == some m) = true then 1 else 0) := rfl
    by_cases hbi : busy cs i = true
    · rw [if_neg (by rw [m_numeq hM hW (by omega)]; simp [hbi]), m_of2 hb (by omega), Option.bind_some, hM.vi (by omega) hbi]
      by_cases hv : via cs i = some m
      · rw [if_pos ((eN_eqn m1 hm (fun k hk => by have := hW.via8 hk; omega)).mpr hv), hc, if_pos (by simp [hv]), nI_succ1]
      · rw [if_neg (by rw [eN_eqn m1 hm (fun k hk => by have := hW.via8 hk; omega)]; exact hv), hc, if_neg (by simp [hv]), nI_add0]; rfl
    · have hv : via cs i = none := by
        cases hq : via cs i with
        | none => rfl
        | some z => exact absurd (busy_of_via hq) hbi
      rw [if_pos ((m_numeq hM hW (by omega)).mpr (by simpa using hbi)), hc, if_neg (by simp [hv]), nI_add0]; rfl
  · intro k s hI
    subst hI
    show fX6_loadOf_5 g (nI bb) (nI m) (k + 1) _ _ = _
    rw [fX6_loadOf_5_s, m_lines hM hb, Option.bind_some, if_pos (nI_le (Nat.le_refl _) (by omega))]
end MR2
