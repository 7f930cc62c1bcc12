/-! calls lie on their links and nowhere else: the law's holds -/
section HO
variable {K bo li mi sv cn : Nat} {cs : CS} {n : OS} {B : Nat → Int32} {kx x : OS} {hi : HS}
theorem v_first (h : VW K bo li mi sv cn cs n B) {b m : Nat} (hb : b < bo) (hm : m < mi) : fX5_onFirstLink kx n (nI b) (nI m) = rget (n.2 0) 48 (eN (lkF li cs b m) (-6)) := by
  have h8 := h.W.bo8
  have hm8 := h.W.mi8
  unfold fX5_onFirstLink
  rw [c_isBoard h.R, if_neg (nI_pos (by omega)), if_neg (nI_ge hb (by omega)), if_neg ne10, c_isMiddle h.R, if_neg (nI_pos (by omega)), if_neg (nI_ge hm (by omega)), if_neg ne10, h.R.r4 (by omega) (by omega)]
theorem v_last (h : VW K bo li mi sv cn cs n B) {m t : Nat} (hm : m < mi) (ht : t < bo) : fX5_onLastLink kx n (nI m) (nI t) = rget (n.2 0) 48 (eN (lkL li cs m t) (-6)) := by
  have h8 := h.W.bo8
  have hm8 := h.W.mi8
  unfold fX5_onLastLink
  rw [c_isMiddle h.R, if_neg (nI_pos (by omega)), if_neg (nI_ge hm (by omega)), if_neg ne10, c_isBoard h.R, if_neg (nI_pos (by omega)), if_neg (nI_ge ht (by omega)), if_neg ne10, h.R.r5 (by omega) (by omega)]
theorem v_firstN (h : VW K bo li mi sv cn cs n B) {b m : Nat} (hb : b < bo) (hm : m < mi) (hl : lkF li cs b m = none) : fX5_onFirstLink kx n (nI b) (nI m) = (-6 : Int32) := by
  rw [v_first h hb hm, hl, eN_none, rget_neg (by decide)]
theorem v_firstS (h : VW K bo li mi sv cn cs n B) {b m i c : Nat} (hb : b < bo) (hm : m < mi) (hl : lkF li cs b m = some i) (hc : num cs i = some c) : fX5_onFirstLink kx n (nI b) (nI m) = nI c := by
  have hi48 := findI_lt hl
  rw [v_first h hb hm, hl, eN_some, h.R.r0 hi48, hc, eN_some]
theorem v_lastN (h : VW K bo li mi sv cn cs n B) {m t : Nat} (hm : m < mi) (ht : t < bo) (hl : lkL li cs m t = none) : fX5_onLastLink kx n (nI m) (nI t) = (-6 : Int32) := by
  rw [v_last h hm ht, hl, eN_none, rget_neg (by decide)]
theorem v_lastS (h : VW K bo li mi sv cn cs n B) {m t i c : Nat} (hm : m < mi) (ht : t < bo) (hl : lkL li cs m t = some i) (hc : num cs i = some c) : fX5_onLastLink kx n (nI m) (nI t) = nI c := by
  have hi48 := findI_lt hl
  rw [v_last h hm ht, hl, eN_some, h.R.r0 hi48, hc, eN_some]
theorem v_load (h : VW K bo li mi sv cn cs n B) {m : Nat} (hm : m < mi) : fX5_load kx n (nI m) = some (nI (ldc cs m)) := by
  have hm8 := h.W.mi8
  unfold fX5_load
  rw [c_isMiddle h.R, if_neg (nI_pos (by omega)), if_neg (nI_ge hm (by omega)), if_neg ne10, c_load h.R h.W (by omega), Option.bind_some, load_eq h.W]
  rfl
theorem v_ff (h : VW K bo li mi sv cn cs n B) {b : Nat} (hb : b < bo) : fX5_freeForFirst kx n (nI b) = some (nI (frF li mi sv cs b)) := by
  have h8 := h.W.bo8
  unfold fX5_freeForFirst
  rw [c_isBoard h.R, if_neg (nI_pos (by omega)), if_neg (nI_ge hb (by omega)), if_neg ne10, v_frF h (by omega), Option.bind_some]
theorem v_fl (h : VW K bo li mi sv cn cs n B) {b : Nat} (hb : b < bo) : fX5_freeForLast kx n (nI b) = some (nI (frL li mi sv cs b)) := by
  have h8 := h.W.bo8
  unfold fX5_freeForLast
  rw [c_isBoard h.R, if_neg (nI_pos (by omega)), if_neg (nI_ge hb (by omega)), if_neg ne10, v_frL h (by omega), Option.bind_some]
theorem v_least (h : VW K bo li mi sv cn cs n B) : fX5_leastMiddles kx n = some (nI (lst li cs bo)) := by
  unfold fX5_leastMiddles
  rw [c_least h.R h.W, Option.bind_some]
theorem v_bits {w : Nat} (hw : w < 256) : fL_bits (nI w) = some (nI (cnt w.testBit 8)) := by
  unfold fL_bits
  have h := iloop (fun k i (a : Int32) => fL_bits_4 (nI w) k a i) 8 (fun i a => a = nI (cnt w.testBit i)) (nI (cnt w.testBit 8)) ?_ ?_ FU 0 (0 : Int32) (by omega) (FU_big (by omega)) rfl
  · exact h
  · intro k i s hi hI
    subst hI
    refine Or.inl ⟨_, rfl, ?_⟩
    show fL_bits_4 (nI w) (k + 1) _ _ = fL_bits_4 (nI w) k _ _
    rw [fL_bits_4_s, if_neg (ge8 hi), bit_at w hw i hi, nI_add, nI_succ1]; rfl
  · intro k s hI
    subst hI
    show fL_bits_4 (nI w) (k + 1) _ _ = _
    rw [fL_bits_4_s, if_pos (by decide)]
theorem load_eqL (hW : WF bo li mi sv cn cs) {m : Nat} : cnt (fun t => (lkL li cs m t).isSome) bo = ldc cs m := by
  unfold ldc
  apply Nat.le_antisymm
  · refine cnt_inj2 (fun t => (lkL li cs m t).getD 0) (fun t ht h => ?_) (fun t t' ht ht' h h' he => ?_)
    · obtain ⟨i, hi⟩ := Option.isSome_iff_exists.mp h
      have := hW.lL.mp hi
      simp only [hi, Option.getD_some]
      exact ⟨findI_lt hi, by simp [this.1]⟩
    · obtain ⟨i, hi⟩ := Option.isSome_iff_exists.mp h
      obtain ⟨i', hi'⟩ := Option.isSome_iff_exists.mp h'
      simp only [hi, hi', Option.getD_some] at he
      subst he
      obtain ⟨-, o, h1, h2⟩ := hW.lL.mp hi
      obtain ⟨-, o', h3, h4⟩ := hW.lL.mp hi'
      rw [h1] at h3
      cases h3
      rw [← h2, ← h4]
  · refine cnt_inj2 (fun i => (outl cs i).getD 0 / li) (fun i hi h => ?_) (fun i i' hi hi' h h' he => ?_)
    · have hv : via cs i = some m := by simpa using h
      obtain ⟨o, ho⟩ := out_of_busy (busy_of_via hv)
      simp only [ho, Option.getD_some]
      exact ⟨div_lt (hW.outlt ho), by rw [hW.lL.mpr ⟨hv, o, ho, rfl⟩]; rfl⟩
    · have hv : via cs i = some m := by simpa using h
      have hv' : via cs i' = some m := by simpa using h'
      obtain ⟨o, ho⟩ := out_of_busy (busy_of_via hv)
      obtain ⟨o', ho'⟩ := out_of_busy (busy_of_via hv')
      simp only [ho, ho', Option.getD_some] at he
      exact hW.linj hv hv' ho ho' he
/-- the loads, one after another -/
def ldS (cs : CS) : Nat → Nat
  | 0 => 0
  | k + 1 => ldS cs k + ldc cs k
def vlt (cs : CS) (k i : Nat) : Bool := match via cs i with
  | some m => decide (m < k)
  | none => false
theorem cnt_two {p q r : Nat → Bool} (h : ∀ i, r i = (p i || q i)) (hd : ∀ i, p i = true → q i = false) : ∀ N, cnt r N = cnt p N + cnt q N
  | 0 => rfl
  | N + 1 => by
    show cnt r N + _ = cnt p N + _ + (cnt q N + _)
    rw [cnt_two h hd N, h]
    cases hp : p N with
    | true => rw [hd N hp]; simp; omega
    | false => cases hq : q N <;> simp <;> omega
theorem ldS_eq (cs : CS) : ∀ k, ldS cs k = cnt (vlt cs k) 48
  | 0 => (cnt_zero.mpr (fun i _ => by unfold vlt; cases via cs i <;> rfl)).symm
  | k + 1 => by
    show ldS cs k + ldc cs k = _
    rw [ldS_eq cs k]
    refine (cnt_two (fun i => ?_) (fun i hp => ?_) 48).symm
    · unfold vlt
      cases via cs i with
      | none => rfl
      | some m =>
        show decide (m < k + 1) = (decide (m < k) || (some m == some k))
        by_cases hmk : m = k
        · subst hmk; simp
        · by_cases hlt : m < k
          · simp [hlt]; omega
          · have : ¬ m < k + 1 := by omega
            simp [hlt, this, hmk]
    · unfold vlt at hp
      cases hv : via cs i with
      | none => rw [hv] at hp; cases hp
      | some m =>
        rw [hv] at hp
        have hp : m < k := by simpa using hp
        have : m ≠ k := by omega
        simpa using this
theorem ldS_all (h : VW K bo li mi sv cn cs n B) : ldS cs mi = cnt (busy cs) 48 := by
  rw [ldS_eq]
  refine cnt_congr (fun i _ => ?_)
  unfold vlt
  cases hv : via cs i with
  | none =>
    cases hb : busy cs i with
    | false => rfl
    | true => exact absurd hv (h.2.2.1 i hb)
  | some m =>
    rw [busy_of_via hv]
    simpa using h.W.vialt hv
theorem bit_w {w m : Nat} (hw : w < 256) (hm : m < 8) : ((nI w >>> (nI m &&& 31)) &&& (1 : Int32)) = (if w.testBit m = true then (1 : Int32) else (0 : Int32)) := by
  rw [bit_at w hw m hm]
  split <;> rfl
theorem z00 : (0 : Int32) = (0 : Int32) := rfl
/-- one middle board's links -/
theorem hold1 (h : VW K bo li mi sv cn cs n B) {m a c : Nat} (hm : m < mi) (x1 x2 x4 : Int32) : fL_holds_192 kx hi x n x1 x2 x4 (nI m) FU (1 : Int32) (nI a) (nI c) (0 : Int32) = some ((1 : Int32), nI (a + cnt (fun b => (lkF li cs b m).isSome) bo), nI (c + cnt (fun t => (lkL li cs m t).isSome) bo)) := by
  have h8 := h.W.bo8
  have hm8 := h.W.mi8
  have hq := iloop (fun k i (s : Int32 × Int32 × Int32) => fL_holds_192 kx hi x n x1 x2 x4 (nI m) k s.1 s.2.1 s.2.2 i) bo (fun i s => s = ((1 : Int32), nI (a + cnt (fun b => (lkF li cs b m).isSome) i), nI (c + cnt (fun t => (lkL li cs m t).isSome) i))) ((1 : Int32), nI (a + cnt (fun b => (lkF li cs b m).isSome) bo), nI (c + cnt (fun t => (lkL li cs m t).isSome) bo)) ?_ ?_ FU 0 ((1 : Int32), nI a, nI c) (by omega) (FU_big (by omega)) rfl
  · exact hq
  · intro k b s hb hI
    subst hI
    refine Or.inl ⟨_, rfl, ?_⟩
    show fL_holds_192 kx hi x n x1 x2 x4 (nI m) (k + 1) (1 : Int32) (nI (a + cnt (fun b => (lkF li cs b m).isSome) b)) (nI (c + cnt (fun t => (lkL li cs m t).isSome) b)) (nI b) = fL_holds_192 kx hi x n x1 x2 x4 (nI m) k (1 : Int32) (nI (a + cnt (fun b => (lkF li cs b m).isSome) (b + 1))) (nI (c + cnt (fun t => (lkL li cs m t).isSome) (b + 1))) (nI (b + 1))
    have hc1 : cnt (fun b => (lkF li cs b m).isSome) (b + 1) = cnt (fun b => (lkF li cs b m).isSome) b + (if (lkF li cs b m).isSome = true then 1 else 0) := rfl
    have hc2 : cnt (fun t => (lkL li cs m t).isSome) (b + 1) = cnt (fun t => (lkL li cs m t).isSome) b + (if (lkL li cs m b).isSome = true then 1 else 0) := rfl
    have hsv : ((fX5_inService kx n >>> (nI m &&& 31)) &&& (1 : Int32)) = (if sv.testBit m = true then (1 : Int32) else (0 : Int32)) := by rw [v_serv h]; exact bit_w h.W.sv256 (by omega)
    rw [fL_holds_192_s, v_t0 h, Option.bind_some, if_neg (nI_ge hb (by omega)), hsv, v_ff h hb, v_fl h hb, hc1, hc2]
    simp only [jn, Option.bind_some]
    rw [bit_w (frF256 h.W) (by omega), bit_w (frL256 h.W) (by omega), nI_succ1 b]
    obtain ⟨p, hp⟩ : ∃ p, p = a + cnt (fun b => (lkF li cs b m).isSome) b := ⟨_, rfl⟩
    obtain ⟨q, hq⟩ : ∃ q, q = c + cnt (fun t => (lkL li cs m t).isSome) b := ⟨_, rfl⟩
    rw [← Nat.add_assoc, ← Nat.add_assoc, ← hp, ← hq]
    have fF : (frF li mi sv cs b).testBit m = (sv.testBit m && (lkF li cs b m).isNone) := by
      rw [Bool.eq_iff_iff, frF_bit]
      simp [hm]
    have fL : (frL li mi sv cs b).testBit m = (sv.testBit m && (lkL li cs m b).isNone) := by
      rw [Bool.eq_iff_iff, frL_bit]
      simp [hm]
    rw [fF, fL]
    cases hs : sv.testBit m with
    | true =>
      cases hF : lkF li cs b m with
      | none =>
        rw [v_firstN h hb hm hF]
        cases hL : lkL li cs m b with
        | none =>
          rw [v_lastN h hm hb hL]
          simp [if_neg ne10, if_pos z00, Option.bind_some, nI_add0, nI_succ1]
        | some j =>
          obtain ⟨z, hz⟩ := num_of_busy (busy_of_via (h.W.lL.mp hL).1)
          rw [v_lastS h hm hb hL hz]
          have z6 : ¬ nI z = (-6 : Int32) := nI_ne_of_neg (h.W.num31 hz) (by decide)
          simp [if_neg ne10, if_pos z00, if_neg z6, Option.bind_some, nI_add0, nI_succ1]
      | some i =>
        obtain ⟨y, hy⟩ := num_of_busy (busy_of_via (h.W.lF.mp hF).1)
        rw [v_firstS h hb hm hF hy]
        have y6 : ¬ nI y = (-6 : Int32) := nI_ne_of_neg (h.W.num31 hy) (by decide)
        cases hL : lkL li cs m b with
        | none =>
          rw [v_lastN h hm hb hL]
          simp [if_neg ne10, if_pos z00, if_neg y6, Option.bind_some, nI_add0, nI_succ1]
        | some j =>
          obtain ⟨z, hz⟩ := num_of_busy (busy_of_via (h.W.lL.mp hL).1)
          rw [v_lastS h hm hb hL hz]
          have z6 : ¬ nI z = (-6 : Int32) := nI_ne_of_neg (h.W.num31 hz) (by decide)
          simp [if_neg ne10, if_pos z00, if_neg y6, if_neg z6, Option.bind_some, nI_add0, nI_succ1]
    | false =>
      cases hF : lkF li cs b m with
      | none =>
        rw [v_firstN h hb hm hF]
        cases hL : lkL li cs m b with
        | none =>
          rw [v_lastN h hm hb hL]
          simp [if_neg ne10, if_pos z00, Option.bind_some, nI_add0, nI_succ1]
        | some j =>
          obtain ⟨z, hz⟩ := num_of_busy (busy_of_via (h.W.lL.mp hL).1)
          rw [v_lastS h hm hb hL hz]
          have z6 : ¬ nI z = (-6 : Int32) := nI_ne_of_neg (h.W.num31 hz) (by decide)
          simp [if_neg ne10, if_pos z00, if_neg z6, Option.bind_some, nI_add0, nI_succ1]
      | some i =>
        obtain ⟨y, hy⟩ := num_of_busy (busy_of_via (h.W.lF.mp hF).1)
        rw [v_firstS h hb hm hF hy]
        have y6 : ¬ nI y = (-6 : Int32) := nI_ne_of_neg (h.W.num31 hy) (by decide)
        cases hL : lkL li cs m b with
        | none =>
          rw [v_lastN h hm hb hL]
          simp [if_neg ne10, if_pos z00, if_neg y6, Option.bind_some, nI_add0, nI_succ1]
        | some j =>
          obtain ⟨z, hz⟩ := num_of_busy (busy_of_via (h.W.lL.mp hL).1)
          rw [v_lastS h hm hb hL hz]
          have z6 : ¬ nI z = (-6 : Int32) := nI_ne_of_neg (h.W.num31 hz) (by decide)
          simp [if_neg ne10, if_pos z00, if_neg y6, if_neg z6, Option.bind_some, nI_add0, nI_succ1]
  · intro k s hI
    subst hI
    show fL_holds_192 kx hi x n x1 x2 x4 (nI m) (k + 1) _ _ _ _ = _
    rw [fL_holds_192_s, v_t0 h, Option.bind_some, if_pos (nI_le (Nat.le_refl _) (by omega))]
theorem lst_sv (h : VW K bo li mi sv cn cs n B) : lst li cs bo ≤ cnt sv.testBit 8 := lst_le (fb_sv h.W h.2.2.1) bo
theorem lst_li (h : VW K bo li mi sv cn cs n B) : lst li cs bo ≤ li := lst_le (fun b => ⟨by rw [← fbN_eq h.W]; exact cnt_le _ _, by rw [← lbN_eq h.W]; exact cnt_le _ _⟩) bo
theorem lst_z (h : VW K bo li mi sv cn cs n B) : lst li cs bo = 0 ↔ cnt (busy cs) 48 = 0 := by
  constructor
  · intro h0
    refine cnt_zero.mpr (fun i hi => ?_)
    cases hb : busy cs i with
    | false => rfl
    | true =>
      exfalso
      have h1 := (le_lst (li := li) (cs := cs) (div_lt (h.W.lt hb))).1
      have h2 : fbN li cs (i / li) = 0 := by omega
      have := cnt_zero.mp h2 i hi
      simp [hb] at this
  · intro h0
    have hz := cnt_zero.mp h0
    have := lst_le (li := li) (cs := cs) (c := 0) (fun b => ⟨Nat.le_of_eq (cnt_zero.mpr (fun i hi => by rw [hz i hi]; rfl)), Nat.le_of_eq (cnt_zero.mpr (fun i hi => by rw [busy_out.mpr (hz i hi)]; rfl))⟩) bo
    omega
theorem hold2 (h : VW K bo li mi sv cn cs n B) : fL_holds_168 kx hi x n (nI li) (nI (cnt (busy cs) 48)) FU (1 : Int32) (0 : Int32) (0 : Int32) (0 : Int32) (0 : Int32) = some (1 : Int32) := by
  have h8 := h.W.bo8
  have hm8 := h.W.mi8
  have hl6 := h.W.li6
  have hc48 := cnt_le (busy cs) 48
  have hq := iloop (fun k i (s : Int32 × Int32 × Int32 × Int32) => fL_holds_168 kx hi x n (nI li) (nI (cnt (busy cs) 48)) k s.1 s.2.1 s.2.2.1 s.2.2.2 i) mi (fun i s => s = ((1 : Int32), nI (ldS cs i), nI (ldS cs i), nI (ldS cs i))) (1 : Int32) ?_ ?_ FU 0 ((1 : Int32), (0 : Int32), (0 : Int32), (0 : Int32)) (by omega) (FU_big (by omega)) rfl
  · exact hq
  · intro k m s hm hI
    subst hI
    refine Or.inl ⟨((1 : Int32), nI (ldS cs (m + 1)), nI (ldS cs (m + 1)), nI (ldS cs (m + 1))), rfl, ?_⟩
    show fL_holds_168 kx hi x n (nI li) (nI (cnt (busy cs) 48)) (k + 1) (1 : Int32) (nI (ldS cs m)) (nI (ldS cs m)) (nI (ldS cs m)) (nI m) = fL_holds_168 kx hi x n (nI li) (nI (cnt (busy cs) 48)) k (1 : Int32) (nI (ldS cs (m + 1))) (nI (ldS cs (m + 1))) (nI (ldS cs (m + 1))) (nI (m + 1))
    have hs : ldS cs (m + 1) = ldS cs m + ldc cs m := rfl
    have hF : cnt (fun b => (lkF li cs b m).isSome) bo = ldc cs m := load_eq h.W
    rw [fL_holds_168_s, v_t2 h, Option.bind_some, if_neg (nI_ge hm (by omega)), v_load h hm, Option.bind_some, hold1 h hm, Option.bind_some, hF, load_eqL h.W, nI_add, nI_succ1 m, hs]
  · intro k s hI
    subst hI
    show fL_holds_168 kx hi x n (nI li) (nI (cnt (busy cs) 48)) (k + 1) (1 : Int32) (nI (ldS cs mi)) (nI (ldS cs mi)) (nI (ldS cs mi)) (nI mi) = _
    have e1 := lst_sv h
    have e2 := lst_li h
    have e3 := lst_z h
    have e4 : cnt sv.testBit 8 ≤ 8 := cnt_le _ _
    have hx : nI cn = nI (cnt (busy cs) 48) + n.1 7 + n.1 8 := by rw [← h.R.f6]; exact h.E.2
    rw [ldS_all h, fL_holds_168_s, v_t2 h, Option.bind_some, if_pos (nI_le (Nat.le_refl _) (by omega)), v_least h, Option.bind_some, v_serv h, v_bits h.W.sv256, Option.bind_some, if_neg (nI_nlt e1 (by omega)), Option.bind_some, if_neg (nI_nlt e2 (by omega)), Option.bind_some]
    by_cases h0 : cnt (busy cs) 48 = 0
    · rw [e3.mpr h0, if_pos (show nI 0 ≤ (0 : Int32) by decide), if_pos (show nI (cnt (busy cs) 48) ≤ (0 : Int32) by rw [h0]; decide), if_pos z00, if_neg ne10, if_neg ne10, v_t5 h, Option.bind_some, if_pos rfl, if_pos rfl, if_pos rfl, if_pos rfl, v_t6 h, Option.bind_some, Option.bind_some, v_t7 h, Option.bind_some, v_t8 h, Option.bind_some, if_pos hx]
    · have hp : 0 < lst li cs bo := by
        have : lst li cs bo ≠ 0 := fun e => h0 (e3.mp e)
        omega
      rw [if_neg (nI_nle hp (by omega)), if_neg (nI_nle (by omega : 0 < cnt (busy cs) 48) (by omega)), if_pos (rfl : (1 : Int32) = (1 : Int32)), if_neg ne10, if_neg ne10, v_t5 h, Option.bind_some, if_pos rfl, if_pos rfl, if_pos rfl, if_pos rfl, v_t6 h, Option.bind_some, Option.bind_some, v_t7 h, Option.bind_some, v_t8 h, Option.bind_some, if_pos hx]
theorem v_holds (h : VW K bo li mi sv cn cs n B) : fL_holds kx hi x n = some (1 : Int32) := by
  have h48 := h.W.n48
  have hl1 := h.W.li1
  have hl6 := h.W.li6
  have hext : cnt (busy cs) 48 = cnt (busy cs) (bo * li) := cnt_ext h48 (fun i h1 h2 => by
    cases hb : busy cs i with
    | false => rfl
    | true => have := h.W.lt hb; omega)
  unfold fL_holds
  rw [v_t1 h, Option.bind_some]
  have hq := iloop (fun k i (s : Int32 × Int32) => fL_holds_13 kx hi x n (nI li) k s.1 s.2 i) (bo * li) (fun i s => s = (nI (cnt (busy cs) i), (1 : Int32))) (1 : Int32) ?_ ?_ FU 0 ((0 : Int32), (1 : Int32)) (by omega) (FU_big (by omega)) rfl
  · exact hq
  · intro k i s hil hI
    subst hI
    refine Or.inl ⟨(nI (cnt (busy cs) (i + 1)), (1 : Int32)), rfl, ?_⟩
    show fL_holds_13 kx hi x n (nI li) (k + 1) (nI (cnt (busy cs) i)) (1 : Int32) (nI i) = fL_holds_13 kx hi x n (nI li) k (nI (cnt (busy cs) (i + 1))) (1 : Int32) (nI (i + 1))
    have hc : cnt (busy cs) (i + 1) = cnt (busy cs) i + (if busy cs i = true then 1 else 0) := rfl
    rw [fL_holds_13_s, v_t0 h, Option.bind_some, pk_mul, if_neg (nI_ge hil (by omega)), v_call h hil, nI_succ1 i, hc]
    by_cases hb : busy cs i = true
    · obtain ⟨c, hn⟩ := num_of_busy hb
      obtain ⟨o, ho⟩ := out_of_busy hb
      obtain ⟨m, hv⟩ := h.all hb
      have hc31 := h.W.num31 hn
      have d1 := div_lt hil
      have d2 := div_lt (h.W.outlt ho)
      have hml := h.W.vialt hv
      have o48 := h.W.out48 ho
      have m8 := h.W.via8 hv
      rw [hn, eN_some, if_neg (nI_ne_of_neg hc31 (by decide)), v_middleOf h hn hv, Option.bind_some, v_outletOf h hn ho, Option.bind_some, if_neg ne10, if_neg (nI_pos hc31), v_t6 h, Option.bind_some, if_neg (nI_ge (h.W.numlt hn) (by have := h.W.cn30; omega)), v_inletOf h hn, Option.bind_some, if_pos rfl, v_callO h ho, hn, eN_some, if_pos rfl, v_serv h, bit_w h.W.sv256 m8, if_pos (h.W.viasv hv), if_pos rfl, if_pos (nI_ne0 (by omega) (by omega)), pk_div (by omega) (by omega) (by omega), v_firstS h d1 hml (h.W.lF.mpr ⟨hv, rfl⟩) hn, if_pos rfl, if_pos (nI_ne0 (by omega) (by omega)), pk_div (by omega) (by omega) (by omega), v_lastS h hml d2 (h.W.lL.mpr ⟨hv, o, ho, rfl⟩) hn, if_pos rfl, nI_succ1, if_pos hb]
    · have hb' : busy cs i = false := by simpa using hb
      rw [busy_num.mpr hb', eN_none, if_pos rfl, if_neg hb]; rfl
  · intro k s hI
    subst hI
    show fL_holds_13 kx hi x n (nI li) (k + 1) (nI (cnt (busy cs) (bo * li))) (1 : Int32) (nI (bo * li)) = _
    rw [fL_holds_13_s, v_t0 h, Option.bind_some, pk_mul, if_pos (nI_le (Nat.le_refl _) (by omega)), ← hext]
    exact hold2 h
end HO
