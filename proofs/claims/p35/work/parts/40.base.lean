/-! pure layer: numbers, rows, loops, counting, finding -/
def eN (o : Option Nat) (d : Int32) : Int32 := match o with
  | none => d
  | some k => nI k
theorem eN_none (d : Int32) : eN none d = d := rfl
theorem eN_some (k : Nat) (d : Int32) : eN (some k) d = nI k := rfl
theorem nI_nneg {k : Nat} (h : k < 2 ^ 31) : ¬ nI k < 0 := nI_pos h
theorem eN_lt0 {o : Option Nat} {d : Int32} (hd : d < 0) (hb : ∀ k, o = some k → k < 2 ^ 31) : eN o d < 0 ↔ o = none := by
  cases o with
  | none => simp [eN, hd]
  | some k => simp only [eN_some]; exact ⟨fun h => absurd h (nI_pos (hb k rfl)), fun h => by cases h⟩
theorem nI_ne_of_neg {k : Nat} (h : k < 2 ^ 31) {d : Int32} (hd : d < 0) : nI k ≠ d := fun e => nI_pos h (e ▸ hd)
theorem eN_eqd {o : Option Nat} {d : Int32} (hd : d < 0) (hb : ∀ k, o = some k → k < 2 ^ 31) : eN o d = d ↔ o = none := by
  cases o with
  | none => simp [eN]
  | some k => simp only [eN_some]; exact ⟨fun h => absurd h (nI_ne_of_neg (hb k rfl) hd), fun h => by cases h⟩
theorem eN_eqn {o : Option Nat} {d : Int32} {m : Nat} (hd : d < 0) (hm : m < 2 ^ 31) (hb : ∀ k, o = some k → k < 2 ^ 31) : eN o d = nI m ↔ o = some m := by
  cases o with
  | none => simp only [eN_none]; exact ⟨fun h => absurd h.symm (nI_ne_of_neg hm hd), fun h => by cases h⟩
  | some k => simp only [eN_some, Option.some.injEq]; exact nI_eq (hb k rfl) hm
theorem rget_in {f : Nat → Int32} {L k : Nat} (h : k < L) (hL : L < 2 ^ 31) : rget f L (nI k) = f k := by
  unfold rget
  rw [if_neg (nI_pos (by omega)), if_neg, nI_clamp (by omega)]
  exact nI_ge h hL
theorem rget_neg {f : Nat → Int32} {L : Nat} {x : Int32} (h : x < 0) : rget f L x = (-6 : Int32) := by
  unfold rget; rw [if_pos h]
theorem rget_out {f : Nat → Int32} {L k : Nat} (h : L ≤ k) (hk : k < 2 ^ 31) : rget f L (nI k) = (-6 : Int32) := by
  unfold rget
  rw [if_neg (nI_pos hk), if_pos (show Int32.ofNat L ≤ nI k from nI_le h hk)]
theorem rset_in {f : Nat → Int32} {L k : Nat} {v : Int32} (h : k < L) (hL : L < 2 ^ 31) : rset f L (nI k) v = upd f k v := by
  unfold rset
  rw [if_neg (nI_pos (by omega)), if_neg (show ¬ Int32.ofNat L ≤ nI k from nI_ge h hL), nI_clamp (by omega)]
theorem rset_neg {f : Nat → Int32} {L : Nat} {x v : Int32} (h : x < 0) : rset f L x v = f := by
  unfold rset; rw [if_pos h]
theorem upd_s {f : Nat → Int32} {k : Nat} {v : Int32} : upd f k v k = v := by simp [upd]
theorem upd_n {f : Nat → Int32} {k j : Nat} {v : Int32} (h : j ≠ k) : upd f k v j = f j := by simp [upd, h]
theorem upd_if {f : Nat → Int32} {k j : Nat} {v : Int32} : upd f k v j = if j = k then v else f j := rfl
theorem link_nI (b m : Nat) : fX5_link (nI b) (nI m) = nI (b * 8 + m) := by
  unfold fX5_link
  rw [show (8 : Int32) = nI 8 from rfl, pk_mul, nI_add]
theorem nI_succ1 (i : Nat) : nI i + (1 : Int32) = nI (i + 1) := nI_1 i
theorem nI_add0 (x : Int32) : x + (0 : Int32) = x := by simp
/-- loops that count up to hi -/
theorem iloop {σ ρ : Type} (F : Nat → Int32 → σ → Option ρ) (hi : Nat) (Inv : Nat → σ → Prop) (x : ρ)
    (hs : ∀ k i s, i < hi → Inv i s → (∃ s', Inv (i + 1) s' ∧ F (k + 1) (nI i) s = F k (nI (i + 1)) s') ∨ F (k + 1) (nI i) s = some x)
    (he : ∀ k s, Inv hi s → F (k + 1) (nI hi) s = some x) : ∀ (k i : Nat) (s : σ), i ≤ hi → hi - i < k → Inv i s → F k (nI i) s = some x := by
  intro k
  induction k with
  | zero => intro i s _ h; omega
  | succ k ih =>
    intro i s hi1 hk hI
    by_cases hlt : i < hi
    · rcases hs k i s hlt hI with ⟨s', h1, h2⟩ | h
      · rw [h2]; exact ih (i + 1) s' (by omega) (by omega) h1
      · exact h
    · have : i = hi := by omega
      subst this
      exact he k s hI
theorem FU_big {n : Nat} (h : n < 1000000) : n < FU := h
/-- counting and finding -/
def cnt (p : Nat → Bool) : Nat → Nat
  | 0 => 0
  | k + 1 => cnt p k + (if p k = true then 1 else 0)
theorem cnt_le (p : Nat → Bool) : ∀ k, cnt p k ≤ k
  | 0 => Nat.le_refl 0
  | k + 1 => by
    have := cnt_le p k
    show cnt p k + _ ≤ k + 1
    split <;> omega
theorem cnt_congr {p q : Nat → Bool} : ∀ {k : Nat}, (∀ i, i < k → p i = q i) → cnt p k = cnt q k
  | 0, _ => rfl
  | k + 1, h => by
    show cnt p k + _ = cnt q k + _
    rw [cnt_congr (fun i hi => h i (by omega)), h k (by omega)]
theorem cnt_zero {p : Nat → Bool} : ∀ {k : Nat}, cnt p k = 0 ↔ ∀ i, i < k → p i = false
  | 0 => by simp [cnt]
  | k + 1 => by
    show cnt p k + _ = 0 ↔ _
    have ih := cnt_zero (p := p) (k := k)
    constructor
    · intro h i hi
      by_cases hk : i = k
      · subst hk
        by_cases hp : p i = true
        · rw [if_pos hp] at h; omega
        · simpa using hp
      · exact ih.mp (by omega) i (by omega)
    · intro h
      rw [ih.mpr (fun i hi => h i (by omega)), if_neg (by rw [h k (by omega)]; decide)]
theorem cnt_mono {p q : Nat → Bool} : ∀ {k : Nat}, (∀ i, i < k → p i = true → q i = true) → cnt p k ≤ cnt q k
  | 0, _ => Nat.le_refl 0
  | k + 1, h => by
    show cnt p k + _ ≤ cnt q k + _
    have ih := cnt_mono (p := p) (q := q) (k := k) (fun i hi => h i (by omega))
    by_cases hp : p k = true
    · rw [if_pos hp, if_pos (h k (by omega) hp)]; omega
    · rw [if_neg hp]; omega
theorem cnt_ext {p : Nat → Bool} {a b : Nat} (hab : a ≤ b) (h : ∀ i, a ≤ i → i < b → p i = false) : cnt p b = cnt p a := by
  induction b with
  | zero => have : a = 0 := by omega
            rw [this]
  | succ b ih =>
    by_cases he : a = b + 1
    · rw [he]
    · show cnt p b + _ = cnt p a
      rw [if_neg (by rw [h b (by omega) (by omega)]; decide), ih (by omega) (fun i h1 h2 => h i h1 (by omega))]
      rfl
def findI (p : Nat → Bool) : Nat → Option Nat
  | 0 => none
  | k + 1 => match findI p k with
    | some i => some i
    | none => if p k = true then some k else none
theorem findI_succ (p : Nat → Bool) (k : Nat) : findI p (k + 1) = (match findI p k with
    | some i => some i
    | none => if p k = true then some k else none) := rfl
theorem findI_some {p : Nat → Bool} : ∀ {k i : Nat}, findI p k = some i → i < k ∧ p i = true ∧ ∀ j, j < i → p j = false
  | 0, _, h => by cases h
  | k + 1, i, h => by
    rw [findI_succ] at h
    cases hk : findI p k with
    | some i' =>
      rw [hk] at h
      cases h
      have := findI_some hk
      exact ⟨by omega, this.2⟩
    | none =>
      rw [hk] at h
      by_cases hp : p k = true
      · simp only [hp, if_true] at h
        cases h
        refine ⟨by omega, hp, fun j hj => ?_⟩
        have hn : ∀ (n j : Nat), findI p n = none → j < n → p j = false := by
          intro n
          induction n with
          | zero => intro j _ h; omega
          | succ n ih =>
            intro j hn hj
            rw [findI_succ] at hn
            cases hq : findI p n with
            | some i => rw [hq] at hn; cases hn
            | none =>
              rw [hq] at hn
              by_cases hpn : p n = true
              · simp [hpn] at hn
              · by_cases hjn : j = n
                · rw [hjn]; simpa using hpn
                · exact ih j hq (by omega)
        exact hn _ j hk hj
      · simp [hp] at h
theorem findI_none {p : Nat → Bool} : ∀ {k : Nat}, findI p k = none ↔ ∀ j, j < k → p j = false
  | 0 => by simp [findI]
  | k + 1 => by
    rw [findI_succ]
    have ih := findI_none (p := p) (k := k)
    cases hk : findI p k with
    | some i =>
      constructor
      · intro h; cases h
      · intro h
        have := findI_some hk
        rw [h i (by omega)] at this
        exact absurd this.2.1 (by decide)
    | none =>
      have h0 := ih.mp hk
      by_cases hp : p k = true
      · simp only [hp, if_true]
        constructor
        · intro h; cases h
        · intro h
          rw [h k (by omega)] at hp
          exact absurd hp (by decide)
      · simp only [hp]
        constructor
        · intro _ j hj
          by_cases hjk : j = k
          · rw [hjk]; simpa using hp
          · exact h0 j (by omega)
        · intro _; rfl
/-- where at most one place is marked -/
theorem findI_iff {p : Nat → Bool} {k : Nat} (hu : ∀ i j, i < k → j < k → p i = true → p j = true → i = j) {i : Nat} : findI p k = some i ↔ i < k ∧ p i = true := by
  constructor
  · intro h
    have := findI_some h
    exact ⟨this.1, this.2.1⟩
  · intro h
    cases hf : findI p k with
    | none =>
      have := findI_none.mp hf i h.1
      rw [h.2] at this
      cases this
    | some j =>
      have := findI_some hf
      rw [hu j i this.1 h.1 this.2.1 h.2]
theorem findI_lt {p : Nat → Bool} {k i : Nat} (h : findI p k = some i) : i < k := (findI_some h).1
theorem findI_congr {p q : Nat → Bool} : ∀ {k : Nat}, (∀ i, i < k → p i = q i) → findI p k = findI q k
  | 0, _ => rfl
  | k + 1, h => by
    rw [findI_succ, findI_succ, findI_congr (fun i hi => h i (by omega)), h k (by omega)]
/-- a mark beyond the places searched plays no part -/
theorem findI_ext {p : Nat → Bool} {a b : Nat} (hab : a ≤ b) (h : ∀ i, a ≤ i → i < b → p i = false) : findI p b = findI p a := by
  induction b with
  | zero => have : a = 0 := by omega
            rw [this]
  | succ b ih =>
    by_cases he : a = b + 1
    · rw [he]
    · rw [findI_succ, ih (by omega) (fun i h1 h2 => h i h1 (by omega)), h b (by omega) (by omega)]
      cases findI p a <;> simp
/-- different marked places among k are at most k -/
theorem cnt_inj {p : Nat → Bool} {N k : Nat} (f : Nat → Nat) (hf : ∀ i, i < N → p i = true → f i < k) (hi : ∀ i j, i < N → j < N → p i = true → p j = true → f i = f j → i = j) : cnt p N ≤ k := by
  have key : ∀ n, n ≤ N → ∃ l : List Nat, l.Nodup ∧ l.length = cnt p n ∧ ∀ x ∈ l, ∃ i, i < n ∧ p i = true ∧ f i = x := by
    intro n
    induction n with
    | zero => intro _; exact ⟨[], List.nodup_nil, rfl, fun x hx => by simp at hx⟩
    | succ n ih =>
      intro hn
      obtain ⟨l, h1, h2, h3⟩ := ih (by omega)
      by_cases hp : p n = true
      · refine ⟨f n :: l, List.nodup_cons.mpr ⟨fun hm => ?_, h1⟩, ?_, fun x hx => ?_⟩
        · obtain ⟨i, g1, g2, g3⟩ := h3 _ hm
          have := hi i n (by omega) (by omega) g2 hp g3
          omega
        · show l.length + 1 = cnt p n + _
          rw [if_pos hp, h2]
        · rcases List.mem_cons.mp hx with rfl | hx
          · exact ⟨n, by omega, hp, rfl⟩
          · obtain ⟨i, g1, g2, g3⟩ := h3 _ hx
            exact ⟨i, by omega, g2, g3⟩
      · refine ⟨l, h1, ?_, fun x hx => ?_⟩
        · show l.length = cnt p n + _
          rw [if_neg hp, h2]; rfl
        · obtain ⟨i, g1, g2, g3⟩ := h3 _ hx
          exact ⟨i, by omega, g2, g3⟩
  obtain ⟨l, h1, h2, h3⟩ := key N (Nat.le_refl N)
  have hs : l ⊆ List.range k := fun x hx => by
    obtain ⟨i, g1, g2, g3⟩ := h3 x hx
    rw [List.mem_range, ← g3]
    exact hf i g1 g2
  have := List.Nodup.length_le_of_subset h1 hs
  rw [List.length_range] at this
  omega
/-- marked places map into the marked places of another, one to one -/
theorem cnt_inj2 {p q : Nat → Bool} {N M : Nat} (f : Nat → Nat) (hf : ∀ i, i < N → p i = true → f i < M ∧ q (f i) = true) (hi : ∀ i j, i < N → j < N → p i = true → p j = true → f i = f j → i = j) : cnt p N ≤ cnt q M := by
  -- the rank of a marked place of q
  have rank : ∀ x y, x < y → q x = true → cnt q x < cnt q y := by
    intro x y hxy hq
    have h1 : cnt q (x + 1) = cnt q x + 1 := by show cnt q x + _ = _; rw [if_pos hq]
    have h2 : ∀ n, x + 1 ≤ n → cnt q (x + 1) ≤ cnt q n := by
      intro n
      induction n with
      | zero => intro h; omega
      | succ n ih =>
        intro h
        by_cases he : x + 1 = n + 1
        · rw [he]; exact Nat.le_refl _
        · have := ih (by omega)
          show cnt q (x + 1) ≤ cnt q n + _
          omega
    have := h2 y hxy
    omega
  refine cnt_inj (fun i => cnt q (f i)) (fun i h1 h2 => rank _ _ (hf i h1 h2).1 (hf i h1 h2).2) (fun i j h1 h2 h3 h4 h5 => ?_)
  refine hi i j h1 h2 h3 h4 ?_
  rcases Nat.lt_trichotomy (f i) (f j) with h | h | h
  · have := rank _ _ h (hf i h1 h3).2
    have h5' : cnt q (f i) = cnt q (f j) := h5
    omega
  · exact h
  · have := rank _ _ h (hf j h2 h4).2
    have h5' : cnt q (f i) = cnt q (f j) := h5
    omega
theorem ge48 {i : Nat} (h : i < 48) : ¬ (48 : Int32) ≤ nI i := nI_ge (b := 48) h (by decide)
theorem ge8 {i : Nat} (h : i < 8) : ¬ (8 : Int32) ≤ nI i := nI_ge (b := 8) h (by decide)
theorem ge16 {i : Nat} (h : i < 16) : ¬ (16 : Int32) ≤ nI i := nI_ge (b := 16) h (by decide)
theorem ge64 {i : Nat} (h : i < 64) : ¬ (64 : Int32) ≤ nI i := nI_ge (b := 64) h (by decide)
