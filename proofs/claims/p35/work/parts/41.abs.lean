/-! the abstract network: calls by inlet (number, outlet, middle board if it is on links) -/
abbrev CS : Type := Nat → Option (Nat × Nat × Option Nat)
def num (cs : CS) (i : Nat) : Option Nat := (cs i).map (fun c => c.1)
def outl (cs : CS) (i : Nat) : Option Nat := (cs i).map (fun c => c.2.1)
def via (cs : CS) (i : Nat) : Option Nat := (cs i).bind (fun c => c.2.2)
def busy (cs : CS) (i : Nat) : Bool := (cs i).isSome
def inlOf (cs : CS) (o : Nat) : Option Nat := findI (fun i => outl cs i == some o) 48
def onFp (li : Nat) (cs : CS) (b m : Nat) (i : Nat) : Bool := via cs i == some m && i / li == b
def onLp (li : Nat) (cs : CS) (m t : Nat) (i : Nat) : Bool := via cs i == some m && (outl cs i).map (fun o => o / li) == some t
def lkF (li : Nat) (cs : CS) (b m : Nat) : Option Nat := findI (onFp li cs b m) 48
def lkL (li : Nat) (cs : CS) (m t : Nat) : Option Nat := findI (onLp li cs m t) 48
theorem busy_num {cs : CS} {i : Nat} : num cs i = none ↔ busy cs i = false := by
  unfold num busy; cases cs i <;> simp
theorem busy_out {cs : CS} {i : Nat} : outl cs i = none ↔ busy cs i = false := by
  unfold outl busy; cases cs i <;> simp
theorem busy_of_num {cs : CS} {i c : Nat} (h : num cs i = some c) : busy cs i = true := by
  unfold num at h; unfold busy; cases hc : cs i with
  | none => rw [hc] at h; cases h
  | some x => rfl
theorem busy_of_out {cs : CS} {i c : Nat} (h : outl cs i = some c) : busy cs i = true := by
  unfold outl at h; unfold busy; cases hc : cs i with
  | none => rw [hc] at h; cases h
  | some x => rfl
theorem busy_of_via {cs : CS} {i c : Nat} (h : via cs i = some c) : busy cs i = true := by
  unfold via at h; unfold busy; cases hc : cs i with
  | none => rw [hc] at h; cases h
  | some x => rfl
theorem out_of_busy {cs : CS} {i : Nat} (h : busy cs i = true) : ∃ o, outl cs i = some o := by
  unfold busy at h; unfold outl; cases hc : cs i with
  | none => rw [hc] at h; cases h
  | some x => exact ⟨_, rfl⟩
theorem num_of_busy {cs : CS} {i : Nat} (h : busy cs i = true) : ∃ o, num cs i = some o := by
  unfold busy at h; unfold num; cases hc : cs i with
  | none => rw [hc] at h; cases h
  | some x => exact ⟨_, rfl⟩
theorem onFp_iff {li : Nat} {cs : CS} {b m i : Nat} : onFp li cs b m i = true ↔ via cs i = some m ∧ i / li = b := by
  simp [onFp]
theorem onLp_iff {li : Nat} {cs : CS} {m t i : Nat} : onLp li cs m t i = true ↔ via cs i = some m ∧ ∃ o, outl cs i = some o ∧ o / li = t := by
  simp [onLp]
/-- a network's calls are in order: bo boards with li lines, mi middle boards, of which sv (bits) in service; numbers below cn -/
def WF (bo li mi sv cn : Nat) (cs : CS) : Prop :=
  2 ≤ bo ∧ bo ≤ 8 ∧ 1 ≤ li ∧ li ≤ 6 ∧ 1 ≤ mi ∧ mi ≤ 8 ∧ sv < 2 ^ mi ∧ cn < 2 ^ 30 ∧
  (∀ i, busy cs i = true → i < bo * li) ∧ (∀ i c, num cs i = some c → c < cn) ∧ (∀ i o, outl cs i = some o → o < bo * li) ∧
  (∀ i m, via cs i = some m → m < mi ∧ sv.testBit m = true) ∧
  (∀ i j o, outl cs i = some o → outl cs j = some o → i = j) ∧
  (∀ i j m, via cs i = some m → via cs j = some m → i / li = j / li → i = j) ∧
  (∀ i j m o o', via cs i = some m → via cs j = some m → outl cs i = some o → outl cs j = some o' → o / li = o' / li → i = j)
theorem bl48 {bo li : Nat} (h1 : bo ≤ 8) (h2 : li ≤ 6) : bo * li ≤ 48 := by
  have := Nat.mul_le_mul h1 h2
  omega
theorem div_lt {i bo li : Nat} (h : i < bo * li) : i / li < bo := by
  apply Nat.div_lt_of_lt_mul
  rw [Nat.mul_comm]; exact h
section WFs
variable {bo li mi sv cn : Nat} {cs : CS}
theorem WF.lt (h : WF bo li mi sv cn cs) {i : Nat} (hb : busy cs i = true) : i < bo * li := h.2.2.2.2.2.2.2.2.1 i hb
theorem WF.n48 (h : WF bo li mi sv cn cs) : bo * li ≤ 48 := bl48 h.2.1 h.2.2.2.1
theorem WF.lt48 (h : WF bo li mi sv cn cs) {i : Nat} (hb : busy cs i = true) : i < 48 := Nat.lt_of_lt_of_le (h.lt hb) h.n48
theorem WF.numlt (h : WF bo li mi sv cn cs) {i c : Nat} (hb : num cs i = some c) : c < cn := h.2.2.2.2.2.2.2.2.2.1 i c hb
theorem WF.cn30 (h : WF bo li mi sv cn cs) : cn < 2 ^ 30 := h.2.2.2.2.2.2.2.1
theorem WF.num31 (h : WF bo li mi sv cn cs) {i c : Nat} (hb : num cs i = some c) : c < 2 ^ 31 := by
  have := h.numlt hb; have := h.cn30; omega
theorem WF.outlt (h : WF bo li mi sv cn cs) {i o : Nat} (hb : outl cs i = some o) : o < bo * li := h.2.2.2.2.2.2.2.2.2.2.1 i o hb
theorem WF.out48 (h : WF bo li mi sv cn cs) {i o : Nat} (hb : outl cs i = some o) : o < 48 := Nat.lt_of_lt_of_le (h.outlt hb) h.n48
theorem WF.vialt (h : WF bo li mi sv cn cs) {i m : Nat} (hb : via cs i = some m) : m < mi := (h.2.2.2.2.2.2.2.2.2.2.2.1 i m hb).1
theorem WF.mi8 (h : WF bo li mi sv cn cs) : mi ≤ 8 := h.2.2.2.2.2.1
theorem WF.via8 (h : WF bo li mi sv cn cs) {i m : Nat} (hb : via cs i = some m) : m < 8 := by have := h.vialt hb; have := h.mi8; omega
theorem WF.viasv (h : WF bo li mi sv cn cs) {i m : Nat} (hb : via cs i = some m) : sv.testBit m = true := (h.2.2.2.2.2.2.2.2.2.2.2.1 i m hb).2
theorem WF.outinj (h : WF bo li mi sv cn cs) {i j o : Nat} (h1 : outl cs i = some o) (h2 : outl cs j = some o) : i = j := h.2.2.2.2.2.2.2.2.2.2.2.2.1 i j o h1 h2
theorem WF.finj (h : WF bo li mi sv cn cs) {i j m : Nat} (h1 : via cs i = some m) (h2 : via cs j = some m) (h3 : i / li = j / li) : i = j := h.2.2.2.2.2.2.2.2.2.2.2.2.2.1 i j m h1 h2 h3
theorem WF.linj (h : WF bo li mi sv cn cs) {i j m o o' : Nat} (h1 : via cs i = some m) (h2 : via cs j = some m) (h3 : outl cs i = some o) (h4 : outl cs j = some o') (h5 : o / li = o' / li) : i = j := h.2.2.2.2.2.2.2.2.2.2.2.2.2.2 i j m o o' h1 h2 h3 h4 h5
theorem WF.bo8 (h : WF bo li mi sv cn cs) : bo ≤ 8 := h.2.1
theorem WF.bo2 (h : WF bo li mi sv cn cs) : 2 ≤ bo := h.1
theorem WF.li1 (h : WF bo li mi sv cn cs) : 1 ≤ li := h.2.2.1
theorem WF.li6 (h : WF bo li mi sv cn cs) : li ≤ 6 := h.2.2.2.1
theorem WF.mi1 (h : WF bo li mi sv cn cs) : 1 ≤ mi := h.2.2.2.2.1
theorem WF.svlt (h : WF bo li mi sv cn cs) : sv < 2 ^ mi := h.2.2.2.2.2.2.1
theorem WF.sv256 (h : WF bo li mi sv cn cs) : sv < 256 := by
  have h1 := h.svlt
  have h2 : 2 ^ mi ≤ 2 ^ 8 := Nat.pow_le_pow_right (by omega) h.mi8
  omega
theorem WF.inl (h : WF bo li mi sv cn cs) {i o : Nat} : inlOf cs o = some i ↔ outl cs i = some o := by
  unfold inlOf
  rw [findI_iff (fun i j _ _ h1 h2 => h.outinj (by simpa using h1) (by simpa using h2))]
  constructor
  · intro h1; simpa using h1.2
  · intro h1; exact ⟨h.lt48 (busy_of_out h1), by simpa using h1⟩
theorem WF.inl_none (h : WF bo li mi sv cn cs) {o : Nat} : inlOf cs o = none ↔ ∀ i, outl cs i ≠ some o := by
  constructor
  · intro h1 i h2
    rw [h.inl.mpr h2] at h1; cases h1
  · intro h1
    cases h2 : inlOf cs o with
    | none => rfl
    | some i => exact absurd (h.inl.mp h2) (h1 i)
theorem WF.lF (h : WF bo li mi sv cn cs) {b m i : Nat} : lkF li cs b m = some i ↔ via cs i = some m ∧ i / li = b := by
  unfold lkF
  rw [findI_iff (fun i j _ _ h1 h2 => by
    rw [onFp_iff] at h1 h2
    exact h.finj h1.1 h2.1 (h1.2.trans h2.2.symm)), onFp_iff]
  exact ⟨fun h1 => h1.2, fun h1 => ⟨h.lt48 (busy_of_via h1.1), h1⟩⟩
theorem WF.lF_none (h : WF bo li mi sv cn cs) {b m : Nat} : lkF li cs b m = none ↔ ∀ i, via cs i = some m → i / li ≠ b := by
  constructor
  · intro h1 i h2 h3
    rw [h.lF.mpr ⟨h2, h3⟩] at h1; cases h1
  · intro h1
    cases h2 : lkF li cs b m with
    | none => rfl
    | some i => exact absurd (h.lF.mp h2).2 (h1 i (h.lF.mp h2).1)
theorem WF.lL (h : WF bo li mi sv cn cs) {m t i : Nat} : lkL li cs m t = some i ↔ via cs i = some m ∧ ∃ o, outl cs i = some o ∧ o / li = t := by
  unfold lkL
  rw [findI_iff (fun i j _ _ h1 h2 => by
    rw [onLp_iff] at h1 h2
    obtain ⟨o, g1, g2⟩ := h1.2
    obtain ⟨o', g3, g4⟩ := h2.2
    exact h.linj h1.1 h2.1 g1 g3 (g2.trans g4.symm)), onLp_iff]
  exact ⟨fun h1 => h1.2, fun h1 => ⟨h.lt48 (busy_of_via h1.1), h1⟩⟩
theorem WF.lL_none (h : WF bo li mi sv cn cs) {m t : Nat} : lkL li cs m t = none ↔ ∀ i o, via cs i = some m → outl cs i = some o → o / li ≠ t := by
  constructor
  · intro h1 i o h2 h3 h4
    rw [h.lL.mpr ⟨h2, o, h3, h4⟩] at h1; cases h1
  · intro h1
    cases h2 : lkL li cs m t with
    | none => rfl
    | some i =>
      obtain ⟨g1, o, g2, g3⟩ := h.lL.mp h2
      exact absurd g3 (h1 i o g1 g2)
end WFs
/-- the class's network n holds the calls cs -/
def RC (bo li mi sv cn : Nat) (cs : CS) (n : OS) : Prop :=
  n.1 0 = nI bo ∧ n.1 1 = nI li ∧ n.1 2 = nI mi ∧ n.1 3 = nI sv ∧ n.1 6 = nI cn ∧
  (∀ i, i < 48 → n.2 0 i = eN (num cs i) (-6)) ∧ (∀ i, i < 48 → n.2 1 i = eN (outl cs i) (-6)) ∧ (∀ i, i < 48 → n.2 2 i = eN (via cs i) (-6)) ∧
  (∀ o, o < 48 → n.2 3 o = eN (inlOf cs o) (-6)) ∧
  (∀ b m, b < 8 → m < 8 → n.2 4 (b * 8 + m) = eN (lkF li cs b m) (-6)) ∧ (∀ t m, t < 8 → m < 8 → n.2 5 (t * 8 + m) = eN (lkL li cs m t) (-6))
/-- the model's block B holds the calls cs -/
def RM (bo li mi sv cn : Nat) (cs : CS) (B : Nat → Int32) : Prop :=
  B 0 = nI bo ∧ B 1 = nI li ∧ B 2 = nI mi ∧ B 9 = nI sv ∧ B 5 = nI cn ∧
  (∀ i, i < 48 → B (10 + 3 * i) = eN (num cs i) (-1)) ∧ (∀ i o, i < 48 → outl cs i = some o → B (10 + 3 * i + 1) = nI o) ∧ (∀ i, i < 48 → busy cs i = true → B (10 + 3 * i + 2) = eN (via cs i) (-1))
