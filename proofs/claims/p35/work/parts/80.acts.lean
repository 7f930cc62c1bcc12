/-! histories of networks in order, and calls that do one thing whatever the router's rows hold -/
def HOK (K : Nat) (hi : HS) : Prop := ∃ c lt, c ≤ 4 ∧ lt < 4 ∧ hi.1 1 = nI lt ∧ hi.1 2 = nI c ∧ ∀ d, d < c → ∃ B, SIM K (hi.2 ((lt + 4 - d) % 4)) B
theorem HOK.mono {K K' : Nat} {hi : HS} (h : HOK K hi) (hK : K ≤ K') : HOK K' hi := by
  obtain ⟨c, lt, h1, h2, h3, h4, h5⟩ := h
  refine ⟨c, lt, h1, h2, h3, h4, fun d hd => ?_⟩
  obtain ⟨B, hB⟩ := h5 d hd
  exact ⟨B, hB.mono hK⟩
theorem HOK.lat {K : Nat} {hi : HS} (h : HOK K hi) : ∃ lt, lt < 4 ∧ hi.1 1 = nI lt := by
  obtain ⟨c, lt, h1, h2, h3, h4, h5⟩ := h
  exact ⟨lt, h2, h3⟩
/-- a state is kept; taking it back gives it again -/
theorem push_ok {K : Nat} {hi : HS} {n : OS} {B : Nat → Int32} (h : HOK K hi) (hn : SIM K n B) :
    ∃ hi' c, c ≤ 4 ∧ hi.1 2 = nI c ∧ fX0_push hi n = some hi' ∧ HOK K hi' ∧ hi'.1 2 = nI (if c < 4 then c + 1 else 4) ∧
      ∀ n', ∃ hi'', fX0_takeBack hi' n' = some (nI ((if c < 4 then c + 1 else 4) - 1), hi'', n) ∧ HOK K hi'' := by
  obtain ⟨c, lt, hc4, hlt, e1, e2, hS⟩ := h
  obtain ⟨c', hc'⟩ : ∃ c', c' = if c < 4 then c + 1 else 4 := ⟨_, rfl⟩
  have hcc : 0 < c' ∧ c' ≤ 4 ∧ c' ≤ c + 1 := by
    by_cases hq : c < 4
    · rw [if_pos hq] at hc'; omega
    · rw [if_neg hq] at hc'; omega
  obtain ⟨j, hj⟩ : ∃ j, j = (lt + 1) % 4 := ⟨_, rfl⟩
  have hj4 : j < 4 := by omega
  have p2 : (pushK hi n j).1 2 = nI c' := by
    show (if (4 : Int32) < hi.1 2 + (1 : Int32) then (4 : Int32) else hi.1 2 + (1 : Int32)) = nI c'
    rw [e2, nI_succ1]
    by_cases hq : c < 4
    · rw [if_neg (show ¬ (4 : Int32) < nI (c + 1) from nI_nlt (b := c + 1) (a := 4) (by omega) (by decide)), hc', if_pos hq]
    · have : c = 4 := by omega
      rw [hc', if_neg hq, this]; decide
  have p0 : (pushK hi n j).2 j = n := if_pos rfl
  have pd : ∀ i, i ≠ j → (pushK hi n j).2 i = hi.2 i := fun i hi => if_neg hi
  refine ⟨pushK hi n j, c, hc4, e2, by rw [c_push e1 hlt, ← hj], ⟨c', j, hcc.2.1, hj4, rfl, p2, fun d hd => ?_⟩, by rw [← hc']; exact p2, fun n' => ?_⟩
  · cases d with
    | zero => rw [show (j + 4 - 0) % 4 = j by omega, p0]; exact ⟨B, hn⟩
    | succ d =>
      rw [pd _ (by omega), show (j + 4 - (d + 1)) % 4 = (lt + 4 - d) % 4 by omega]
      exact hS d (by omega)
  · rw [← hc']
    have hb := c_back (n := n') (show (pushK hi n j).1 1 = nI j from rfl) hj4 p2 hcc.2.1
    rw [if_neg (by omega), p0] at hb
    have e4 : nI c' - (1 : Int32) = nI (c' - 1) := pk_sub (a := c') (b := 1) (by omega)
    rw [e4] at hb
    refine ⟨_, hb, ⟨c' - 1, (j + 3) % 4, by omega, by omega, rfl, ?_, fun d hd => ?_⟩⟩
    · show (pushK hi n j).1 2 - (1 : Int32) = _
      rw [p2, e4]
    · show ∃ B, SIM K ((pushK hi n j).2 (((j + 3) % 4 + 4 - d) % 4)) B
      rw [pd _ (by omega), show ((j + 3) % 4 + 4 - d) % 4 = (lt + 4 - d) % 4 by omega]
      exact hS d (by omega)
/-- what is asked of a call that may change the network: its answer, and what is there then, hang on the network alone -/
def DOES (K : Nat) (n : OS) (F : HS → OS → OS → Option (Int32 × HS × OS × OS × OS)) : Prop :=
  ∃ (a : Int32) (B' : Nat → Int32), ∀ hi o r, (∃ lt, lt < 4 ∧ hi.1 1 = nI lt) → ∃ hi' o' r' n', F hi o r = some (a, hi', o', r', n') ∧ ((a < 0 ∧ hi' = hi ∧ n' = n) ∨ (¬ a < 0 ∧ fX0_push hi n = some hi' ∧ SIM K n' B'))
theorem DOES.congr {K : Nat} {n : OS} {F G : HS → OS → OS → Option (Int32 × HS × OS × OS × OS)} (he : ∀ hi o r, F hi o r = G hi o r) (h : DOES K n G) : DOES K n F := by
  obtain ⟨a, B', h⟩ := h
  refine ⟨a, B', fun hi o r hl => ?_⟩
  rw [he]
  exact h hi o r hl
theorem recd_n {kx o : OS} {hi : HS} {a : Int32} (ha : a < 0) : fX5_recorded kx hi o a = some (a, hi) := by
  unfold fX5_recorded; rw [if_pos ha]
theorem recd_p {kx o : OS} {hi hi' : HS} {a : Int32} (ha : ¬ a < 0) (hp : fX0_push hi o = some hi') : fX5_recorded kx hi o a = some (a, hi') := by
  unfold fX5_recorded; rw [if_neg ha, hp, Option.bind_some]
theorem lt_of_nle {a : Int32} (h : ¬ (0 : Int32) ≤ a) : a < 0 := by
  rw [Int32.le_iff_toInt_le] at h
  rw [Int32.lt_iff_toInt_lt]
  omega
theorem nlt_of_le {a : Int32} (h : (0 : Int32) ≤ a) : ¬ a < 0 := by
  rw [Int32.le_iff_toInt_le] at h
  rw [Int32.lt_iff_toInt_lt]
  omega
theorem win {a b : Nat} {lo hi : Int32} (hlo : lo = nI a) (hhi : hi = nI b) (ha : a < 2 ^ 31) (hb : b < 2 ^ 31) (x : Int32) : fX5_within x lo hi = (0 : Int32) ∨ (fX5_within x lo hi = (1 : Int32) ∧ ∃ k, a ≤ k ∧ k ≤ b ∧ x = nI k) := by
  subst hlo hhi
  unfold fX5_within
  by_cases h1 : x < nI a
  · left; rw [if_pos h1]
  · by_cases h2 : nI b < x
    · left; rw [if_neg h1, if_pos h2]
    · right
      rw [if_neg h1, if_neg h2]
      have h0 : ¬ x < 0 := by
        intro h0
        apply h1
        rw [Int32.lt_iff_toInt_lt] at h0 ⊢
        rw [nI_toInt ha]
        have : (0 : Int32).toInt = 0 := by decide
        omega
      obtain ⟨k, hk, rfl⟩ := nI_of h0
      rw [nI_ltI hk ha] at h1
      rw [nI_ltI hb hk] at h2
      exact ⟨rfl, k, by omega, by omega, rfl⟩
def fL_actB (kx : OS) (hi : HS) (x : OS) (o : OS) (sn : OS) (r : OS) (n : OS) (x2 : Int32) (al : Int32) (mi : Int32) (w : Int32) : Option (Int32 × HS × OS × OS × OS) :=
  if w = (0 : Int32) then
   Option.bind (α := Int32) (fL_up x2 (al + (1 : Int32))) (fun v5 =>
   Option.bind (α := Int32 × HS × OS × OS) (fX5_disconnect kx hi o r n v5) (fun v6 =>
   some (v6.1, v6.2.1, v6.2.2.1, r, v6.2.2.2)))
  else
  if w = (1 : Int32) then
   Option.bind (α := Int32) (fL_up x2 (al + (1 : Int32))) (fun v7 =>
   Option.bind (α := Int32 × HS × OS × OS) (fX5_disconnect kx hi o r n v7) (fun v8 =>
   some (v8.1, v8.2.1, v8.2.2.1, r, v8.2.2.2)))
  else
  if w = (2 : Int32) then
   Option.bind (α := Int32) (fL_up x2 (mi + (1 : Int32))) (fun v10 =>
   Option.bind (α := Int32 × HS × OS × OS × OS) (fX5_takeOut kx hi o r n v10) (fun v11 =>
   some (v11.1, v11.2.1, v11.2.2.1, v11.2.2.2.1, v11.2.2.2.2)))
  else
  if w = (3 : Int32) then
   Option.bind (α := Int32) (fL_up x2 (mi + (1 : Int32))) (fun v13 =>
   Option.bind (α := Int32 × HS × OS × OS) (fX5_putBack kx hi o r n v13) (fun v14 =>
   some (v14.1, v14.2.1, v14.2.2.1, r, v14.2.2.2)))
  else
  if w = (4 : Int32) then
   Option.bind (α := Int32 × HS × OS × OS × OS) (fX5_pack kx hi o r n) (fun v15 =>
   some (v15.1, v15.2.1, v15.2.2.1, v15.2.2.2.1, v15.2.2.2.2))
  else
  if w = (5 : Int32) then
   Option.bind (α := Int32) (fL_up x2 (4 : Int32)) (fun v16 =>
   Option.bind (α := Int32 × HS × OS) (fX5_setChoiceRule kx hi n v16) (fun v17 =>
   some (v17.1, v17.2.1, o, r, v17.2.2)))
  else
  if w = (6 : Int32) then
   Option.bind (α := Int32) (fL_up x2 (3 : Int32)) (fun v18 =>
   Option.bind (α := Int32 × HS × OS) (fX5_setPairRule kx hi n v18) (fun v19 =>
   some (v19.1, v19.2.1, o, r, v19.2.2)))
  else
  if w = (7 : Int32) then
   if (x2 &&& (3 : Int32)) = (0 : Int32) then
    Option.bind (α := Int32) (fL_up (x2 >>> ((2 : Int32) &&& 31)) (8 : Int32)) (fun v24 =>
    Option.bind (α := Int32) (fL_up (x2 >>> ((5 : Int32) &&& 31)) (6 : Int32)) (fun v25 =>
    Option.bind (α := Int32) (fL_up (x2 >>> ((8 : Int32) &&& 31)) (8 : Int32)) (fun v26 =>
    Option.bind (α := Int32 × HS × OS) (fX5_setUp kx hi n ((1 : Int32) + v24) ((1 : Int32) + v25) ((1 : Int32) + v26)) (fun v27 =>
    some (v27.1, v27.2.1, o, r, v27.2.2)))))
   else
    Option.bind (α := Int32) (fL_up x2 al) (fun v21 =>
    Option.bind (α := Int32) (fL_up (x2 >>> ((7 : Int32) &&& 31)) al) (fun v22 =>
    Option.bind (α := Int32 × HS × OS × OS × OS) (fX5_connect kx hi o r n v21 v22) (fun v23 =>
    some (v23.1, v23.2.1, v23.2.2.1, v23.2.2.2.1, v23.2.2.2.2))))
  else
  if w = (8 : Int32) then
   if (x2 &&& (3 : Int32)) = (0 : Int32) then
    Option.bind (α := Int32 × HS × OS) (fX5_restore kx hi sn n) (fun v32 =>
    some (v32.1, v32.2.1, o, r, v32.2.2))
   else
    Option.bind (α := Int32) (fL_up x2 al) (fun v29 =>
    Option.bind (α := Int32) (fL_up (x2 >>> ((7 : Int32) &&& 31)) al) (fun v30 =>
    Option.bind (α := Int32 × HS × OS × OS × OS) (fX5_connect kx hi o r n v29 v30) (fun v31 =>
    some (v31.1, v31.2.1, v31.2.2.1, v31.2.2.2.1, v31.2.2.2.2))))
  else
   Option.bind (α := Int32) (fL_up x2 (al + (1 : Int32))) (fun v33 =>
   Option.bind (α := Int32) (fL_up (x2 >>> ((7 : Int32) &&& 31)) (al + (1 : Int32))) (fun v34 =>
   Option.bind (α := Int32 × HS × OS × OS × OS) (fX5_connect kx hi o r n v33 v34) (fun v35 =>
   some (v35.1, v35.2.1, v35.2.2.1, v35.2.2.2.1, v35.2.2.2.2))))
section DO
variable {K : Nat} {n kx : OS} {B : Nat → Int32}
/-- from a call's own part and its record -/
theorem DOES.rec {F : HS → OS → OS → Option (Int32 × HS × OS × OS × OS)} {a : Int32} {B' : Nat → Int32} (h : ∀ r, ∃ r' n', (∀ hi o, F hi o r = Option.bind (fX5_recorded kx hi n a) (fun v2 => some (v2.1, v2.2, n, r', n'))) ∧ ((a < 0 ∧ n' = n) ∨ (¬ a < 0 ∧ SIM K n' B'))) : DOES K n F := by
  refine ⟨a, B', fun hi o r hl => ?_⟩
  obtain ⟨r', n', e, hor⟩ := h r
  rw [e]
  rcases hor with ⟨h1, h2⟩ | ⟨h1, h2⟩
  · exact ⟨hi, n, r', n', by rw [recd_n h1, Option.bind_some], Or.inl ⟨h1, rfl, h2⟩⟩
  · obtain ⟨lt, hlt, e1⟩ := hl
    have hp := c_push (o := n) e1 hlt
    exact ⟨_, n, r', n', by rw [recd_p h1 hp, Option.bind_some], Or.inr ⟨h1, hp, h2⟩⟩
theorem d_connect (h : SIM K n B) (hK : K + 1 < 2 ^ 30) (x1 x2 : Int32) : DOES (K + 1) n (fun hi o r => Option.bind (fX5_connect kx hi o r n x1 x2) (fun v => some (v.1, v.2.1, v.2.2.1, v.2.2.2.1, v.2.2.2.2))) := by
  obtain ⟨bo, li, mi, sv, cn, cs, v⟩ := h.vw
  have neg : ∀ {a : Int32}, a < 0 → (∀ r, ∃ r', fX3_tryCall r n x1 x2 = some (a, r')) → DOES (K + 1) n (fun hi o r => Option.bind (fX5_connect kx hi o r n x1 x2) (fun v => some (v.1, v.2.1, v.2.2.1, v.2.2.2.1, v.2.2.2.2))) := by
    intro a ha hr
    refine DOES.rec (a := a) (B' := B) (kx := kx) (fun r => ?_)
    obtain ⟨r', e⟩ := hr r
    refine ⟨r', n, fun hi o => ?_, Or.inl ⟨ha, rfl⟩⟩
    unfold fX5_connect fX3_join
    rw [e, Option.bind_some, if_neg (fun q => nlt_of_le q ha), Option.bind_some]
    cases fX5_recorded kx hi n a <;> rfl
  rcases try_ex v hK x1 x2 with ⟨h1, -⟩ | ⟨i, o, hi, ho, rfl, rfl, ⟨h1, -⟩ | ⟨-, -, ⟨h1, -⟩ | ⟨-, -, -, m, c, B', hm, hc, hz, h1⟩⟩⟩
  · exact neg (by decide) (fun r => ⟨r, h1 r⟩)
  · exact neg (by decide) (fun r => ⟨r, h1 r⟩)
  · exact neg (by decide) (fun r => ⟨_, h1 r⟩)
  · refine DOES.rec (a := nI m) (B' := B') (kx := kx) (fun r => ?_)
    obtain ⟨r', n', cs', e1, e2, e3, -⟩ := h1 r
    refine ⟨r', n', fun hi o => ?_, Or.inr ⟨nI_pos (by omega), e3.sim⟩⟩
    unfold fX5_connect fX3_join
    rw [e1, Option.bind_some, if_pos (nI_pos' (by omega))]
    simp only [jn]
    rw [e2, Option.bind_some, Option.bind_some]
    cases fX5_recorded kx hi n (nI m) <;> rfl
theorem d_disconnect (h : SIM K n B) (x1 : Int32) : DOES K n (fun hi o r => Option.bind (fX5_disconnect kx hi o r n x1) (fun v => some (v.1, v.2.1, v.2.2.1, r, v.2.2.2))) := by
  obtain ⟨a, n', g', h1, -, -, h4⟩ := part_sim (g := cg B) (bb := 0) (by rw [blk_cg]; exact h) (by decide) x1
  refine DOES.rec (a := a) (B' := blk g' 0) (kx := kx) (fun r => ⟨r, n', fun hi o => ?_, ?_⟩)
  · have h1' : fX3_part r n x1 = (a, n') := h1
    unfold fX5_disconnect
    simp only [jn]
    rw [h1']
    cases fX5_recorded kx hi n a <;> rfl
  · rcases h4 with ⟨z1, z2, z3⟩ | ⟨z1, z2⟩
    · exact Or.inl ⟨lt_of_nle z1, z3⟩
    · exact Or.inr ⟨nlt_of_le z1, z2⟩
theorem d_takeOut (h : SIM K n B) (x1 : Int32) : DOES K n (fun hi o r => Option.bind (fX5_takeOut kx hi o r n x1) (fun v => some (v.1, v.2.1, v.2.2.1, v.2.2.2.1, v.2.2.2.2))) := by
  have hb : SIM K n (blk (cg B) 0) := by rw [blk_cg]; exact h
  obtain ⟨a, -, -, g', -, w2, -, -⟩ := retire_sim (r := n) hb (by decide) x1
  refine DOES.rec (a := a) (B' := blk g' 0) (kx := kx) (fun r => ?_)
  obtain ⟨a1, r', n', g1, h1, h2, h3, h4⟩ := retire_sim (r := r) hb (by decide) x1
  rw [w2] at h2
  have hag := Option.some.inj h2
  have ea : a = a1 := congrArg Prod.fst hag
  have eg : g' = g1 := congrArg Prod.snd hag
  subst ea
  subst eg
  refine ⟨r', n', fun hi o => ?_, ?_⟩
  · unfold fX5_takeOut
    rw [h1, Option.bind_some]
    cases fX5_recorded kx hi n a <;> rfl
  · rcases h4 with ⟨z1, z2, z3⟩ | ⟨z1, z2, z3⟩ | ⟨z1, z2⟩
    · exact Or.inl ⟨lt_of_nle z1, z3⟩
    · exact Or.inl ⟨by rw [z1]; decide, z2⟩
    · exact Or.inr ⟨nlt_of_le z1, z2⟩
theorem d_putBack (h : SIM K n B) (x1 : Int32) : DOES K n (fun hi o r => Option.bind (fX5_putBack kx hi o r n x1) (fun v => some (v.1, v.2.1, v.2.2.1, r, v.2.2.2))) := by
  obtain ⟨a, n', g', h1, -, -, h4⟩ := revive_sim (g := cg B) (bb := 0) (by rw [blk_cg]; exact h) (by decide) x1
  refine DOES.rec (a := a) (B' := blk g' 0) (kx := kx) (fun r => ⟨r, n', fun hi o => ?_, ?_⟩)
  · have h1' : fX3_revive r n x1 = (a, n') := h1
    unfold fX5_putBack
    simp only [jn]
    rw [h1']
    cases fX5_recorded kx hi n a <;> rfl
  · rcases h4 with ⟨z1, z2, z3⟩ | ⟨z1, z2, z3⟩ | ⟨z1, z2⟩
    · exact Or.inl ⟨lt_of_nle z1, z3⟩
    · exact Or.inl ⟨by rw [z1]; decide, z2⟩
    · exact Or.inr ⟨nlt_of_le z1, z2⟩
theorem d_pack (h : SIM K n B) : DOES K n (fun hi o r => Option.bind (fX5_pack kx hi o r n) (fun v => some (v.1, v.2.1, v.2.2.1, v.2.2.2.1, v.2.2.2.2))) := by
  have hb : SIM K n (blk (cg B) 0) := by rw [blk_cg]; exact h
  obtain ⟨a, -, -, g', -, w2, -, -⟩ := repack_sim (r := n) hb (by decide)
  refine DOES.rec (a := a) (B' := blk g' 0) (kx := kx) (fun r => ?_)
  obtain ⟨a1, r', n', g1, h1, h2, h3, h4⟩ := repack_sim (r := r) hb (by decide)
  rw [w2] at h2
  have hag := Option.some.inj h2
  have ea : a = a1 := congrArg Prod.fst hag
  have eg : g' = g1 := congrArg Prod.snd hag
  subst ea
  subst eg
  refine ⟨r', n', fun hi o => ?_, ?_⟩
  · unfold fX5_pack
    rw [h1, Option.bind_some]
    cases fX5_recorded kx hi n a <;> rfl
  · rcases h4 with ⟨z1, z2, z3⟩ | ⟨z1, z2⟩
    · exact Or.inl ⟨by rw [z1]; decide, z2⟩
    · exact Or.inr ⟨nlt_of_le z1, z2⟩
/-- calls that keep a state before they change -/
theorem DOES.one {F : HS → OS → OS → Option (Int32 × HS × OS × OS × OS)} {a : Int32} {n' : OS} {B' : Nat → Int32} (h : (a < 0 ∧ n' = n ∧ ∀ hi o r, F hi o r = some (a, hi, o, r, n)) ∨ (¬ a < 0 ∧ SIM K n' B' ∧ ∀ hi o r, F hi o r = Option.bind (fX0_push hi n) (fun w => some (a, w, o, r, n')))) : DOES K n F := by
  refine ⟨a, B', fun hi o r hl => ?_⟩
  rcases h with ⟨h1, h2, h3⟩ | ⟨h1, h2, h3⟩
  · exact ⟨hi, o, r, n, h3 hi o r, Or.inl ⟨h1, rfl, rfl⟩⟩
  · obtain ⟨lt, hlt, e1⟩ := hl
    have hp := c_push (o := n) e1 hlt
    exact ⟨_, o, r, n', by rw [h3, hp, Option.bind_some], Or.inr ⟨h1, hp, h2⟩⟩
theorem d_choice (h : SIM K n B) (x1 : Int32) : DOES K n (fun hi o r => Option.bind (fX5_setChoiceRule kx hi n x1) (fun v => some (v.1, v.2.1, o, r, v.2.2))) := by
  have hb : SIM K n (blk (cg B) 0) := by rw [blk_cg]; exact h
  by_cases hw : fX5_within x1 (0 : Int32) (2 : Int32) = (0 : Int32)
  · refine DOES.one (a := (-2 : Int32)) (n' := n) (B' := B) (Or.inl ⟨by decide, rfl, fun hi o r => ?_⟩)
    unfold fX5_setChoiceRule
    rw [if_pos hw]; rfl
  by_cases he : x1 = n.1 4
  · refine DOES.one (a := (-6 : Int32)) (n' := n) (B' := B) (Or.inl ⟨by decide, rfl, fun hi o r => ?_⟩)
    unfold fX5_setChoiceRule
    rw [if_neg hw, if_pos he]; rfl
  · have h0 : (0 : Int32) ≤ x1 := by
      unfold fX5_within at hw
      by_cases hlt : x1 < (0 : Int32)
      · rw [if_pos hlt] at hw; exact absurd rfl hw
      · rw [Int32.le_iff_toInt_le]; rw [Int32.lt_iff_toInt_lt] at hlt; omega
    refine DOES.one (a := n.1 4) (n' := setF n 4 x1) (B' := _) (Or.inr ⟨nlt_of_le h.2, hb.rule4 h0, fun hi o r => ?_⟩)
    unfold fX5_setChoiceRule
    rw [if_neg hw, if_neg he]
    cases fX0_push hi n <;> rfl
theorem d_pairs (h : SIM K n B) (x1 : Int32) : DOES K n (fun hi o r => Option.bind (fX5_setPairRule kx hi n x1) (fun v => some (v.1, v.2.1, o, r, v.2.2))) := by
  have hb : SIM K n (blk (cg B) 0) := by rw [blk_cg]; exact h
  obtain ⟨e5, ep, e4, e40⟩ := h.pair
  by_cases hw : fX5_within x1 (0 : Int32) (1 : Int32) = (0 : Int32)
  · refine DOES.one (a := (-2 : Int32)) (n' := n) (B' := B) (Or.inl ⟨by decide, rfl, fun hi o r => ?_⟩)
    unfold fX5_setPairRule
    rw [if_pos hw]; rfl
  by_cases he : x1 = n.1 5
  · refine DOES.one (a := (-6 : Int32)) (n' := n) (B' := B) (Or.inl ⟨by decide, rfl, fun hi o r => ?_⟩)
    unfold fX5_setPairRule
    rw [if_neg hw, if_pos he]; rfl
  · have h01 : x1 = (0 : Int32) ∨ x1 = (1 : Int32) := by
      unfold fX5_within at hw
      by_cases hlt : x1 < (0 : Int32)
      · rw [if_pos hlt] at hw; exact absurd rfl hw
      · by_cases hgt : (1 : Int32) < x1
        · rw [if_neg hlt, if_pos hgt] at hw; exact absurd rfl hw
        · obtain ⟨k, hk, rfl⟩ := nI_of hlt
          have hgt' : ¬ nI 1 < nI k := hgt
          rw [nI_ltI (by decide) hk] at hgt'
          rcases (by omega : k = 0 ∨ k = 1) with rfl | rfl
          · exact Or.inl rfl
          · exact Or.inr rfl
    have h50 : ¬ n.1 5 < 0 := by
      rw [e5]
      rcases ep with e | e <;> rw [e] <;> decide
    refine DOES.one (a := n.1 5) (n' := setF n 5 x1) (B' := _) (Or.inr ⟨h50, hb.rule5 h01, fun hi o r => ?_⟩)
    unfold fX5_setPairRule
    rw [if_neg hw, if_neg he]
    cases fX0_push hi n <;> rfl
def cgm (B : Nat → Int32) : OS := (fun _ => (0 : Int32), fun _ j => B (j % 154))
theorem blk_cgm {B : Nat → Int32} {b j : Nat} (hj : j < 154) : blk (cgm B) (154 * b) j = B j := by
  show B ((154 * b + j) % 154) = B j
  rw [show (154 * b + j) % 154 = j by omega]
theorem d_setUp (h : SIM K n B) (x1 x2 x3 : Int32) : DOES K n (fun hi o r => Option.bind (fX5_setUp kx hi n x1 x2 x3) (fun v => some (v.1, v.2.1, o, r, v.2.2))) := by
  have no : (∀ hi, fX5_setUp kx hi n x1 x2 x3 = some ((-2 : Int32), hi, n)) → DOES K n (fun hi o r => Option.bind (fX5_setUp kx hi n x1 x2 x3) (fun v => some (v.1, v.2.1, o, r, v.2.2))) := fun e =>
    DOES.one (a := (-2 : Int32)) (n' := n) (B' := B) (Or.inl ⟨by decide, rfl, fun hi o r => by rw [e]; rfl⟩)
  rcases win (a := 2) (b := 8) (lo := (2 : Int32)) (hi := (8 : Int32)) rfl rfl (by decide) (by decide) x1 with u | ⟨u, b, hb2, hb8, rfl⟩
  · exact no (fun hi => by unfold fX5_setUp; rw [if_pos u])
  rcases win (a := 1) (b := 6) (lo := (1 : Int32)) (hi := (6 : Int32)) rfl rfl (by decide) (by decide) x2 with v | ⟨v, l, hl1, hl6, rfl⟩
  · exact no (fun hi => by unfold fX5_setUp; rw [u, if_neg ne10, if_pos v])
  rcases win (a := 1) (b := 8) (lo := (1 : Int32)) (hi := (8 : Int32)) rfl rfl (by decide) (by decide) x3 with w | ⟨w, m, hm1, hm8, rfl⟩
  · exact no (fun hi => by unfold fX5_setUp; rw [u, v, if_neg ne10, if_neg ne10, if_pos w])
  have s0 : SIM K n (blk (cgm B) 0) := h.congr (fun j hj => blk_cgm (b := 0) hj)
  have s9 : SIM K n (blk (cgm B) 924) := h.congr (fun j hj => blk_cgm (b := 6) hj)
  obtain ⟨c, n', g3, hc, b1, -, -, -, b5⟩ := rebuild_sim s0 s9 hb2 hb8 hl1 hl6 hm1 hm8
  refine DOES.one (a := nI c) (n' := n') (B' := blk g3 924) (Or.inr ⟨nI_pos (by omega), b5, fun hi o r => ?_⟩)
  unfold fX5_setUp
  rw [u, v, w, if_neg ne10, if_neg ne10, if_neg ne10]
  cases fX0_push hi n with
  | none => rfl
  | some hi' => rw [Option.bind_some, b1]; rfl
theorem d_restore {sn : OS} {Bs : Nat → Int32} (hk : kx.1 7 = (1 : Int32)) (hs : SIM K sn Bs) : DOES K n (fun hi o r => Option.bind (fX5_restore kx hi sn n) (fun v => some (v.1, v.2.1, o, r, v.2.2))) := by
  obtain ⟨c, hc, c1, -⟩ := calls_sim (g := cg Bs) (bb := 0) (by rw [blk_cg]; exact hs) (by decide)
  refine DOES.one (a := nI c) (n' := sn) (B' := Bs) (Or.inr ⟨nI_pos (by omega), hs, fun hi o r => ?_⟩)
  unfold fX5_restore
  rw [if_neg (show ¬ kx.1 7 = (0 : Int32) by rw [hk]; decide)]
  cases fX0_push hi n with
  | none => rfl
  | some hi' => rw [Option.bind_some, c1]; rfl
end DO
theorem up_ex (v : Int32) {m : Nat} (h0 : 0 < m) (hm : m < 2 ^ 31) : ∃ u, u < m ∧ fL_up v (nI m) = some (nI u) := by
  obtain ⟨j, hj, e⟩ := pk_andE v (m := (2147483647 : Int32)) 31 (by decide)
  refine ⟨j % m, Nat.mod_lt _ h0, ?_⟩
  unfold fL_up
  rw [if_pos (nI_ne0 h0 hm), e, pk_rem hj h0 hm]
/-- the law's act -/
theorem d_act {K : Nat} {n kx x sn : OS} {B Bs : Nat → Int32} (h : SIM K n B) (hK : K + 1 < 2 ^ 30) (hk : kx.1 7 = (1 : Int32)) (hs : SIM K sn Bs) (X Y : Int32) : DOES (K + 1) n (fun hi o r => fL_act kx hi x o sn r n X Y) := by
  obtain ⟨bo, li, mi, sv, cn, cs, v⟩ := h.vw
  have h1 : SIM (K + 1) n B := h.mono (by omega)
  have hs1 : SIM (K + 1) sn Bs := hs.mono (by omega)
  have h48 := v.W.n48
  have b2 := v.W.bo2
  have l1 := v.W.li1
  have m1 := v.W.mi1
  have m8 := v.W.mi8
  have pos : 0 < bo * li := Nat.mul_pos (by omega) (by omega)
  obtain ⟨w, hw16, hw⟩ := up_ex X (m := 16) (by decide) (by decide)
  have hw' : fL_up X (16 : Int32) = some (nI w) := hw
  have base : ∀ hi o r, fL_act kx hi x o sn r n X Y = fL_actB kx hi x o sn r n Y (nI (bo * li)) (nI mi) (nI w) := by
    intro hi o r
    unfold fL_act fL_actB
    rw [v_t0 v, v_t1 v, v_t2 v]
    simp only [Option.bind_some]
    rw [hw', Option.bind_some, pk_mul]
  refine DOES.congr base ?_
  obtain ⟨u1, hu1, eu1⟩ := up_ex Y (m := bo * li + 1) (by omega) (by omega)
  obtain ⟨u2, hu2, eu2⟩ := up_ex Y (m := mi + 1) (by omega) (by omega)
  obtain ⟨u3, hu3, eu3⟩ := up_ex Y (m := 4) (by decide) (by decide)
  obtain ⟨u4, hu4, eu4⟩ := up_ex Y (m := 3) (by decide) (by decide)
  obtain ⟨u5, hu5, eu5⟩ := up_ex (Y >>> ((2 : Int32) &&& 31)) (m := 8) (by decide) (by decide)
  obtain ⟨u6, hu6, eu6⟩ := up_ex (Y >>> ((5 : Int32) &&& 31)) (m := 6) (by decide) (by decide)
  obtain ⟨u7, hu7, eu7⟩ := up_ex (Y >>> ((8 : Int32) &&& 31)) (m := 8) (by decide) (by decide)
  obtain ⟨u8, hu8, eu8⟩ := up_ex Y (m := bo * li) pos (by omega)
  obtain ⟨u9, hu9, eu9⟩ := up_ex (Y >>> ((7 : Int32) &&& 31)) (m := bo * li) pos (by omega)
  obtain ⟨ua, hua, eua⟩ := up_ex (Y >>> ((7 : Int32) &&& 31)) (m := bo * li + 1) (by omega) (by omega)
  rw [← nI_succ1] at eu1 eu2 eua
  have eu3' : fL_up Y (4 : Int32) = some (nI u3) := eu3
  have eu4' : fL_up Y (3 : Int32) = some (nI u4) := eu4
  have eu5' : fL_up (Y >>> ((2 : Int32) &&& 31)) (8 : Int32) = some (nI u5) := eu5
  have eu6' : fL_up (Y >>> ((5 : Int32) &&& 31)) (6 : Int32) = some (nI u6) := eu6
  have eu7' : fL_up (Y >>> ((8 : Int32) &&& 31)) (8 : Int32) = some (nI u7) := eu7
  unfold fL_actB
  by_cases c0 : nI w = (0 : Int32)
  · refine DOES.congr (fun hi o r => ?_) (d_disconnect (kx := kx) h1 (nI u1))
    rw [if_pos c0, eu1, Option.bind_some]
  by_cases c1 : nI w = (1 : Int32)
  · refine DOES.congr (fun hi o r => ?_) (d_disconnect (kx := kx) h1 (nI u1))
    rw [if_neg c0, if_pos c1, eu1, Option.bind_some]
  by_cases c2 : nI w = (2 : Int32)
  · refine DOES.congr (fun hi o r => ?_) (d_takeOut (kx := kx) h1 (nI u2))
    rw [if_neg c0, if_neg c1, if_pos c2, eu2, Option.bind_some]
  by_cases c3 : nI w = (3 : Int32)
  · refine DOES.congr (fun hi o r => ?_) (d_putBack (kx := kx) h1 (nI u2))
    rw [if_neg c0, if_neg c1, if_neg c2, if_pos c3, eu2, Option.bind_some]
  by_cases c4 : nI w = (4 : Int32)
  · refine DOES.congr (fun hi o r => ?_) (d_pack (kx := kx) h1)
    rw [if_neg c0, if_neg c1, if_neg c2, if_neg c3, if_pos c4]
  by_cases c5 : nI w = (5 : Int32)
  · refine DOES.congr (fun hi o r => ?_) (d_choice (kx := kx) h1 (nI u3))
    rw [if_neg c0, if_neg c1, if_neg c2, if_neg c3, if_neg c4, if_pos c5, eu3', Option.bind_some]
  by_cases c6 : nI w = (6 : Int32)
  · refine DOES.congr (fun hi o r => ?_) (d_pairs (kx := kx) h1 (nI u4))
    rw [if_neg c0, if_neg c1, if_neg c2, if_neg c3, if_neg c4, if_neg c5, if_pos c6, eu4', Option.bind_some]
  by_cases c7 : nI w = (7 : Int32)
  · by_cases cy : (Y &&& (3 : Int32)) = (0 : Int32)
    · refine DOES.congr (fun hi o r => ?_) (d_setUp (kx := kx) h1 ((1 : Int32) + nI u5) ((1 : Int32) + nI u6) ((1 : Int32) + nI u7))
      rw [if_neg c0, if_neg c1, if_neg c2, if_neg c3, if_neg c4, if_neg c5, if_neg c6, if_pos c7, if_pos cy, eu5', Option.bind_some, eu6', Option.bind_some, eu7', Option.bind_some]
    · refine DOES.congr (fun hi o r => ?_) (d_connect (kx := kx) h hK (nI u8) (nI u9))
      rw [if_neg c0, if_neg c1, if_neg c2, if_neg c3, if_neg c4, if_neg c5, if_neg c6, if_pos c7, if_neg cy, eu8, Option.bind_some, eu9, Option.bind_some]
  by_cases c8 : nI w = (8 : Int32)
  · by_cases cy : (Y &&& (3 : Int32)) = (0 : Int32)
    · refine DOES.congr (fun hi o r => ?_) (d_restore (kx := kx) (n := n) hk hs1)
      rw [if_neg c0, if_neg c1, if_neg c2, if_neg c3, if_neg c4, if_neg c5, if_neg c6, if_neg c7, if_pos c8, if_pos cy]
    · refine DOES.congr (fun hi o r => ?_) (d_connect (kx := kx) h hK (nI u8) (nI u9))
      rw [if_neg c0, if_neg c1, if_neg c2, if_neg c3, if_neg c4, if_neg c5, if_neg c6, if_neg c7, if_pos c8, if_neg cy, eu8, Option.bind_some, eu9, Option.bind_some]
  · refine DOES.congr (fun hi o r => ?_) (d_connect (kx := kx) h hK (nI u1) (nI ua))
    rw [if_neg c0, if_neg c1, if_neg c2, if_neg c3, if_neg c4, if_neg c5, if_neg c6, if_neg c7, if_neg c8, eu1, Option.bind_some, eua, Option.bind_some]
