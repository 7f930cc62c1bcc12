/-! the fault of a text: both sides find the same -/
/-- the fault behind place p, if there is one (d orders at most) -/
def flt (len : Nat) (T : Nat → Nat) : Nat → Nat → Option Nat
  | 0, p => some p
  | d + 1, p => match (rd len T p).1 with
    | none => some (rd len T p).2
    | some _ => if (rd len T p).2 = len then none else if at_ len T (rd len T p).2 59 = true then flt len T d ((rd len T p).2 + 1) else some (rd len T p).2
section FL
variable {len : Nat} {T : Nat → Nat} {p : Nat}
theorem flt_n {d : Nat} (h : (rd len T p).1 = none) : flt len T (d + 1) p = some (rd len T p).2 := by
  show (match (rd len T p).1 with
    | none => some (rd len T p).2
    | some _ => if (rd len T p).2 = len then none else if at_ len T (rd len T p).2 59 = true then flt len T d ((rd len T p).2 + 1) else some (rd len T p).2) = _
  rw [h]
theorem flt_s {d : Nat} {k : Nat × Nat × Nat} (h : (rd len T p).1 = some k) : flt len T (d + 1) p = (if (rd len T p).2 = len then none else if at_ len T (rd len T p).2 59 = true then flt len T d ((rd len T p).2 + 1) else some (rd len T p).2) := by
  show (match (rd len T p).1 with
    | none => some (rd len T p).2
    | some _ => if (rd len T p).2 = len then none else if at_ len T (rd len T p).2 59 = true then flt len T d ((rd len T p).2 + 1) else some (rd len T p).2) = _
  rw [h]
theorem both_fault : ∀ (d p c k k' : Nat) (x g : OS), len + 1 ≤ p + d → p ≤ len → 2 * c ≤ p → d ≤ k → d ≤ k' → TC len T x → x.1 2 = nI p → TM len T g → g.1 5 = nI p →
    ∃ x' g', fX2_findFault_6 k (nI c) x = some (eN (flt len T d p) (-6), x') ∧ fX6_fault_5 k' g = some (eN (flt len T d p) (-1), g') ∧ TC len T x' ∧ GT g g' ∧ ∀ f, flt len T d p = some f → f ≤ len := by
  intro d
  induction d with
  | zero => intro p c k k' x g h1 h2; omega
  | succ d ih =>
    intro p c k k' x g h1 h2 h3 h4 h5 hx hp hg hq
    have h60 := hx.2.1
    obtain ⟨k, rfl⟩ : ∃ f, k = f + 1 := ⟨k - 1, by omega⟩
    obtain ⟨k', rfl⟩ : ∃ f, k' = f + 1 := ⟨k' - 1, by omega⟩
    obtain ⟨f, x', e1, t1, t2, t3⟩ := c_rd hx hp h2
    obtain ⟨f', g', e2, u1, u2, u3⟩ := m_rd hg hq h2
    obtain ⟨rl, rs⟩ := rd_le (len := len) (T := T) (p := p) h2
    have hg' := hg.of u1
    have g4 : g'.1 4 = nI len := hg'.1
    rw [fX2_findFault_6_s, if_neg (show ¬ (60 : Int32) ≤ nI c from nI_ge (b := 60) (by omega) (by decide)), e1, Option.bind_some, fX6_fault_5_s, e2, Option.bind_some]
    cases hr : (rd len T p).1 with
    | none =>
      have hf : f = (0 : Int32) := by
        rcases t3 with ⟨a, -⟩ | ⟨-, k0, a, b, z, -⟩
        · exact a
        · rw [hr] at z; cases z
      have hf' : f' = (0 : Int32) := by
        rcases u3 with ⟨a, -⟩ | ⟨-, k0, a, b, z, -⟩
        · exact a
        · rw [hr] at z; cases z
      rw [if_pos hf, if_pos hf', flt_n hr, eN_some, eN_some]
      refine ⟨x', g', ?_, ?_, t1, u1, fun z hz => by cases hz; exact rl⟩
      · rw [t2]
      · rw [u2]
    | some kk =>
      have hf : f = (1 : Int32) := by
        rcases t3 with ⟨-, a⟩ | ⟨a, -⟩
        · rw [hr] at a; cases a
        · exact a
      have hf' : f' = (1 : Int32) := by
        rcases u3 with ⟨-, a⟩ | ⟨a, -⟩
        · rw [hr] at a; cases a
        · exact a
      have hlt := rs kk hr
      obtain ⟨p', hp'⟩ : ∃ p', p' = (rd len T p).2 := ⟨_, rfl⟩
      rw [if_neg (show ¬ f = (0 : Int32) by rw [hf]; decide), if_neg (show ¬ f' = (0 : Int32) by rw [hf']; decide), flt_s hr, ← hp']
      rw [← hp'] at t2 u2 rl hlt
      by_cases hl : p' = len
      · rw [if_pos hl, eN_none, eN_none]
        refine ⟨x', g', ?_, ?_, t1, u1, fun z hz => by cases hz⟩
        · rw [if_neg (show ¬ x'.1 2 < x'.1 1 by rw [t2, t1.1, hl]; exact nI_nlt (Nat.le_refl _) (by omega))]
        · rw [if_pos (show g'.1 5 = g'.1 4 by rw [u2, g4, hl])]
      · rw [if_neg hl, if_pos (show x'.1 2 < x'.1 1 by rw [t2, t1.1]; exact nI_lt (by omega) (by omega)), if_neg (show ¬ g'.1 5 = g'.1 4 by rw [u2, g4, nI_eq (by omega) (by omega)]; exact hl)]
        by_cases ha : at_ len T p' 59 = true
        · rw [if_pos ha, c_skip_y (x1 := (59 : Int32)) (c := 59) t1 t2 rl (by decide) rfl ha, m_takes_y (x1 := (59 : Int32)) (c := 59) hg' u2 rl (by decide) rfl ha, Option.bind_some]
          simp only [jn]
          rw [if_neg (show ¬ (1 : Int32) = 0 by decide), nI_succ1]
          obtain ⟨x2, g2, z1, z2, z3, z4, z5⟩ := ih (p' + 1) (c + 1) k k' (setF x' 2 (nI (p' + 1))) (setF g' 5 (nI (p' + 1))) (by omega) (at_iff.mp ha).1 (by omega) (by omega) (by omega) (t1.set (by decide)) set_s (hg'.set (by decide)) set_s
          exact ⟨x2, g2, z1, z2, z3, (u1.trans (GT.set (by decide))).trans z4, z5⟩
        · rw [if_neg ha, c_skip_n (x1 := (59 : Int32)) (c := 59) t1 t2 rl (by decide) rfl ha, m_takes_n (x1 := (59 : Int32)) (c := 59) hg' u2 rl (by decide) rfl ha, Option.bind_some]
          simp only [jn]
          rw [if_pos trivial, if_pos trivial, eN_some, eN_some]
          refine ⟨x', g', ?_, ?_, t1, u1, fun z hz => by cases hz; exact rl⟩
          · rw [t2]
          · rw [u2]
end FL
