/-! the worlds: what the cells of a row, a network, a router, a text, the model are, by a pure state (fields, rows) -/
abbrev OS : Type := (Nat → Int32) × (Nat → Nat → Int32)
def setF (n : OS) (k : Nat) (v : Int32) : OS := (upd n.1 k v, n.2)
def setR (n : OS) (k : Nat) (f : Nat → Int32) : OS := (n.1, fun j => if j = k then f else n.2 j)
def rowN : Nat → Int32 := fun _ => (-6 : Int32)
def rget (f : Nat → Int32) (L : Nat) (i : Int32) : Int32 := if i < 0 then (-6 : Int32) else if Int32.ofNat L ≤ i then (-6 : Int32) else f i.toNatClampNeg
def rset (f : Nat → Int32) (L : Nat) (i v : Int32) : Nat → Int32 := if i < 0 then f else if Int32.ofNat L ≤ i then f else upd f i.toNatClampNeg v
def rwW (cI : ClassId) (a b L : Nat) (f : Nat → Int32) : va_W := [(a, .inr (4, [.ref b])), (b, .inl (cI, L, .inl f))]
def nwW (cI : ClassId) (q : Nat → Nat) (n : OS) : va_W := [(q 0, .inr (1, [.int (n.1 0), .int (n.1 1), .int (n.1 2), .int (n.1 3), .int (n.1 4), .int (n.1 5), .int (n.1 6), .int (n.1 7), .int (n.1 8), .int (n.1 9), .ref (q 1), .ref (q 2), .ref (q 3), .ref (q 4), .ref (q 5), .ref (q 6)])),
  (q 1, .inr (4, [.ref (q 7)])), (q 2, .inr (4, [.ref (q 8)])), (q 3, .inr (4, [.ref (q 9)])), (q 4, .inr (4, [.ref (q 10)])), (q 5, .inr (4, [.ref (q 11)])), (q 6, .inr (4, [.ref (q 12)])),
  (q 7, .inl (cI, 48, .inl (n.2 0))), (q 8, .inl (cI, 48, .inl (n.2 1))), (q 9, .inl (cI, 48, .inl (n.2 2))), (q 10, .inl (cI, 48, .inl (n.2 3))), (q 11, .inl (cI, 64, .inl (n.2 4))), (q 12, .inl (cI, 64, .inl (n.2 5)))]
def rtW (cI : ClassId) (t : Nat → Nat) (r : OS) : va_W := [(t 0, .inr (3, [.ref (t 1), .int (r.1 1), .int (r.1 2), .int (r.1 3), .ref (t 2)])), (t 1, .inr (4, [.ref (t 3)])), (t 2, .inr (4, [.ref (t 4)])), (t 3, .inl (cI, 16, .inl (r.2 0))), (t 4, .inl (cI, 48, .inl (r.2 1)))]
def txW (cI : ClassId) (u : Nat → Nat) (x : OS) : va_W := [(u 0, .inr (2, [.ref (u 1), .int (x.1 1), .int (x.1 2), .int (x.1 3), .int (x.1 4), .int (x.1 5)])), (u 1, .inr (4, [.ref (u 2)])), (u 2, .inl (cI, 60, .inl (x.2 0)))]
def mdW (cI : ClassId) (z : Nat → Nat) (g : OS) : va_W := [(z 0, .inr (6, [.ref (z 1), .int (g.1 1), .int (g.1 2), .ref (z 2), .int (g.1 4), .int (g.1 5), .int (g.1 6), .int (g.1 7), .int (g.1 8), .ref (z 3), .int (g.1 10), .ref (z 4)])), (z 1, .inl (cI, 1078, .inl (g.2 0))), (z 2, .inl (cI, 60, .inl (g.2 1))), (z 3, .inl (cI, 48, .inl (g.2 2))), (z 4, .inl (cI, 48, .inl (g.2 3)))]
def cxW (a a0 a1 a2 a3 a4 a5 a6 : Nat) (k : Int32) : va_W := [(a, .inr (5, [.ref a0, .ref a1, .ref a2, .ref a3, .ref a4, .ref a5, .ref a6, .int k]))]
def pickW (ws : va_W) (is : List Nat) : va_W := is.filterMap (fun i => ws[i]?)
theorem cell_ce {cA : ClassId} {n : Nat} {f g : Nat → Int32} (h : ∀ j, j < n → f j = g j) : vp_cell cA (n, .inl f) = vp_cell cA (n, .inl g) := by
  rw [vp_cell_i, vp_cell_i]
  unfold arrV
  congr 1
  apply Array.ext
  · simp
  · intro i h1 h2
    simp only [Array.getElem_ofFn]
    rw [h i (by simpa using h1)]
theorem P_ce {D : va_G} {cl : List vw_C} {ws : va_W} {H : Heap} (h : va_P D cl ws H) {k b n : Nat} {cA : ClassId} {f g : Nat → Int32} (hk : ws[k]? = some (b, .inl (cA, n, .inl f))) (hfg : ∀ j, j < n → f j = g j) : va_P D cl (ws.set k (b, .inl (cA, n, .inl g))) H := by
  intro i q hq
  have hl := (List.getElem?_eq_some_iff.mp hk).1
  by_cases hi : i = k
  · subst hi
    rw [List.getElem?_set_self hl] at hq
    cases hq
    show H[b]? = some (vp_cell _ _)
    rw [← cell_ce hfg]
    exact h i _ hk
  · rw [List.getElem?_set_ne (Ne.symm hi)] at hq
    exact h i q hq
