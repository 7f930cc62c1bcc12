/-! the history: its own two cells and four networks -/
abbrev HS : Type := (Nat → Int32) × (Nat → OS)
def hdW (cN : ClassId) (h : Nat → Nat) (hq : Nat → Nat → Nat) (s : Nat → Int32) : va_W := [(h 0, .inr (0, [.ref (h 1), .int (s 1), .int (s 2)])), (h 1, .inl (cN, 4, .inr (.inr (.inr (.inr (fun k => some (hq k 0)))))))]
def hiW (cI cN : ClassId) (h : Nat → Nat) (hq : Nat → Nat → Nat) (s : HS) : va_W := hdW cN h hq s.1 ++ (nwW cI (hq 0) (s.2 0) ++ (nwW cI (hq 1) (s.2 1) ++ (nwW cI (hq 2) (s.2 2) ++ nwW cI (hq 3) (s.2 3))))
theorem ad_his {cI cN : ClassId} {h : Nat → Nat} {hq : Nat → Nat → Nat} {s s' : HS} : (hiW cI cN h hq s').map Prod.fst = (hiW cI cN h hq s).map Prod.fst := rfl
theorem hi_cat {cI cN : ClassId} {h : Nat → Nat} {hq : Nat → Nat → Nat} {s : HS} {q : Nat → Nat} {n : OS} : hiW cI cN h hq s ++ nwW cI q n = hdW cN h hq s.1 ++ (nwW cI (hq 0) (s.2 0) ++ (nwW cI (hq 1) (s.2 1) ++ (nwW cI (hq 2) (s.2 2) ++ (nwW cI (hq 3) (s.2 3) ++ nwW cI q n)))) := by
  unfold hiW; simp only [List.append_assoc]
def pushK (s : HS) (n : OS) (j : Nat) : HS := (upd (upd s.1 1 (nI j)) 2 (if (4 : Int32) < (s.1 2 + (1 : Int32)) then (4 : Int32) else (s.1 2 + (1 : Int32))), fun i => if i = j then n else s.2 i)
def backK (s : HS) (j : Nat) : HS := (upd (upd s.1 1 (nI j)) 2 (s.1 2 - (1 : Int32)), s.2)
def fX0_push (s : HS) (n : OS) : Option HS :=
  if s.1 1 = nI 0 then some (pushK s n 1) else if s.1 1 = nI 1 then some (pushK s n 2) else if s.1 1 = nI 2 then some (pushK s n 3) else if s.1 1 = nI 3 then some (pushK s n 0) else none
def fX0_takeBack (s : HS) (n : OS) : Option (Int32 × HS × OS) :=
  if s.1 1 = nI 0 then (if s.1 2 = (0 : Int32) then some ((-6 : Int32), s, n) else some (s.1 2 - (1 : Int32), backK s 3, s.2 0))
  else if s.1 1 = nI 1 then (if s.1 2 = (0 : Int32) then some ((-6 : Int32), s, n) else some (s.1 2 - (1 : Int32), backK s 0, s.2 1))
  else if s.1 1 = nI 2 then (if s.1 2 = (0 : Int32) then some ((-6 : Int32), s, n) else some (s.1 2 - (1 : Int32), backK s 1, s.2 2))
  else if s.1 1 = nI 3 then (if s.1 2 = (0 : Int32) then some ((-6 : Int32), s, n) else some (s.1 2 - (1 : Int32), backK s 2, s.2 3))
  else none
