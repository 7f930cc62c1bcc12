def fX5_setUp (kx : OS) (hi : HS) (n : OS) (x1 : Int32) (x2 : Int32) (x3 : Int32) : Option (Int32 × HS × OS) :=
  if (fX5_within x1 (2 : Int32) (8 : Int32)) = (0 : Int32) then
   some ((-2 : Int32), hi, n)
  else
   if (fX5_within x2 (1 : Int32) (6 : Int32)) = (0 : Int32) then
    some ((-2 : Int32), hi, n)
   else
    if (fX5_within x3 (1 : Int32) (8 : Int32)) = (0 : Int32) then
     some ((-2 : Int32), hi, n)
    else
     Option.bind (α := HS) (fX0_push hi n) (fun v4 =>
     Option.bind (α := Int32 × OS) (fX1_rebuild n x1 x2 x3) (fun v5 =>
     some (v5.1, v4, v5.2)))
def fX5_setChoiceRule (kx : OS) (hi : HS) (n : OS) (x1 : Int32) : Option (Int32 × HS × OS) :=
  if (fX5_within x1 (0 : Int32) (2 : Int32)) = (0 : Int32) then
   some ((-2 : Int32), hi, n)
  else
   if x1 = (n.1 4) then
    some ((-6 : Int32), hi, n)
   else
    Option.bind (α := HS) (fX0_push hi n) (fun v3 =>
    some ((n.1 4), v3, (setF n 4 x1)))
def fX5_setPairRule (kx : OS) (hi : HS) (n : OS) (x1 : Int32) : Option (Int32 × HS × OS) :=
  if (fX5_within x1 (0 : Int32) (1 : Int32)) = (0 : Int32) then
   some ((-2 : Int32), hi, n)
  else
   if x1 = (n.1 5) then
    some ((-6 : Int32), hi, n)
   else
    Option.bind (α := HS) (fX0_push hi n) (fun v3 =>
    some ((n.1 5), v3, (setF n 5 x1)))
def fX5_recorded (kx : OS) (hi : HS) (o : OS) (x1 : Int32) : Option (Int32 × HS) :=
  if x1 < (0 : Int32) then
   some (x1, hi)
  else
   Option.bind (α := HS) (fX0_push hi o) (fun v2 =>
   some (x1, v2))
def fX5_connect (kx : OS) (hi : HS) (o : OS) (r : OS) (n : OS) (x1 : Int32) (x2 : Int32) : Option (Int32 × HS × OS × OS × OS) :=
  Option.bind (α := Int32 × OS × OS) (fX3_join r n x1 x2) (fun v1 =>
  Option.bind (α := Int32 × HS) (fX5_recorded kx hi n v1.1) (fun v2 =>
  some (v2.1, v2.2, n, v1.2.1, v1.2.2)))
def fX5_disconnect (kx : OS) (hi : HS) (o : OS) (r : OS) (n : OS) (x1 : Int32) : Option (Int32 × HS × OS × OS) :=
  jn (α := Int32 × OS) (fX3_part r n x1) (fun v1 =>
  Option.bind (α := Int32 × HS) (fX5_recorded kx hi n v1.1) (fun v2 =>
  some (v2.1, v2.2, n, v1.2)))
def fX5_takeOut (kx : OS) (hi : HS) (o : OS) (r : OS) (n : OS) (x1 : Int32) : Option (Int32 × HS × OS × OS × OS) :=
  Option.bind (α := Int32 × OS × OS) (fX3_retire r n x1) (fun v1 =>
  Option.bind (α := Int32 × HS) (fX5_recorded kx hi n v1.1) (fun v2 =>
  some (v2.1, v2.2, n, v1.2.1, v1.2.2)))
def fX5_putBack (kx : OS) (hi : HS) (o : OS) (r : OS) (n : OS) (x1 : Int32) : Option (Int32 × HS × OS × OS) :=
  jn (α := Int32 × OS) (fX3_revive r n x1) (fun v1 =>
  Option.bind (α := Int32 × HS) (fX5_recorded kx hi n v1.1) (fun v2 =>
  some (v2.1, v2.2, n, v1.2)))
def fX5_pack (kx : OS) (hi : HS) (o : OS) (r : OS) (n : OS) : Option (Int32 × HS × OS × OS × OS) :=
  Option.bind (α := Int32 × OS × OS) (fX3_repack r n) (fun v1 =>
  Option.bind (α := Int32 × HS) (fX5_recorded kx hi n v1.1) (fun v2 =>
  some (v2.1, v2.2, n, v1.2.1, v1.2.2)))
def fX5_undo (kx : OS) (hi : HS) (n : OS) : Option (Int32 × HS × OS) :=
  Option.bind (α := Int32 × HS × OS) (fX0_takeBack hi n) (fun v1 =>
  some (v1.1, v1.2.1, v1.2.2))
def fX5_keep (kx : OS) (sn : OS) (n : OS) : Option (Int32 × OS × OS) :=
  Option.bind (α := Int32) (fX1_countCalls n) (fun v1 =>
  some (v1, (setF kx 7 (1 : Int32)), n))
def fX5_restore (kx : OS) (hi : HS) (sn : OS) (n : OS) : Option (Int32 × HS × OS) :=
  if (kx.1 7) = (0 : Int32) then
   some ((-6 : Int32), hi, n)
  else
   Option.bind (α := HS) (fX0_push hi n) (fun v2 =>
   Option.bind (α := Int32) (fX1_countCalls sn) (fun v3 =>
   some (v3, v2, sn)))
def fX5_callOfInlet (kx : OS) (n : OS) (x1 : Int32) : Int32 :=
  if (fX1_isLine n x1) = (0 : Int32) then
   (-1 : Int32)
  else
   (rget (n.2 0) 48 x1)
def fX5_callOfOutlet (kx : OS) (n : OS) (x1 : Int32) : Int32 :=
  if (fX1_isLine n x1) = (0 : Int32) then
   (-1 : Int32)
  else
   (rget (n.2 0) 48 (rget (n.2 3) 48 x1))
def fX5_inletOf (kx : OS) (n : OS) (x1 : Int32) : Option (Int32) :=
  Option.bind (α := Int32) (fX1_findInlet n x1) (fun v1 =>
  some v1)
def fX5_outletOf (kx : OS) (n : OS) (x1 : Int32) : Option (Int32) :=
  Option.bind (α := Int32) (fX1_findInlet n x1) (fun v1 =>
  if (0 : Int32) ≤ v1 then
   some (rget (n.2 1) 48 v1)
  else
   some (-1 : Int32))
def fX5_middleOf (kx : OS) (n : OS) (x1 : Int32) : Option (Int32) :=
  Option.bind (α := Int32) (fX1_findInlet n x1) (fun v1 =>
  if (0 : Int32) ≤ v1 then
   some (rget (n.2 2) 48 v1)
  else
   some (-1 : Int32))
def fX5_onFirstLink (kx : OS) (n : OS) (x1 : Int32) (x2 : Int32) : Int32 :=
  if (fX1_isBoard n x1) = (0 : Int32) then
   (-1 : Int32)
  else
   if (fX1_isMiddle n x2) = (0 : Int32) then
    (-1 : Int32)
   else
    (rget (n.2 0) 48 (rget (n.2 4) 64 (fX5_link x1 x2)))
def fX5_onLastLink (kx : OS) (n : OS) (x1 : Int32) (x2 : Int32) : Int32 :=
  if (fX1_isMiddle n x1) = (0 : Int32) then
   (-1 : Int32)
  else
   if (fX1_isBoard n x2) = (0 : Int32) then
    (-1 : Int32)
   else
    (rget (n.2 0) 48 (rget (n.2 5) 64 (fX5_link x2 x1)))
def fX5_load (kx : OS) (n : OS) (x1 : Int32) : Option (Int32) :=
  if (fX1_isMiddle n x1) = (0 : Int32) then
   some (-1 : Int32)
  else
   Option.bind (α := Int32) (fX1_loadOf n x1) (fun v2 =>
   some v2)
def fX5_freeForFirst (kx : OS) (n : OS) (x1 : Int32) : Option (Int32) :=
  if (fX1_isBoard n x1) = (0 : Int32) then
   some (-1 : Int32)
  else
   Option.bind (α := Int32) (fX1_freeOnLinks4 n x1) (fun v2 =>
   some v2)
def fX5_freeForLast (kx : OS) (n : OS) (x1 : Int32) : Option (Int32) :=
  if (fX1_isBoard n x1) = (0 : Int32) then
   some (-1 : Int32)
  else
   Option.bind (α := Int32) (fX1_freeOnLinks5 n x1) (fun v2 =>
   some v2)
def fX5_inService (kx : OS) (n : OS) : Int32 :=
  (n.1 3)
def fX5_total (kx : OS) (hi : HS) (x : OS) (n : OS) (x1 : Int32) : Option (Int32) :=
  if x1 = (0 : Int32) then
   some (n.1 0)
  else
  if x1 = (1 : Int32) then
   some (n.1 1)
  else
  if x1 = (2 : Int32) then
   some (n.1 2)
  else
  if x1 = (3 : Int32) then
   some (n.1 4)
  else
  if x1 = (4 : Int32) then
   some (n.1 5)
  else
  if x1 = (5 : Int32) then
   Option.bind (α := Int32) (fX1_countCalls n) (fun v2 =>
   some v2)
  else
  if x1 = (6 : Int32) then
   some (n.1 6)
  else
  if x1 = (7 : Int32) then
   some (n.1 7)
  else
  if x1 = (8 : Int32) then
   some (n.1 8)
  else
  if x1 = (9 : Int32) then
   some (n.1 9)
  else
  if x1 = (10 : Int32) then
   some (hi.1 2)
  else
  if x1 = (11 : Int32) then
   some (x.1 1)
  else
   some (-2 : Int32)
def fX5_wouldMove (kx : OS) (r : OS) (n : OS) (x1 : Int32) (x2 : Int32) : Option (Int32 × OS) :=
  Option.bind (α := Int32 × OS) (fX3_tryCall r n x1 x2) (fun v1 =>
  if (0 : Int32) ≤ v1.1 then
   some ((v1.2.1 1), v1.2)
  else
   some (v1.1, v1.2))
def fX5_chainCall (kx : OS) (r : OS) (n : OS) (x1 : Int32) (x2 : Int32) (x3 : Int32) : Option (Int32 × OS) :=
  Option.bind (α := Int32 × OS) (fX3_tryCall r n x1 x2) (fun v1 =>
  if (0 : Int32) ≤ v1.1 then
   if (0 : Int32) ≤ x3 then
    if (v1.2.1 1) ≤ x3 then
     some ((-6 : Int32), v1.2)
    else
     some ((rget (n.2 0) 48 (rget (v1.2.2 0) 16 x3)), v1.2)
   else
    some ((-2 : Int32), v1.2)
  else
   some (v1.1, v1.2))
def fX5_reason (kx : OS) (n : OS) (x1 : Int32) (x2 : Int32) : Option (Int32) :=
  if (fX1_isLine n x1) = (0 : Int32) then
   some (-1 : Int32)
  else
   if (fX1_isLine n x2) = (0 : Int32) then
    some (-1 : Int32)
   else
    if (fX1_isInletBusy n x1) = (0 : Int32) then
     if (fX1_isOutletBusy n x2) = (0 : Int32) then
      Option.bind (α := Int32) (fX1_freeOnLinks4 n (fX1_boardOf n x1)) (fun v5 =>
      Option.bind (α := Int32) (fX1_freeOnLinks5 n (fX1_boardOf n x2)) (fun v6 =>
      if v5 = (0 : Int32) then
       some (4 : Int32)
      else
       if v6 = (0 : Int32) then
        some (5 : Int32)
       else
        if (v5 &&& v6) = (0 : Int32) then
         some (1 : Int32)
        else
         some (0 : Int32)))
     else
      some (3 : Int32)
    else
     some (2 : Int32)
def fX5_leastMiddles (kx : OS) (n : OS) : Option (Int32) :=
  Option.bind (α := Int32) (fX1_fullestBoard n) (fun v1 =>
  some v1)
def fX5_reachable_55 (kx : OS) (n : OS) (x2 : Int32) : Nat → Int32 → Int32 → Option (Int32)
  | 0, _, _ => none
  | k + 1, x3, x4 =>
    if (48 : Int32) ≤ x4 then
     some x3
    else
     if (fX1_isLine n x4) = (0 : Int32) then
      fX5_reachable_55 kx n x2 k x3 (x4 + (1 : Int32))
     else
      if (fX1_isOutletBusy n x4) = (0 : Int32) then
       Option.bind (α := Int32) (fX1_freeOnLinks5 n (fX1_boardOf n x4)) (fun v7 =>
       if (x2 &&& v7) = (0 : Int32) then
        fX5_reachable_55 kx n x2 k (x3 + (0 : Int32)) (x4 + (1 : Int32))
       else
        fX5_reachable_55 kx n x2 k (x3 + (1 : Int32)) (x4 + (1 : Int32)))
      else
       fX5_reachable_55 kx n x2 k x3 (x4 + (1 : Int32))
theorem fX5_reachable_55_z (kx : OS) (n : OS) (x2 : Int32) (x3 : Int32) (x4 : Int32) : fX5_reachable_55 kx n x2 0 x3 x4 = none := rfl
theorem fX5_reachable_55_s (kx : OS) (n : OS) (x2 : Int32) (k : Nat) (x3 : Int32) (x4 : Int32) : fX5_reachable_55 kx n x2 (k + 1) x3 x4 = (
    if (48 : Int32) ≤ x4 then
     some x3
    else
     if (fX1_isLine n x4) = (0 : Int32) then
      fX5_reachable_55 kx n x2 k x3 (x4 + (1 : Int32))
     else
      if (fX1_isOutletBusy n x4) = (0 : Int32) then
       Option.bind (α := Int32) (fX1_freeOnLinks5 n (fX1_boardOf n x4)) (fun v7 =>
       if (x2 &&& v7) = (0 : Int32) then
        fX5_reachable_55 kx n x2 k (x3 + (0 : Int32)) (x4 + (1 : Int32))
       else
        fX5_reachable_55 kx n x2 k (x3 + (1 : Int32)) (x4 + (1 : Int32)))
      else
       fX5_reachable_55 kx n x2 k x3 (x4 + (1 : Int32))) := rfl
def fX5_reachable (kx : OS) (n : OS) (x1 : Int32) : Option (Int32) :=
  if (fX1_isLine n x1) = (0 : Int32) then
   some (-1 : Int32)
  else
   if (fX1_isInletBusy n x1) = (0 : Int32) then
    Option.bind (α := Int32) (fX1_freeOnLinks4 n (fX1_boardOf n x1)) (fun v3 =>
    fX5_reachable_55 kx n v3 FU (0 : Int32) (0 : Int32))
   else
    some (-3 : Int32)
