def fX3_lowestBits_7 (x0 : Int32) (x1 : Int32) : Nat → Int32 → Int32 → Int32 → Option (Int32)
  | 0, _, _, _ => none
  | k + 1, x2, x3, x4 =>
    if (8 : Int32) ≤ x4 then
     some x2
    else
     if x1 ≤ x3 then
      some x2
     else
      if (fX5_hasBit x0 x4) = (0 : Int32) then
       fX3_lowestBits_7 x0 x1 k x2 x3 (x4 + (1 : Int32))
      else
       fX3_lowestBits_7 x0 x1 k (x2 ||| ((1 : Int32) <<< (x4 &&& 31))) (x3 + (1 : Int32)) (x4 + (1 : Int32))
theorem fX3_lowestBits_7_z (x0 : Int32) (x1 : Int32) (x2 : Int32) (x3 : Int32) (x4 : Int32) : fX3_lowestBits_7 x0 x1 0 x2 x3 x4 = none := rfl
theorem fX3_lowestBits_7_s (x0 : Int32) (x1 : Int32) (k : Nat) (x2 : Int32) (x3 : Int32) (x4 : Int32) : fX3_lowestBits_7 x0 x1 (k + 1) x2 x3 x4 = (
    if (8 : Int32) ≤ x4 then
     some x2
    else
     if x1 ≤ x3 then
      some x2
     else
      if (fX5_hasBit x0 x4) = (0 : Int32) then
       fX3_lowestBits_7 x0 x1 k x2 x3 (x4 + (1 : Int32))
      else
       fX3_lowestBits_7 x0 x1 k (x2 ||| ((1 : Int32) <<< (x4 &&& 31))) (x3 + (1 : Int32)) (x4 + (1 : Int32))) := rfl
def fX3_lowestBits (x0 : Int32) (x1 : Int32) : Option (Int32) :=
  fX3_lowestBits_7 x0 x1 FU (0 : Int32) (0 : Int32) (0 : Int32)
def fX3_choose_36 (r : OS) (n : OS) (x2 : Int32) (x3 : Int32) : Nat → Int32 → Int32 → Int32 → Option (Int32)
  | 0, _, _, _ => none
  | k + 1, x4, x5, x6 =>
    if (8 : Int32) ≤ x6 then
     some x4
    else
     if (fX5_hasBit x2 x6) = (0 : Int32) then
      fX3_choose_36 r n x2 x3 k x4 x5 (x6 + (1 : Int32))
     else
      Option.bind (α := Int32) (fX1_loadOf n x6) (fun v6 =>
      if x4 < (0 : Int32) then
       fX3_choose_36 r n x2 x3 k x6 (x3 * v6) (x6 + (1 : Int32))
      else
       if (x3 * v6) ≤ x5 then
        fX3_choose_36 r n x2 x3 k x4 x5 (x6 + (1 : Int32))
       else
        fX3_choose_36 r n x2 x3 k x6 (x3 * v6) (x6 + (1 : Int32)))
theorem fX3_choose_36_z (r : OS) (n : OS) (x2 : Int32) (x3 : Int32) (x4 : Int32) (x5 : Int32) (x6 : Int32) : fX3_choose_36 r n x2 x3 0 x4 x5 x6 = none := rfl
theorem fX3_choose_36_s (r : OS) (n : OS) (x2 : Int32) (x3 : Int32) (k : Nat) (x4 : Int32) (x5 : Int32) (x6 : Int32) : fX3_choose_36 r n x2 x3 (k + 1) x4 x5 x6 = (
    if (8 : Int32) ≤ x6 then
     some x4
    else
     if (fX5_hasBit x2 x6) = (0 : Int32) then
      fX3_choose_36 r n x2 x3 k x4 x5 (x6 + (1 : Int32))
     else
      Option.bind (α := Int32) (fX1_loadOf n x6) (fun v6 =>
      if x4 < (0 : Int32) then
       fX3_choose_36 r n x2 x3 k x6 (x3 * v6) (x6 + (1 : Int32))
      else
       if (x3 * v6) ≤ x5 then
        fX3_choose_36 r n x2 x3 k x4 x5 (x6 + (1 : Int32))
       else
        fX3_choose_36 r n x2 x3 k x6 (x3 * v6) (x6 + (1 : Int32)))) := rfl
def fX3_choose (r : OS) (n : OS) (x2 : Int32) : Option (Int32) :=
  jn (α := Int32) (
   if (n.1 4) = (1 : Int32) then
    (1 : Int32)
   else
    if (n.1 4) = (2 : Int32) then
     (-1 : Int32)
    else
     (0 : Int32)) (fun v3 =>
  fX3_choose_36 r n x2 v3 FU (-6 : Int32) (0 : Int32) (0 : Int32))
def fX3_countChanged_4 (r : OS) (n : OS) : Nat → Int32 → Int32 → Option (Int32)
  | 0, _, _ => none
  | k + 1, x2, x3 =>
    if (48 : Int32) ≤ x3 then
     some x2
    else
     if (rget (n.2 2) 48 x3) = (rget (r.2 1) 48 x3) then
      fX3_countChanged_4 r n k (x2 + (0 : Int32)) (x3 + (1 : Int32))
     else
      fX3_countChanged_4 r n k (x2 + (1 : Int32)) (x3 + (1 : Int32))
theorem fX3_countChanged_4_z (r : OS) (n : OS) (x2 : Int32) (x3 : Int32) : fX3_countChanged_4 r n 0 x2 x3 = none := rfl
theorem fX3_countChanged_4_s (r : OS) (n : OS) (k : Nat) (x2 : Int32) (x3 : Int32) : fX3_countChanged_4 r n (k + 1) x2 x3 = (
    if (48 : Int32) ≤ x3 then
     some x2
    else
     if (rget (n.2 2) 48 x3) = (rget (r.2 1) 48 x3) then
      fX3_countChanged_4 r n k (x2 + (0 : Int32)) (x3 + (1 : Int32))
     else
      fX3_countChanged_4 r n k (x2 + (1 : Int32)) (x3 + (1 : Int32))) := rfl
def fX3_countChanged (r : OS) (n : OS) : Option (Int32) :=
  fX3_countChanged_4 r n FU (0 : Int32) (0 : Int32)
def fX3_follow_22 (n : OS) (x2 : Int32) (x3 : Int32) : Nat → Int32 → Int32 → OS → Option (OS)
  | 0, _, _, _ => none
  | k + 1, x5, x6, r =>
    if (16 : Int32) ≤ x6 then
     some r
    else
     jn (α := Int32) (
      if (x6 - x6 / (2 : Int32) * (2 : Int32)) = (0 : Int32) then
       (1 : Int32)
      else
       (0 : Int32)) (fun v3 =>
     jn (α := Int32) (
      if v3 = (0 : Int32) then
       (rget (n.2 4) 64 (fX5_link x5 x3))
      else
       (rget (n.2 5) 64 (fX5_link x5 x2))) (fun v5 =>
     if (0 : Int32) ≤ v5 then
      jn (α := Nat → Int32) (rset (r.2 0) 16 x6 v5) (fun w7 =>
      jn (α := Int32) (((r.1 1) + (1 : Int32))) (fun w8 =>
      jn (α := Int32) (
       if v3 = (0 : Int32) then
        (rget (n.2 1) 48 v5)
       else
        v5) (fun v10 =>
      fX3_follow_22 n x2 x3 k (fX1_boardOf n v10) (x6 + (1 : Int32)) (setF (setR r 0 w7) 1 w8))))
     else
      some r))
theorem fX3_follow_22_z (n : OS) (x2 : Int32) (x3 : Int32) (x5 : Int32) (x6 : Int32) (r : OS) : fX3_follow_22 n x2 x3 0 x5 x6 r = none := rfl
theorem fX3_follow_22_s (n : OS) (x2 : Int32) (x3 : Int32) (k : Nat) (x5 : Int32) (x6 : Int32) (r : OS) : fX3_follow_22 n x2 x3 (k + 1) x5 x6 r = (
    if (16 : Int32) ≤ x6 then
     some r
    else
     jn (α := Int32) (
      if (x6 - x6 / (2 : Int32) * (2 : Int32)) = (0 : Int32) then
       (1 : Int32)
      else
       (0 : Int32)) (fun v3 =>
     jn (α := Int32) (
      if v3 = (0 : Int32) then
       (rget (n.2 4) 64 (fX5_link x5 x3))
      else
       (rget (n.2 5) 64 (fX5_link x5 x2))) (fun v5 =>
     if (0 : Int32) ≤ v5 then
      jn (α := Nat → Int32) (rset (r.2 0) 16 x6 v5) (fun w7 =>
      jn (α := Int32) (((r.1 1) + (1 : Int32))) (fun w8 =>
      jn (α := Int32) (
       if v3 = (0 : Int32) then
        (rget (n.2 1) 48 v5)
       else
        v5) (fun v10 =>
      fX3_follow_22 n x2 x3 k (fX1_boardOf n v10) (x6 + (1 : Int32)) (setF (setR r 0 w7) 1 w8))))
     else
      some r))) := rfl
def fX3_follow (r : OS) (n : OS) (x2 : Int32) (x3 : Int32) (x4 : Int32) : Option (OS) :=
  fX3_follow_22 n x2 x3 FU x4 (0 : Int32) (setF (setF (setF r 2 x2) 3 x3) 1 (0 : Int32))
def fX3_findPair_14 (n : OS) (x2 : Int32) (x3 : Int32) (x4 : Int32) : Nat → Int32 → Int32 → Int32 → Int32 → OS → Option (OS)
  | 0, _, _, _, _, _ => none
  | k + 1, x5, x6, x7, x8, r =>
    if (64 : Int32) ≤ x8 then
     Option.bind (α := OS) (fX3_follow r n x5 x6 x4) (fun v2 =>
     some v2)
    else
     if (fX5_hasBit x2 (x8 / (8 : Int32))) = (0 : Int32) then
      fX3_findPair_14 n x2 x3 x4 k x5 x6 x7 (x8 + (1 : Int32)) r
     else
      if (fX5_hasBit x3 (x8 - x8 / (8 : Int32) * (8 : Int32))) = (0 : Int32) then
       fX3_findPair_14 n x2 x3 x4 k x5 x6 x7 (x8 + (1 : Int32)) r
      else
       Option.bind (α := OS) (fX3_follow r n (x8 / (8 : Int32)) (x8 - x8 / (8 : Int32) * (8 : Int32)) x4) (fun v5 =>
       if x5 < (0 : Int32) then
        fX3_findPair_14 n x2 x3 x4 k (x8 / (8 : Int32)) (x8 - x8 / (8 : Int32) * (8 : Int32)) (v5.1 1) (x8 + (1 : Int32)) v5
       else
        if (n.1 5) = (1 : Int32) then
         if x7 ≤ (v5.1 1) then
          fX3_findPair_14 n x2 x3 x4 k x5 x6 x7 (x8 + (1 : Int32)) v5
         else
          fX3_findPair_14 n x2 x3 x4 k (x8 / (8 : Int32)) (x8 - x8 / (8 : Int32) * (8 : Int32)) (v5.1 1) (x8 + (1 : Int32)) v5
        else
         fX3_findPair_14 n x2 x3 x4 k x5 x6 x7 (x8 + (1 : Int32)) v5)
theorem fX3_findPair_14_z (n : OS) (x2 : Int32) (x3 : Int32) (x4 : Int32) (x5 : Int32) (x6 : Int32) (x7 : Int32) (x8 : Int32) (r : OS) : fX3_findPair_14 n x2 x3 x4 0 x5 x6 x7 x8 r = none := rfl
theorem fX3_findPair_14_s (n : OS) (x2 : Int32) (x3 : Int32) (x4 : Int32) (k : Nat) (x5 : Int32) (x6 : Int32) (x7 : Int32) (x8 : Int32) (r : OS) : fX3_findPair_14 n x2 x3 x4 (k + 1) x5 x6 x7 x8 r = (
    if (64 : Int32) ≤ x8 then
     Option.bind (α := OS) (fX3_follow r n x5 x6 x4) (fun v2 =>
     some v2)
    else
     if (fX5_hasBit x2 (x8 / (8 : Int32))) = (0 : Int32) then
      fX3_findPair_14 n x2 x3 x4 k x5 x6 x7 (x8 + (1 : Int32)) r
     else
      if (fX5_hasBit x3 (x8 - x8 / (8 : Int32) * (8 : Int32))) = (0 : Int32) then
       fX3_findPair_14 n x2 x3 x4 k x5 x6 x7 (x8 + (1 : Int32)) r
      else
       Option.bind (α := OS) (fX3_follow r n (x8 / (8 : Int32)) (x8 - x8 / (8 : Int32) * (8 : Int32)) x4) (fun v5 =>
       if x5 < (0 : Int32) then
        fX3_findPair_14 n x2 x3 x4 k (x8 / (8 : Int32)) (x8 - x8 / (8 : Int32) * (8 : Int32)) (v5.1 1) (x8 + (1 : Int32)) v5
       else
        if (n.1 5) = (1 : Int32) then
         if x7 ≤ (v5.1 1) then
          fX3_findPair_14 n x2 x3 x4 k x5 x6 x7 (x8 + (1 : Int32)) v5
         else
          fX3_findPair_14 n x2 x3 x4 k (x8 / (8 : Int32)) (x8 - x8 / (8 : Int32) * (8 : Int32)) (v5.1 1) (x8 + (1 : Int32)) v5
        else
         fX3_findPair_14 n x2 x3 x4 k x5 x6 x7 (x8 + (1 : Int32)) v5)) := rfl
def fX3_findPair (r : OS) (n : OS) (x2 : Int32) (x3 : Int32) (x4 : Int32) : Option (OS) :=
  fX3_findPair_14 n x2 x3 x4 FU (-6 : Int32) (-6 : Int32) (0 : Int32) (0 : Int32) r
def fX3_findWay (r : OS) (n : OS) (x2 : Int32) (x3 : Int32) : Option (Int32 × OS) :=
  Option.bind (α := Int32) (fX1_freeOnLinks4 n (fX1_boardOf n x2)) (fun v1 =>
  Option.bind (α := Int32) (fX1_freeOnLinks5 n (fX1_boardOf n x3)) (fun v2 =>
  if (v1 &&& v2) = (0 : Int32) then
   if v1 = (0 : Int32) then
    some ((-4 : Int32), (setF r 1 (0 : Int32)))
   else
    if v2 = (0 : Int32) then
     some ((-4 : Int32), (setF r 1 (0 : Int32)))
    else
     Option.bind (α := OS) (fX3_findPair (setF r 1 (0 : Int32)) n v1 v2 (fX1_boardOf n x3)) (fun v6 =>
     some ((v6.1 2), v6))
  else
   Option.bind (α := Int32) (fX3_choose (setF r 1 (0 : Int32)) n (v1 &&& v2)) (fun v7 =>
   some (v7, (setF r 1 (0 : Int32))))))
def fX3_tryCall (r : OS) (n : OS) (x2 : Int32) (x3 : Int32) : Option (Int32 × OS) :=
  if (fX1_isLine n x2) = (0 : Int32) then
   some ((-1 : Int32), r)
  else
   if (fX1_isLine n x3) = (0 : Int32) then
    some ((-1 : Int32), r)
   else
    if (fX1_isInletBusy n x2) = (0 : Int32) then
     if (fX1_isOutletBusy n x3) = (0 : Int32) then
      Option.bind (α := Int32 × OS) (fX3_findWay r n x2 x3) (fun v5 =>
      some (v5.1, v5.2))
     else
      some ((-3 : Int32), r)
    else
     some ((-3 : Int32), r)
def fX3_settle_34 (r : OS) (x2 : Int32) (x3 : Int32) : Nat → Int32 → OS → Option (OS)
  | 0, _, _ => none
  | k + 1, x4, n =>
    if (r.1 1) ≤ x4 then
     jn (α := Int32) (((n.1 9) + (r.1 1))) (fun w3 =>
     jn (α := OS) (fX1_carryCall (setF n 9 w3) x2 x3) (fun v4 =>
     some v4))
    else
     jn (α := Int32) (
      if (x4 - x4 / (2 : Int32) * (2 : Int32)) = (0 : Int32) then
       (r.1 3)
      else
       (r.1 2)) (fun v6 =>
     jn (α := OS) (fX1_carryCall n (rget (r.2 0) 16 x4) v6) (fun v7 =>
     fX3_settle_34 r x2 x3 k (x4 + (1 : Int32)) v7))
theorem fX3_settle_34_z (r : OS) (x2 : Int32) (x3 : Int32) (x4 : Int32) (n : OS) : fX3_settle_34 r x2 x3 0 x4 n = none := rfl
theorem fX3_settle_34_s (r : OS) (x2 : Int32) (x3 : Int32) (k : Nat) (x4 : Int32) (n : OS) : fX3_settle_34 r x2 x3 (k + 1) x4 n = (
    if (r.1 1) ≤ x4 then
     jn (α := Int32) (((n.1 9) + (r.1 1))) (fun w3 =>
     jn (α := OS) (fX1_carryCall (setF n 9 w3) x2 x3) (fun v4 =>
     some v4))
    else
     jn (α := Int32) (
      if (x4 - x4 / (2 : Int32) * (2 : Int32)) = (0 : Int32) then
       (r.1 3)
      else
       (r.1 2)) (fun v6 =>
     jn (α := OS) (fX1_carryCall n (rget (r.2 0) 16 x4) v6) (fun v7 =>
     fX3_settle_34 r x2 x3 k (x4 + (1 : Int32)) v7))) := rfl
def fX3_settle_3 (r : OS) (x2 : Int32) (x3 : Int32) : Nat → Int32 → OS → Option (OS)
  | 0, _, _ => none
  | k + 1, x4, n =>
    if (r.1 1) ≤ x4 then
     fX3_settle_34 r x2 x3 FU (0 : Int32) n
    else
     jn (α := OS) (fX1_liftCall n (rget (r.2 0) 16 x4)) (fun v8 =>
     fX3_settle_3 r x2 x3 k (x4 + (1 : Int32)) v8)
theorem fX3_settle_3_z (r : OS) (x2 : Int32) (x3 : Int32) (x4 : Int32) (n : OS) : fX3_settle_3 r x2 x3 0 x4 n = none := rfl
theorem fX3_settle_3_s (r : OS) (x2 : Int32) (x3 : Int32) (k : Nat) (x4 : Int32) (n : OS) : fX3_settle_3 r x2 x3 (k + 1) x4 n = (
    if (r.1 1) ≤ x4 then
     fX3_settle_34 r x2 x3 FU (0 : Int32) n
    else
     jn (α := OS) (fX1_liftCall n (rget (r.2 0) 16 x4)) (fun v8 =>
     fX3_settle_3 r x2 x3 k (x4 + (1 : Int32)) v8)) := rfl
def fX3_settle (r : OS) (n : OS) (x2 : Int32) (x3 : Int32) : Option (OS) :=
  fX3_settle_3 r x2 x3 FU (0 : Int32) n
def fX3_join (r : OS) (n : OS) (x2 : Int32) (x3 : Int32) : Option (Int32 × OS × OS) :=
  Option.bind (α := Int32 × OS) (fX3_tryCall r n x2 x3) (fun v1 =>
  if (0 : Int32) ≤ v1.1 then
   jn (α := OS) (fX1_addCall n x2 x3) (fun v3 =>
   Option.bind (α := OS) (fX3_settle v1.2 v3 x2 v1.1) (fun v4 =>
   some (v1.1, v1.2, v4)))
  else
   some (v1.1, v1.2, n))
def fX3_part (r : OS) (n : OS) (x2 : Int32) : Int32 × OS :=
  if (fX1_isLine n x2) = (0 : Int32) then
   ((-1 : Int32), n)
  else
   if (fX1_isInletBusy n x2) = (0 : Int32) then
    ((-3 : Int32), n)
   else
    jn (α := OS) (fX1_removeCall n x2) (fun v3 =>
    jn (α := Int32) (((v3.1 7) + (1 : Int32))) (fun w4 =>
    ((rget (n.2 0) 48 x2), (setF v3 7 w4))))
def fX3_revive (r : OS) (n : OS) (x2 : Int32) : Int32 × OS :=
  if (fX1_isMiddle n x2) = (0 : Int32) then
   ((-1 : Int32), n)
  else
   if (fX5_hasBit (n.1 3) x2) = (0 : Int32) then
    jn (α := Int32) (((n.1 3) ||| ((1 : Int32) <<< (x2 &&& 31)))) (fun w3 =>
    ((fJ6_bitCount_0f7a4 w3), (setF n 3 w3)))
   else
    ((-6 : Int32), n)
def fX3_reroute_4 : Nat → Int32 → Int32 → OS → OS → Option (Int32 × OS × OS)
  | 0, _, _, _, _ => none
  | k + 1, x2, x3, r, n =>
    if (48 : Int32) ≤ x3 then
     jn (α := Int32) (((n.1 8) + x2)) (fun w2 =>
     some (x2, r, (setF n 8 w2)))
    else
     Option.bind (α := Int32) (fX1_firstLifted n) (fun v3 =>
     if (0 : Int32) ≤ v3 then
      Option.bind (α := Int32 × OS) (fX3_findWay r n v3 (rget (n.2 1) 48 v3)) (fun v5 =>
      if (0 : Int32) ≤ v5.1 then
       Option.bind (α := OS) (fX3_settle v5.2 n v3 v5.1) (fun v7 =>
       jn (α := Int32) (((v7.1 9) + (1 : Int32))) (fun w8 =>
       fX3_reroute_4 k x2 (x3 + (1 : Int32)) v5.2 (setF v7 9 w8)))
      else
       jn (α := OS) (fX1_removeCall n v3) (fun v9 =>
       fX3_reroute_4 k (x2 + (1 : Int32)) (x3 + (1 : Int32)) v5.2 v9))
     else
      jn (α := Int32) (((n.1 8) + x2)) (fun w10 =>
      some (x2, r, (setF n 8 w10))))
theorem fX3_reroute_4_z (x2 : Int32) (x3 : Int32) (r : OS) (n : OS) : fX3_reroute_4  0 x2 x3 r n = none := rfl
theorem fX3_reroute_4_s (k : Nat) (x2 : Int32) (x3 : Int32) (r : OS) (n : OS) : fX3_reroute_4  (k + 1) x2 x3 r n = (
    if (48 : Int32) ≤ x3 then
     jn (α := Int32) (((n.1 8) + x2)) (fun w2 =>
     some (x2, r, (setF n 8 w2)))
    else
     Option.bind (α := Int32) (fX1_firstLifted n) (fun v3 =>
     if (0 : Int32) ≤ v3 then
      Option.bind (α := Int32 × OS) (fX3_findWay r n v3 (rget (n.2 1) 48 v3)) (fun v5 =>
      if (0 : Int32) ≤ v5.1 then
       Option.bind (α := OS) (fX3_settle v5.2 n v3 v5.1) (fun v7 =>
       jn (α := Int32) (((v7.1 9) + (1 : Int32))) (fun w8 =>
       fX3_reroute_4 k x2 (x3 + (1 : Int32)) v5.2 (setF v7 9 w8)))
      else
       jn (α := OS) (fX1_removeCall n v3) (fun v9 =>
       fX3_reroute_4 k (x2 + (1 : Int32)) (x3 + (1 : Int32)) v5.2 v9))
     else
      jn (α := Int32) (((n.1 8) + x2)) (fun w10 =>
      some (x2, r, (setF n 8 w10))))) := rfl
def fX3_reroute (r : OS) (n : OS) : Option (Int32 × OS × OS) :=
  fX3_reroute_4 FU (0 : Int32) (0 : Int32) r n
def fX3_retire_40 (r : OS) (x2 : Int32) : Nat → Int32 → OS → Option (Int32 × OS × OS)
  | 0, _, _ => none
  | k + 1, x3, n =>
    if (48 : Int32) ≤ x3 then
     Option.bind (α := Int32 × OS × OS) (fX3_reroute r n) (fun v5 =>
     some (v5.1, v5.2.1, v5.2.2))
    else
     if (rget (n.2 2) 48 x3) = x2 then
      jn (α := OS) (fX1_liftCall n x3) (fun v7 =>
      fX3_retire_40 r x2 k (x3 + (1 : Int32)) v7)
     else
      fX3_retire_40 r x2 k (x3 + (1 : Int32)) n
theorem fX3_retire_40_z (r : OS) (x2 : Int32) (x3 : Int32) (n : OS) : fX3_retire_40 r x2 0 x3 n = none := rfl
theorem fX3_retire_40_s (r : OS) (x2 : Int32) (k : Nat) (x3 : Int32) (n : OS) : fX3_retire_40 r x2 (k + 1) x3 n = (
    if (48 : Int32) ≤ x3 then
     Option.bind (α := Int32 × OS × OS) (fX3_reroute r n) (fun v5 =>
     some (v5.1, v5.2.1, v5.2.2))
    else
     if (rget (n.2 2) 48 x3) = x2 then
      jn (α := OS) (fX1_liftCall n x3) (fun v7 =>
      fX3_retire_40 r x2 k (x3 + (1 : Int32)) v7)
     else
      fX3_retire_40 r x2 k (x3 + (1 : Int32)) n) := rfl
def fX3_retire (r : OS) (n : OS) (x2 : Int32) : Option (Int32 × OS × OS) :=
  if (fX1_isMiddle n x2) = (0 : Int32) then
   some ((-1 : Int32), r, n)
  else
   if (fX5_hasBit (n.1 3) x2) = (0 : Int32) then
    some ((-6 : Int32), r, n)
   else
    jn (α := Int32) (((n.1 3) &&& (((1 : Int32) <<< (x2 &&& 31)) ^^^ (-1 : Int32)))) (fun w3 =>
    fX3_retire_40 r x2 FU (0 : Int32) (setF n 3 w3))
def fX3_repack_46 (r : OS) (x2 : Int32) (x3 : Int32) : Nat → Int32 → OS → Option (Int32 × OS × OS)
  | 0, _, _ => none
  | k + 1, x4, n =>
    if (48 : Int32) ≤ x4 then
     Option.bind (α := Int32 × OS × OS) (fX3_reroute r n) (fun v6 =>
     Option.bind (α := Int32) (fX3_countChanged v6.2.1 (setF v6.2.2 3 x2)) (fun v7 =>
     jn (α := Int32) ((x3 + v7)) (fun w8 =>
     some (v7, v6.2.1, (setF (setF v6.2.2 3 x2) 9 w8)))))
    else
     jn (α := OS) (fX1_liftCall n x4) (fun v9 =>
     fX3_repack_46 r x2 x3 k (x4 + (1 : Int32)) v9)
theorem fX3_repack_46_z (r : OS) (x2 : Int32) (x3 : Int32) (x4 : Int32) (n : OS) : fX3_repack_46 r x2 x3 0 x4 n = none := rfl
theorem fX3_repack_46_s (r : OS) (x2 : Int32) (x3 : Int32) (k : Nat) (x4 : Int32) (n : OS) : fX3_repack_46 r x2 x3 (k + 1) x4 n = (
    if (48 : Int32) ≤ x4 then
     Option.bind (α := Int32 × OS × OS) (fX3_reroute r n) (fun v6 =>
     Option.bind (α := Int32) (fX3_countChanged v6.2.1 (setF v6.2.2 3 x2)) (fun v7 =>
     jn (α := Int32) ((x3 + v7)) (fun w8 =>
     some (v7, v6.2.1, (setF (setF v6.2.2 3 x2) 9 w8)))))
    else
     jn (α := OS) (fX1_liftCall n x4) (fun v9 =>
     fX3_repack_46 r x2 x3 k (x4 + (1 : Int32)) v9)) := rfl
def fX3_repack (r : OS) (n : OS) : Option (Int32 × OS × OS) :=
  Option.bind (α := Int32) (fX1_countCalls n) (fun v1 =>
  if v1 = (0 : Int32) then
   some ((-6 : Int32), r, n)
  else
   Option.bind (α := Int32) (fX1_fullestBoard n) (fun v3 =>
   Option.bind (α := Int32) (fX3_lowestBits (n.1 3) v3) (fun v4 =>
   fX3_repack_46 (setR r 1 (n.2 2)) (n.1 3) (n.1 9) FU (0 : Int32) (setF n 3 v4))))
