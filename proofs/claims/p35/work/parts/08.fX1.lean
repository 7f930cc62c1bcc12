/-! what loops may take at most -/
def FU : Nat := 1000000
theorem kc_bipush_m6 : (Int8.ofInt (-6)).toInt32 = (-6 : Int32) := by decide
theorem kc_bipush_m4 : (Int8.ofInt (-4)).toInt32 = (-4 : Int32) := by decide
theorem kc_bipush_m3 : (Int8.ofInt (-3)).toInt32 = (-3 : Int32) := by decide
theorem kc_bipush_m2 : (Int8.ofInt (-2)).toInt32 = (-2 : Int32) := by decide
theorem kc_bipush_6 : (Int8.ofInt (6)).toInt32 = (6 : Int32) := by decide
theorem kc_bipush_7 : (Int8.ofInt (7)).toInt32 = (7 : Int32) := by decide
theorem kc_bipush_8 : (Int8.ofInt (8)).toInt32 = (8 : Int32) := by decide
theorem kc_bipush_9 : (Int8.ofInt (9)).toInt32 = (9 : Int32) := by decide
theorem kc_bipush_10 : (Int8.ofInt (10)).toInt32 = (10 : Int32) := by decide
theorem kc_bipush_11 : (Int8.ofInt (11)).toInt32 = (11 : Int32) := by decide
theorem kc_bipush_16 : (Int8.ofInt (16)).toInt32 = (16 : Int32) := by decide
theorem kc_bipush_17 : (Int8.ofInt (17)).toInt32 = (17 : Int32) := by decide
theorem kc_bipush_40 : (Int8.ofInt (40)).toInt32 = (40 : Int32) := by decide
theorem kc_bipush_48 : (Int8.ofInt (48)).toInt32 = (48 : Int32) := by decide
theorem kc_bipush_60 : (Int8.ofInt (60)).toInt32 = (60 : Int32) := by decide
theorem kc_bipush_63 : (Int8.ofInt (63)).toInt32 = (63 : Int32) := by decide
theorem kc_bipush_64 : (Int8.ofInt (64)).toInt32 = (64 : Int32) := by decide
theorem kc_iconst_m1 : Int32.ofInt (-1) = (-1 : Int32) := by decide
theorem kc_iconst_0 : Int32.ofInt (0) = (0 : Int32) := by decide
theorem kc_iconst_1 : Int32.ofInt (1) = (1 : Int32) := by decide
theorem kc_iconst_2 : Int32.ofInt (2) = (2 : Int32) := by decide
theorem kc_iconst_3 : Int32.ofInt (3) = (3 : Int32) := by decide
theorem kc_iconst_4 : Int32.ofInt (4) = (4 : Int32) := by decide
theorem kc_iconst_5 : Int32.ofInt (5) = (5 : Int32) := by decide
def fX5_link (x0 : Int32) (x1 : Int32) : Int32 :=
  ((x0 * (8 : Int32)) + x1)
def fX5_hasBit (x0 : Int32) (x1 : Int32) : Int32 :=
  if (x0 &&& ((1 : Int32) <<< (x1 &&& 31))) = (0 : Int32) then
   (0 : Int32)
  else
   (1 : Int32)
def fX5_within (x0 : Int32) (x1 : Int32) (x2 : Int32) : Int32 :=
  if x0 < x1 then
   (0 : Int32)
  else
   if x2 < x0 then
    (0 : Int32)
   else
    (1 : Int32)
def fX1_isLine (n : OS) (x1 : Int32) : Int32 :=
  if x1 < (0 : Int32) then
   (0 : Int32)
  else
   if ((n.1 0) * (n.1 1)) ≤ x1 then
    (0 : Int32)
   else
    (1 : Int32)
def fX1_isBoard (n : OS) (x1 : Int32) : Int32 :=
  if x1 < (0 : Int32) then
   (0 : Int32)
  else
   if (n.1 0) ≤ x1 then
    (0 : Int32)
   else
    (1 : Int32)
def fX1_isMiddle (n : OS) (x1 : Int32) : Int32 :=
  if x1 < (0 : Int32) then
   (0 : Int32)
  else
   if (n.1 2) ≤ x1 then
    (0 : Int32)
   else
    (1 : Int32)
def fX1_isInletBusy (n : OS) (x1 : Int32) : Int32 :=
  if (rget (n.2 0) 48 x1) < (0 : Int32) then
   (0 : Int32)
  else
   (1 : Int32)
def fX1_isOutletBusy (n : OS) (x1 : Int32) : Int32 :=
  if (rget (n.2 3) 48 x1) < (0 : Int32) then
   (0 : Int32)
  else
   (1 : Int32)
def fX1_boardOf (n : OS) (x1 : Int32) : Int32 :=
  if (n.1 1) ≤ (0 : Int32) then
   (0 : Int32)
  else
   (x1 / (n.1 1))
def fX1_countCalls_4 (n : OS) : Nat → Int32 → Int32 → Option (Int32)
  | 0, _, _ => none
  | k + 1, x1, x2 =>
    if (48 : Int32) ≤ x2 then
     some x1
    else
     if (rget (n.2 0) 48 x2) < (0 : Int32) then
      fX1_countCalls_4 n k (x1 + (0 : Int32)) (x2 + (1 : Int32))
     else
      fX1_countCalls_4 n k (x1 + (1 : Int32)) (x2 + (1 : Int32))
theorem fX1_countCalls_4_z (n : OS) (x1 : Int32) (x2 : Int32) : fX1_countCalls_4 n 0 x1 x2 = none := rfl
theorem fX1_countCalls_4_s (n : OS) (k : Nat) (x1 : Int32) (x2 : Int32) : fX1_countCalls_4 n (k + 1) x1 x2 = (
    if (48 : Int32) ≤ x2 then
     some x1
    else
     if (rget (n.2 0) 48 x2) < (0 : Int32) then
      fX1_countCalls_4 n k (x1 + (0 : Int32)) (x2 + (1 : Int32))
     else
      fX1_countCalls_4 n k (x1 + (1 : Int32)) (x2 + (1 : Int32))) := rfl
def fX1_countCalls (n : OS) : Option (Int32) :=
  fX1_countCalls_4 n FU (0 : Int32) (0 : Int32)
def fX1_findInlet_8 (n : OS) (x1 : Int32) : Nat → Int32 → Option (Int32)
  | 0, _ => none
  | k + 1, x2 =>
    if (48 : Int32) ≤ x2 then
     some (-1 : Int32)
    else
     if (rget (n.2 0) 48 x2) = x1 then
      some x2
     else
      fX1_findInlet_8 n x1 k (x2 + (1 : Int32))
theorem fX1_findInlet_8_z (n : OS) (x1 : Int32) (x2 : Int32) : fX1_findInlet_8 n x1 0 x2 = none := rfl
theorem fX1_findInlet_8_s (n : OS) (x1 : Int32) (k : Nat) (x2 : Int32) : fX1_findInlet_8 n x1 (k + 1) x2 = (
    if (48 : Int32) ≤ x2 then
     some (-1 : Int32)
    else
     if (rget (n.2 0) 48 x2) = x1 then
      some x2
     else
      fX1_findInlet_8 n x1 k (x2 + (1 : Int32))) := rfl
def fX1_findInlet (n : OS) (x1 : Int32) : Option (Int32) :=
  if (0 : Int32) ≤ x1 then
   fX1_findInlet_8 n x1 FU (0 : Int32)
  else
   some (-1 : Int32)
def fX1_loadOf_4 (n : OS) (x1 : Int32) : Nat → Int32 → Int32 → Option (Int32)
  | 0, _, _ => none
  | k + 1, x2, x3 =>
    if (n.1 0) ≤ x3 then
     some x2
    else
     if (rget (n.2 4) 64 (fX5_link x3 x1)) < (0 : Int32) then
      fX1_loadOf_4 n x1 k (x2 + (0 : Int32)) (x3 + (1 : Int32))
     else
      fX1_loadOf_4 n x1 k (x2 + (1 : Int32)) (x3 + (1 : Int32))
theorem fX1_loadOf_4_z (n : OS) (x1 : Int32) (x2 : Int32) (x3 : Int32) : fX1_loadOf_4 n x1 0 x2 x3 = none := rfl
theorem fX1_loadOf_4_s (n : OS) (x1 : Int32) (k : Nat) (x2 : Int32) (x3 : Int32) : fX1_loadOf_4 n x1 (k + 1) x2 x3 = (
    if (n.1 0) ≤ x3 then
     some x2
    else
     if (rget (n.2 4) 64 (fX5_link x3 x1)) < (0 : Int32) then
      fX1_loadOf_4 n x1 k (x2 + (0 : Int32)) (x3 + (1 : Int32))
     else
      fX1_loadOf_4 n x1 k (x2 + (1 : Int32)) (x3 + (1 : Int32))) := rfl
def fX1_loadOf (n : OS) (x1 : Int32) : Option (Int32) :=
  fX1_loadOf_4 n x1 FU (0 : Int32) (0 : Int32)
def fX1_fullestBoard_25 (n : OS) (x1 : Int32) (x2 : Int32) : Nat → Int32 → Int32 → Int32 → Option (Int32 × Int32)
  | 0, _, _, _ => none
  | k + 1, x3, x4, x5 =>
    if ((x2 + (1 : Int32)) * (n.1 1)) ≤ x5 then
     some (x3, x4)
    else
     jn (α := Int32) (
      if (fX1_isInletBusy n x5) = (0 : Int32) then
       (0 : Int32)
      else
       (1 : Int32)) (fun v4 =>
     if (fX1_isOutletBusy n x5) = (0 : Int32) then
      fX1_fullestBoard_25 n x1 x2 k (x3 + v4) (x4 + (0 : Int32)) (x5 + (1 : Int32))
     else
      fX1_fullestBoard_25 n x1 x2 k (x3 + v4) (x4 + (1 : Int32)) (x5 + (1 : Int32)))
theorem fX1_fullestBoard_25_z (n : OS) (x1 : Int32) (x2 : Int32) (x3 : Int32) (x4 : Int32) (x5 : Int32) : fX1_fullestBoard_25 n x1 x2 0 x3 x4 x5 = none := rfl
theorem fX1_fullestBoard_25_s (n : OS) (x1 : Int32) (x2 : Int32) (k : Nat) (x3 : Int32) (x4 : Int32) (x5 : Int32) : fX1_fullestBoard_25 n x1 x2 (k + 1) x3 x4 x5 = (
    if ((x2 + (1 : Int32)) * (n.1 1)) ≤ x5 then
     some (x3, x4)
    else
     jn (α := Int32) (
      if (fX1_isInletBusy n x5) = (0 : Int32) then
       (0 : Int32)
      else
       (1 : Int32)) (fun v4 =>
     if (fX1_isOutletBusy n x5) = (0 : Int32) then
      fX1_fullestBoard_25 n x1 x2 k (x3 + v4) (x4 + (0 : Int32)) (x5 + (1 : Int32))
     else
      fX1_fullestBoard_25 n x1 x2 k (x3 + v4) (x4 + (1 : Int32)) (x5 + (1 : Int32)))) := rfl
def fX1_fullestBoard_4 (n : OS) : Nat → Int32 → Int32 → Option (Int32)
  | 0, _, _ => none
  | k + 1, x1, x2 =>
    if (n.1 0) ≤ x2 then
     some x1
    else
     Option.bind (α := Int32 × Int32) (fX1_fullestBoard_25 n x1 x2 FU (0 : Int32) (0 : Int32) (x2 * (n.1 1))) (fun v6 =>
     fX1_fullestBoard_4 n k (if x1 < (if v6.1 < v6.2 then v6.2 else v6.1) then (if v6.1 < v6.2 then v6.2 else v6.1) else x1) (x2 + (1 : Int32)))
theorem fX1_fullestBoard_4_z (n : OS) (x1 : Int32) (x2 : Int32) : fX1_fullestBoard_4 n 0 x1 x2 = none := rfl
theorem fX1_fullestBoard_4_s (n : OS) (k : Nat) (x1 : Int32) (x2 : Int32) : fX1_fullestBoard_4 n (k + 1) x1 x2 = (
    if (n.1 0) ≤ x2 then
     some x1
    else
     Option.bind (α := Int32 × Int32) (fX1_fullestBoard_25 n x1 x2 FU (0 : Int32) (0 : Int32) (x2 * (n.1 1))) (fun v6 =>
     fX1_fullestBoard_4 n k (if x1 < (if v6.1 < v6.2 then v6.2 else v6.1) then (if v6.1 < v6.2 then v6.2 else v6.1) else x1) (x2 + (1 : Int32)))) := rfl
def fX1_fullestBoard (n : OS) : Option (Int32) :=
  fX1_fullestBoard_4 n FU (0 : Int32) (0 : Int32)
def fX1_firstLifted_5 (n : OS) : Nat → Int32 → Int32 → Option (Int32)
  | 0, _, _ => none
  | k + 1, x1, x2 =>
    if (48 : Int32) ≤ x2 then
     some x1
    else
     if (fX1_isInletBusy n x2) = (0 : Int32) then
      fX1_firstLifted_5 n k x1 (x2 + (1 : Int32))
     else
      if (0 : Int32) ≤ (rget (n.2 2) 48 x2) then
       fX1_firstLifted_5 n k x1 (x2 + (1 : Int32))
      else
       if x1 < (0 : Int32) then
        fX1_firstLifted_5 n k x2 (x2 + (1 : Int32))
       else
        if (rget (n.2 0) 48 x1) ≤ (rget (n.2 0) 48 x2) then
         fX1_firstLifted_5 n k x1 (x2 + (1 : Int32))
        else
         fX1_firstLifted_5 n k x2 (x2 + (1 : Int32))
theorem fX1_firstLifted_5_z (n : OS) (x1 : Int32) (x2 : Int32) : fX1_firstLifted_5 n 0 x1 x2 = none := rfl
theorem fX1_firstLifted_5_s (n : OS) (k : Nat) (x1 : Int32) (x2 : Int32) : fX1_firstLifted_5 n (k + 1) x1 x2 = (
    if (48 : Int32) ≤ x2 then
     some x1
    else
     if (fX1_isInletBusy n x2) = (0 : Int32) then
      fX1_firstLifted_5 n k x1 (x2 + (1 : Int32))
     else
      if (0 : Int32) ≤ (rget (n.2 2) 48 x2) then
       fX1_firstLifted_5 n k x1 (x2 + (1 : Int32))
      else
       if x1 < (0 : Int32) then
        fX1_firstLifted_5 n k x2 (x2 + (1 : Int32))
       else
        if (rget (n.2 0) 48 x1) ≤ (rget (n.2 0) 48 x2) then
         fX1_firstLifted_5 n k x1 (x2 + (1 : Int32))
        else
         fX1_firstLifted_5 n k x2 (x2 + (1 : Int32))) := rfl
def fX1_firstLifted (n : OS) : Option (Int32) :=
  fX1_firstLifted_5 n FU (-6 : Int32) (0 : Int32)
def fX1_addCall (n : OS) (x1 : Int32) (x2 : Int32) : OS :=
  jn (α := Nat → Int32) (rset (n.2 0) 48 x1 (n.1 6)) (fun w1 =>
  jn (α := Nat → Int32) (rset (n.2 1) 48 x1 x2) (fun w2 =>
  jn (α := Nat → Int32) (rset (n.2 3) 48 x2 x1) (fun w3 =>
  jn (α := Int32) (((n.1 6) + (1 : Int32))) (fun w4 =>
  (setF (setR (setR (setR n 0 w1) 1 w2) 3 w3) 6 w4)))))
def fX1_liftCall (n : OS) (x1 : Int32) : OS :=
  if (rget (n.2 2) 48 x1) < (0 : Int32) then
   n
  else
   jn (α := Nat → Int32) (rset (n.2 4) 64 (fX5_link (fX1_boardOf n x1) (rget (n.2 2) 48 x1)) (-6 : Int32)) (fun w2 =>
   jn (α := Nat → Int32) (rset (n.2 5) 64 (fX5_link (fX1_boardOf (setR n 4 w2) (rget (n.2 1) 48 x1)) (rget (n.2 2) 48 x1)) (-6 : Int32)) (fun w3 =>
   jn (α := Nat → Int32) (rset (n.2 2) 48 x1 (-6 : Int32)) (fun w4 =>
   (setR (setR (setR n 4 w2) 5 w3) 2 w4))))
def fX1_removeCall (n : OS) (x1 : Int32) : OS :=
  jn (α := OS) (fX1_liftCall n x1) (fun v1 =>
  jn (α := Nat → Int32) (rset (v1.2 3) 48 (rget (v1.2 1) 48 x1) (-6 : Int32)) (fun w2 =>
  jn (α := Nat → Int32) (rset (v1.2 1) 48 x1 (-6 : Int32)) (fun w3 =>
  jn (α := Nat → Int32) (rset (v1.2 0) 48 x1 (-6 : Int32)) (fun w4 =>
  (setR (setR (setR v1 3 w2) 1 w3) 0 w4)))))
def fX1_carryCall (n : OS) (x1 : Int32) (x2 : Int32) : OS :=
  jn (α := Nat → Int32) (rset (n.2 2) 48 x1 x2) (fun w1 =>
  jn (α := Nat → Int32) (rset (n.2 4) 64 (fX5_link (fX1_boardOf (setR n 2 w1) x1) x2) x1) (fun w2 =>
  jn (α := Nat → Int32) (rset (n.2 5) 64 (fX5_link (fX1_boardOf (setR (setR n 2 w1) 4 w2) (rget (n.2 1) 48 x1)) x2) x1) (fun w3 =>
  (setR (setR (setR n 2 w1) 4 w2) 5 w3))))
def fX1_freeOnLinks4_5 (n : OS) (x2 : Int32) : Nat → Int32 → Int32 → Option (Int32)
  | 0, _, _ => none
  | k + 1, x3, x4 =>
    if (n.1 2) ≤ x4 then
     some (x3 &&& (n.1 3))
    else
     if (0 : Int32) ≤ (rget (n.2 4) 64 (fX5_link x2 x4)) then
      fX1_freeOnLinks4_5 n x2 k x3 (x4 + (1 : Int32))
     else
      fX1_freeOnLinks4_5 n x2 k (x3 ||| ((1 : Int32) <<< (x4 &&& 31))) (x4 + (1 : Int32))
theorem fX1_freeOnLinks4_5_z (n : OS) (x2 : Int32) (x3 : Int32) (x4 : Int32) : fX1_freeOnLinks4_5 n x2 0 x3 x4 = none := rfl
theorem fX1_freeOnLinks4_5_s (n : OS) (x2 : Int32) (k : Nat) (x3 : Int32) (x4 : Int32) : fX1_freeOnLinks4_5 n x2 (k + 1) x3 x4 = (
    if (n.1 2) ≤ x4 then
     some (x3 &&& (n.1 3))
    else
     if (0 : Int32) ≤ (rget (n.2 4) 64 (fX5_link x2 x4)) then
      fX1_freeOnLinks4_5 n x2 k x3 (x4 + (1 : Int32))
     else
      fX1_freeOnLinks4_5 n x2 k (x3 ||| ((1 : Int32) <<< (x4 &&& 31))) (x4 + (1 : Int32))) := rfl
def fX1_freeOnLinks4 (n : OS) (x2 : Int32) : Option (Int32) :=
  fX1_freeOnLinks4_5 n x2 FU (0 : Int32) (0 : Int32)
def fX1_freeOnLinks5_5 (n : OS) (x2 : Int32) : Nat → Int32 → Int32 → Option (Int32)
  | 0, _, _ => none
  | k + 1, x3, x4 =>
    if (n.1 2) ≤ x4 then
     some (x3 &&& (n.1 3))
    else
     if (0 : Int32) ≤ (rget (n.2 5) 64 (fX5_link x2 x4)) then
      fX1_freeOnLinks5_5 n x2 k x3 (x4 + (1 : Int32))
     else
      fX1_freeOnLinks5_5 n x2 k (x3 ||| ((1 : Int32) <<< (x4 &&& 31))) (x4 + (1 : Int32))
theorem fX1_freeOnLinks5_5_z (n : OS) (x2 : Int32) (x3 : Int32) (x4 : Int32) : fX1_freeOnLinks5_5 n x2 0 x3 x4 = none := rfl
theorem fX1_freeOnLinks5_5_s (n : OS) (x2 : Int32) (k : Nat) (x3 : Int32) (x4 : Int32) : fX1_freeOnLinks5_5 n x2 (k + 1) x3 x4 = (
    if (n.1 2) ≤ x4 then
     some (x3 &&& (n.1 3))
    else
     if (0 : Int32) ≤ (rget (n.2 5) 64 (fX5_link x2 x4)) then
      fX1_freeOnLinks5_5 n x2 k x3 (x4 + (1 : Int32))
     else
      fX1_freeOnLinks5_5 n x2 k (x3 ||| ((1 : Int32) <<< (x4 &&& 31))) (x4 + (1 : Int32))) := rfl
def fX1_freeOnLinks5 (n : OS) (x2 : Int32) : Option (Int32) :=
  fX1_freeOnLinks5_5 n x2 FU (0 : Int32) (0 : Int32)
