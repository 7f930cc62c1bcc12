def fX6_in (x0 : Int32) (x1 : Int32) (x2 : Int32) : Int32 :=
  if x0 < x1 then
   (0 : Int32)
  else
   if x2 < x0 then
    (0 : Int32)
   else
    (1 : Int32)
def fX6_has (x0 : Int32) (x1 : Int32) : Int32 :=
  if ((x0 >>> (x1 &&& 31)) &&& (1 : Int32)) = (1 : Int32) then
   (1 : Int32)
  else
   (0 : Int32)
def fX6_lowest_2 (x0 : Int32) : Nat → Int32 → Option (Int32)
  | 0, _ => none
  | k + 1, x1 =>
    if (fX6_has x0 x1) = (0 : Int32) then
     fX6_lowest_2 x0 k (x1 + (1 : Int32))
    else
     some x1
theorem fX6_lowest_2_z (x0 : Int32) (x1 : Int32) : fX6_lowest_2 x0 0 x1 = none := rfl
theorem fX6_lowest_2_s (x0 : Int32) (k : Nat) (x1 : Int32) : fX6_lowest_2 x0 (k + 1) x1 = (
    if (fX6_has x0 x1) = (0 : Int32) then
     fX6_lowest_2 x0 k (x1 + (1 : Int32))
    else
     some x1) := rfl
def fX6_lowest (x0 : Int32) : Option (Int32) :=
  fX6_lowest_2 x0 FU (0 : Int32)
def fX6_bits_4 (x0 : Int32) : Nat → Int32 → Int32 → Option (Int32)
  | 0, _, _ => none
  | k + 1, x1, x2 =>
    if (8 : Int32) ≤ x2 then
     some x1
    else
     fX6_bits_4 x0 k (x1 + ((x0 >>> (x2 &&& 31)) &&& (1 : Int32))) (x2 + (1 : Int32))
theorem fX6_bits_4_z (x0 : Int32) (x1 : Int32) (x2 : Int32) : fX6_bits_4 x0 0 x1 x2 = none := rfl
theorem fX6_bits_4_s (x0 : Int32) (k : Nat) (x1 : Int32) (x2 : Int32) : fX6_bits_4 x0 (k + 1) x1 x2 = (
    if (8 : Int32) ≤ x2 then
     some x1
    else
     fX6_bits_4 x0 k (x1 + ((x0 >>> (x2 &&& 31)) &&& (1 : Int32))) (x2 + (1 : Int32))) := rfl
def fX6_bits (x0 : Int32) : Option (Int32) :=
  fX6_bits_4 x0 FU (0 : Int32) (0 : Int32)
def fX6_of (g : OS) (x1 : Int32) (x2 : Int32) (x3 : Int32) : Option (Int32) :=
  if inb (((x1 + (10 : Int32)) + ((3 : Int32) * x2)) + x3) 1078 = true then
  some ((g.2 0) (((x1 + (10 : Int32)) + ((3 : Int32) * x2)) + x3).toNatClampNeg)
  else none
def fX6_lay (g : OS) (x1 : Int32) (x2 : Int32) (x3 : Int32) (x4 : Int32) : Option (OS) :=
  if inb (((x1 + (10 : Int32)) + ((3 : Int32) * x2)) + x3) 1078 = true then
  jn (α := Nat → Int32) (upd (g.2 0) (((x1 + (10 : Int32)) + ((3 : Int32) * x2)) + x3).toNatClampNeg x4) (fun w2 =>
  some (setR g 0 w2))
  else none
def fX6_lines (g : OS) (x1 : Int32) : Option (Int32) :=
  if inb (x1 + (0 : Int32)) 1078 = true then
  if inb (x1 + (1 : Int32)) 1078 = true then
  some (((g.2 0) (x1 + (0 : Int32)).toNatClampNeg) * ((g.2 0) (x1 + (1 : Int32)).toNatClampNeg))
  else none
  else none
def fX6_isLine (g : OS) (x1 : Int32) (x2 : Int32) : Option (Int32) :=
  Option.bind (α := Int32) (fX6_lines g x1) (fun v1 =>
  some (fX6_in x2 (0 : Int32) (v1 - (1 : Int32))))
def fX6_isBoard (g : OS) (x1 : Int32) : Option (Int32) :=
  if inb (0 : Int32) 1078 = true then
  some (fX6_in x1 (0 : Int32) (((g.2 0) (0 : Int32).toNatClampNeg) - (1 : Int32)))
  else none
def fX6_isMiddle (g : OS) (x1 : Int32) (x2 : Int32) : Option (Int32) :=
  if inb (x1 + (2 : Int32)) 1078 = true then
  some (fX6_in x2 (0 : Int32) (((g.2 0) (x1 + (2 : Int32)).toNatClampNeg) - (1 : Int32)))
  else none
def fX6_builds_46 (x1 : Int32) : Nat → Int32 → OS → Option (OS)
  | 0, _, _ => none
  | k + 1, x5, g =>
    if (48 : Int32) ≤ x5 then
     some g
    else
     Option.bind (α := OS) (fX6_lay g x1 x5 (0 : Int32) (-1 : Int32)) (fun v10 =>
     Option.bind (α := OS) (fX6_lay v10 x1 x5 (1 : Int32) (-1 : Int32)) (fun v11 =>
     Option.bind (α := OS) (fX6_lay v11 x1 x5 (2 : Int32) (-1 : Int32)) (fun v12 =>
     fX6_builds_46 x1 k (x5 + (1 : Int32)) v12)))
theorem fX6_builds_46_z (x1 : Int32) (x5 : Int32) (g : OS) : fX6_builds_46 x1 0 x5 g = none := rfl
theorem fX6_builds_46_s (x1 : Int32) (k : Nat) (x5 : Int32) (g : OS) : fX6_builds_46 x1 (k + 1) x5 g = (
    if (48 : Int32) ≤ x5 then
     some g
    else
     Option.bind (α := OS) (fX6_lay g x1 x5 (0 : Int32) (-1 : Int32)) (fun v10 =>
     Option.bind (α := OS) (fX6_lay v10 x1 x5 (1 : Int32) (-1 : Int32)) (fun v11 =>
     Option.bind (α := OS) (fX6_lay v11 x1 x5 (2 : Int32) (-1 : Int32)) (fun v12 =>
     fX6_builds_46 x1 k (x5 + (1 : Int32)) v12)))) := rfl
def fX6_builds (g : OS) (x1 : Int32) (x2 : Int32) (x3 : Int32) (x4 : Int32) : Option (OS) :=
  if inb (x1 + (0 : Int32)) 1078 = true then
  jn (α := Nat → Int32) (upd (g.2 0) (x1 + (0 : Int32)).toNatClampNeg x2) (fun w2 =>
  if inb (x1 + (1 : Int32)) 1078 = true then
  jn (α := Nat → Int32) (upd w2 (x1 + (1 : Int32)).toNatClampNeg x3) (fun w4 =>
  if inb (x1 + (2 : Int32)) 1078 = true then
  jn (α := Nat → Int32) (upd w4 (x1 + (2 : Int32)).toNatClampNeg x4) (fun w6 =>
  if inb (x1 + (9 : Int32)) 1078 = true then
  jn (α := Nat → Int32) (upd w6 (x1 + (9 : Int32)).toNatClampNeg (((1 : Int32) <<< (x4 &&& 31)) - (1 : Int32))) (fun w8 =>
  fX6_builds_46 x1 FU (0 : Int32) (setR g 0 w8))
  else none)
  else none)
  else none)
  else none
def fX6_calls_4 (g : OS) (x1 : Int32) : Nat → Int32 → Int32 → Option (Int32)
  | 0, _, _ => none
  | k + 1, x2, x3 =>
    Option.bind (α := Int32) (fX6_lines g x1) (fun v1 =>
    if v1 ≤ x3 then
     some x2
    else
     Option.bind (α := Int32) (fX6_of g x1 x3 (0 : Int32)) (fun v3 =>
     if v3 = (-1 : Int32) then
      fX6_calls_4 g x1 k (x2 + (0 : Int32)) (x3 + (1 : Int32))
     else
      fX6_calls_4 g x1 k (x2 + (1 : Int32)) (x3 + (1 : Int32))))
theorem fX6_calls_4_z (g : OS) (x1 : Int32) (x2 : Int32) (x3 : Int32) : fX6_calls_4 g x1 0 x2 x3 = none := rfl
theorem fX6_calls_4_s (g : OS) (x1 : Int32) (k : Nat) (x2 : Int32) (x3 : Int32) : fX6_calls_4 g x1 (k + 1) x2 x3 = (
    Option.bind (α := Int32) (fX6_lines g x1) (fun v1 =>
    if v1 ≤ x3 then
     some x2
    else
     Option.bind (α := Int32) (fX6_of g x1 x3 (0 : Int32)) (fun v3 =>
     if v3 = (-1 : Int32) then
      fX6_calls_4 g x1 k (x2 + (0 : Int32)) (x3 + (1 : Int32))
     else
      fX6_calls_4 g x1 k (x2 + (1 : Int32)) (x3 + (1 : Int32))))) := rfl
def fX6_calls (g : OS) (x1 : Int32) : Option (Int32) :=
  fX6_calls_4 g x1 FU (0 : Int32) (0 : Int32)
def fX6_inletTo_2 (g : OS) (x1 : Int32) (x2 : Int32) : Nat → Int32 → Option (Int32)
  | 0, _ => none
  | k + 1, x3 =>
    Option.bind (α := Int32) (fX6_lines g x1) (fun v1 =>
    if v1 ≤ x3 then
     some (-1 : Int32)
    else
     Option.bind (α := Int32) (fX6_of g x1 x3 (0 : Int32)) (fun v3 =>
     if v3 = (-1 : Int32) then
      fX6_inletTo_2 g x1 x2 k (x3 + (1 : Int32))
     else
      Option.bind (α := Int32) (fX6_of g x1 x3 (1 : Int32)) (fun v5 =>
      if v5 = x2 then
       some x3
      else
       fX6_inletTo_2 g x1 x2 k (x3 + (1 : Int32)))))
theorem fX6_inletTo_2_z (g : OS) (x1 : Int32) (x2 : Int32) (x3 : Int32) : fX6_inletTo_2 g x1 x2 0 x3 = none := rfl
theorem fX6_inletTo_2_s (g : OS) (x1 : Int32) (x2 : Int32) (k : Nat) (x3 : Int32) : fX6_inletTo_2 g x1 x2 (k + 1) x3 = (
    Option.bind (α := Int32) (fX6_lines g x1) (fun v1 =>
    if v1 ≤ x3 then
     some (-1 : Int32)
    else
     Option.bind (α := Int32) (fX6_of g x1 x3 (0 : Int32)) (fun v3 =>
     if v3 = (-1 : Int32) then
      fX6_inletTo_2 g x1 x2 k (x3 + (1 : Int32))
     else
      Option.bind (α := Int32) (fX6_of g x1 x3 (1 : Int32)) (fun v5 =>
      if v5 = x2 then
       some x3
      else
       fX6_inletTo_2 g x1 x2 k (x3 + (1 : Int32)))))) := rfl
def fX6_inletTo (g : OS) (x1 : Int32) (x2 : Int32) : Option (Int32) :=
  fX6_inletTo_2 g x1 x2 FU (0 : Int32)
def fX6_onFirst_3 (g : OS) (x1 : Int32) (x2 : Int32) (x3 : Int32) : Nat → Int32 → Option (Int32)
  | 0, _ => none
  | k + 1, x4 =>
    Option.bind (α := Int32) (fX6_lines g x1) (fun v1 =>
    if v1 ≤ x4 then
     some (-1 : Int32)
    else
     Option.bind (α := Int32) (fX6_of g x1 x4 (0 : Int32)) (fun v3 =>
     if v3 = (-1 : Int32) then
      fX6_onFirst_3 g x1 x2 x3 k (x4 + (1 : Int32))
     else
      Option.bind (α := Int32) (fX6_of g x1 x4 (2 : Int32)) (fun v5 =>
      if v5 = x3 then
       if inb (x1 + (1 : Int32)) 1078 = true then
       if ¬ ((g.2 0) (x1 + (1 : Int32)).toNatClampNeg) = (0 : Int32) then
       if (x4 / ((g.2 0) (x1 + (1 : Int32)).toNatClampNeg)) = x2 then
        some x4
       else
        fX6_onFirst_3 g x1 x2 x3 k (x4 + (1 : Int32))
       else none
       else none
      else
       fX6_onFirst_3 g x1 x2 x3 k (x4 + (1 : Int32)))))
theorem fX6_onFirst_3_z (g : OS) (x1 : Int32) (x2 : Int32) (x3 : Int32) (x4 : Int32) : fX6_onFirst_3 g x1 x2 x3 0 x4 = none := rfl
theorem fX6_onFirst_3_s (g : OS) (x1 : Int32) (x2 : Int32) (x3 : Int32) (k : Nat) (x4 : Int32) : fX6_onFirst_3 g x1 x2 x3 (k + 1) x4 = (
    Option.bind (α := Int32) (fX6_lines g x1) (fun v1 =>
    if v1 ≤ x4 then
     some (-1 : Int32)
    else
     Option.bind (α := Int32) (fX6_of g x1 x4 (0 : Int32)) (fun v3 =>
     if v3 = (-1 : Int32) then
      fX6_onFirst_3 g x1 x2 x3 k (x4 + (1 : Int32))
     else
      Option.bind (α := Int32) (fX6_of g x1 x4 (2 : Int32)) (fun v5 =>
      if v5 = x3 then
       if inb (x1 + (1 : Int32)) 1078 = true then
       if ¬ ((g.2 0) (x1 + (1 : Int32)).toNatClampNeg) = (0 : Int32) then
       if (x4 / ((g.2 0) (x1 + (1 : Int32)).toNatClampNeg)) = x2 then
        some x4
       else
        fX6_onFirst_3 g x1 x2 x3 k (x4 + (1 : Int32))
       else none
       else none
      else
       fX6_onFirst_3 g x1 x2 x3 k (x4 + (1 : Int32)))))) := rfl
def fX6_onFirst (g : OS) (x1 : Int32) (x2 : Int32) (x3 : Int32) : Option (Int32) :=
  fX6_onFirst_3 g x1 x2 x3 FU (0 : Int32)
def fX6_onLast_3 (g : OS) (x1 : Int32) (x2 : Int32) (x3 : Int32) : Nat → Int32 → Option (Int32)
  | 0, _ => none
  | k + 1, x4 =>
    Option.bind (α := Int32) (fX6_lines g x1) (fun v1 =>
    if v1 ≤ x4 then
     some (-1 : Int32)
    else
     Option.bind (α := Int32) (fX6_of g x1 x4 (0 : Int32)) (fun v3 =>
     if v3 = (-1 : Int32) then
      fX6_onLast_3 g x1 x2 x3 k (x4 + (1 : Int32))
     else
      Option.bind (α := Int32) (fX6_of g x1 x4 (2 : Int32)) (fun v5 =>
      if v5 = x2 then
       Option.bind (α := Int32) (fX6_of g x1 x4 (1 : Int32)) (fun v7 =>
       if inb (x1 + (1 : Int32)) 1078 = true then
       if ¬ ((g.2 0) (x1 + (1 : Int32)).toNatClampNeg) = (0 : Int32) then
       if (v7 / ((g.2 0) (x1 + (1 : Int32)).toNatClampNeg)) = x3 then
        some x4
       else
        fX6_onLast_3 g x1 x2 x3 k (x4 + (1 : Int32))
       else none
       else none)
      else
       fX6_onLast_3 g x1 x2 x3 k (x4 + (1 : Int32)))))
theorem fX6_onLast_3_z (g : OS) (x1 : Int32) (x2 : Int32) (x3 : Int32) (x4 : Int32) : fX6_onLast_3 g x1 x2 x3 0 x4 = none := rfl
theorem fX6_onLast_3_s (g : OS) (x1 : Int32) (x2 : Int32) (x3 : Int32) (k : Nat) (x4 : Int32) : fX6_onLast_3 g x1 x2 x3 (k + 1) x4 = (
    Option.bind (α := Int32) (fX6_lines g x1) (fun v1 =>
    if v1 ≤ x4 then
     some (-1 : Int32)
    else
     Option.bind (α := Int32) (fX6_of g x1 x4 (0 : Int32)) (fun v3 =>
     if v3 = (-1 : Int32) then
      fX6_onLast_3 g x1 x2 x3 k (x4 + (1 : Int32))
     else
      Option.bind (α := Int32) (fX6_of g x1 x4 (2 : Int32)) (fun v5 =>
      if v5 = x2 then
       Option.bind (α := Int32) (fX6_of g x1 x4 (1 : Int32)) (fun v7 =>
       if inb (x1 + (1 : Int32)) 1078 = true then
       if ¬ ((g.2 0) (x1 + (1 : Int32)).toNatClampNeg) = (0 : Int32) then
       if (v7 / ((g.2 0) (x1 + (1 : Int32)).toNatClampNeg)) = x3 then
        some x4
       else
        fX6_onLast_3 g x1 x2 x3 k (x4 + (1 : Int32))
       else none
       else none)
      else
       fX6_onLast_3 g x1 x2 x3 k (x4 + (1 : Int32)))))) := rfl
def fX6_onLast (g : OS) (x1 : Int32) (x2 : Int32) (x3 : Int32) : Option (Int32) :=
  fX6_onLast_3 g x1 x2 x3 FU (0 : Int32)
def fX6_loadOf_5 (g : OS) (x1 : Int32) (x2 : Int32) : Nat → Int32 → Int32 → Option (Int32)
  | 0, _, _ => none
  | k + 1, x3, x4 =>
    Option.bind (α := Int32) (fX6_lines g x1) (fun v1 =>
    if v1 ≤ x4 then
     some x3
    else
     Option.bind (α := Int32) (fX6_of g x1 x4 (0 : Int32)) (fun v3 =>
     if v3 = (-1 : Int32) then
      fX6_loadOf_5 g x1 x2 k (x3 + (0 : Int32)) (x4 + (1 : Int32))
     else
      Option.bind (α := Int32) (fX6_of g x1 x4 (2 : Int32)) (fun v5 =>
      if v5 = x2 then
       fX6_loadOf_5 g x1 x2 k (x3 + (1 : Int32)) (x4 + (1 : Int32))
      else
       fX6_loadOf_5 g x1 x2 k (x3 + (0 : Int32)) (x4 + (1 : Int32)))))
theorem fX6_loadOf_5_z (g : OS) (x1 : Int32) (x2 : Int32) (x3 : Int32) (x4 : Int32) : fX6_loadOf_5 g x1 x2 0 x3 x4 = none := rfl
theorem fX6_loadOf_5_s (g : OS) (x1 : Int32) (x2 : Int32) (k : Nat) (x3 : Int32) (x4 : Int32) : fX6_loadOf_5 g x1 x2 (k + 1) x3 x4 = (
    Option.bind (α := Int32) (fX6_lines g x1) (fun v1 =>
    if v1 ≤ x4 then
     some x3
    else
     Option.bind (α := Int32) (fX6_of g x1 x4 (0 : Int32)) (fun v3 =>
     if v3 = (-1 : Int32) then
      fX6_loadOf_5 g x1 x2 k (x3 + (0 : Int32)) (x4 + (1 : Int32))
     else
      Option.bind (α := Int32) (fX6_of g x1 x4 (2 : Int32)) (fun v5 =>
      if v5 = x2 then
       fX6_loadOf_5 g x1 x2 k (x3 + (1 : Int32)) (x4 + (1 : Int32))
      else
       fX6_loadOf_5 g x1 x2 k (x3 + (0 : Int32)) (x4 + (1 : Int32)))))) := rfl
def fX6_loadOf (g : OS) (x1 : Int32) (x2 : Int32) : Option (Int32) :=
  fX6_loadOf_5 g x1 x2 FU (0 : Int32) (0 : Int32)
def fX6_freeAhead_5 (g : OS) (x1 : Int32) (x2 : Int32) : Nat → Int32 → Int32 → Option (Int32)
  | 0, _, _ => none
  | k + 1, x3, x4 =>
    if inb (x1 + (2 : Int32)) 1078 = true then
    if ((g.2 0) (x1 + (2 : Int32)).toNatClampNeg) ≤ x4 then
     some x3
    else
     if inb (x1 + (9 : Int32)) 1078 = true then
     if (fX6_has ((g.2 0) (x1 + (9 : Int32)).toNatClampNeg) x4) = (0 : Int32) then
      fX6_freeAhead_5 g x1 x2 k (x3 ||| (0 : Int32)) (x4 + (1 : Int32))
     else
      Option.bind (α := Int32) (fX6_onFirst g x1 x2 x4) (fun v5 =>
      if v5 = (-1 : Int32) then
       fX6_freeAhead_5 g x1 x2 k (x3 ||| ((1 : Int32) <<< (x4 &&& 31))) (x4 + (1 : Int32))
      else
       fX6_freeAhead_5 g x1 x2 k (x3 ||| (0 : Int32)) (x4 + (1 : Int32)))
     else none
    else none
theorem fX6_freeAhead_5_z (g : OS) (x1 : Int32) (x2 : Int32) (x3 : Int32) (x4 : Int32) : fX6_freeAhead_5 g x1 x2 0 x3 x4 = none := rfl
theorem fX6_freeAhead_5_s (g : OS) (x1 : Int32) (x2 : Int32) (k : Nat) (x3 : Int32) (x4 : Int32) : fX6_freeAhead_5 g x1 x2 (k + 1) x3 x4 = (
    if inb (x1 + (2 : Int32)) 1078 = true then
    if ((g.2 0) (x1 + (2 : Int32)).toNatClampNeg) ≤ x4 then
     some x3
    else
     if inb (x1 + (9 : Int32)) 1078 = true then
     if (fX6_has ((g.2 0) (x1 + (9 : Int32)).toNatClampNeg) x4) = (0 : Int32) then
      fX6_freeAhead_5 g x1 x2 k (x3 ||| (0 : Int32)) (x4 + (1 : Int32))
     else
      Option.bind (α := Int32) (fX6_onFirst g x1 x2 x4) (fun v5 =>
      if v5 = (-1 : Int32) then
       fX6_freeAhead_5 g x1 x2 k (x3 ||| ((1 : Int32) <<< (x4 &&& 31))) (x4 + (1 : Int32))
      else
       fX6_freeAhead_5 g x1 x2 k (x3 ||| (0 : Int32)) (x4 + (1 : Int32)))
     else none
    else none) := rfl
def fX6_freeAhead (g : OS) (x1 : Int32) (x2 : Int32) : Option (Int32) :=
  fX6_freeAhead_5 g x1 x2 FU (0 : Int32) (0 : Int32)
def fX6_freeBehind_5 (g : OS) (x1 : Int32) (x2 : Int32) : Nat → Int32 → Int32 → Option (Int32)
  | 0, _, _ => none
  | k + 1, x3, x4 =>
    if inb (x1 + (2 : Int32)) 1078 = true then
    if ((g.2 0) (x1 + (2 : Int32)).toNatClampNeg) ≤ x4 then
     some x3
    else
     if inb (x1 + (9 : Int32)) 1078 = true then
     if (fX6_has ((g.2 0) (x1 + (9 : Int32)).toNatClampNeg) x4) = (0 : Int32) then
      fX6_freeBehind_5 g x1 x2 k (x3 ||| (0 : Int32)) (x4 + (1 : Int32))
     else
      Option.bind (α := Int32) (fX6_onLast g x1 x4 x2) (fun v5 =>
      if v5 = (-1 : Int32) then
       fX6_freeBehind_5 g x1 x2 k (x3 ||| ((1 : Int32) <<< (x4 &&& 31))) (x4 + (1 : Int32))
      else
       fX6_freeBehind_5 g x1 x2 k (x3 ||| (0 : Int32)) (x4 + (1 : Int32)))
     else none
    else none
theorem fX6_freeBehind_5_z (g : OS) (x1 : Int32) (x2 : Int32) (x3 : Int32) (x4 : Int32) : fX6_freeBehind_5 g x1 x2 0 x3 x4 = none := rfl
theorem fX6_freeBehind_5_s (g : OS) (x1 : Int32) (x2 : Int32) (k : Nat) (x3 : Int32) (x4 : Int32) : fX6_freeBehind_5 g x1 x2 (k + 1) x3 x4 = (
    if inb (x1 + (2 : Int32)) 1078 = true then
    if ((g.2 0) (x1 + (2 : Int32)).toNatClampNeg) ≤ x4 then
     some x3
    else
     if inb (x1 + (9 : Int32)) 1078 = true then
     if (fX6_has ((g.2 0) (x1 + (9 : Int32)).toNatClampNeg) x4) = (0 : Int32) then
      fX6_freeBehind_5 g x1 x2 k (x3 ||| (0 : Int32)) (x4 + (1 : Int32))
     else
      Option.bind (α := Int32) (fX6_onLast g x1 x4 x2) (fun v5 =>
      if v5 = (-1 : Int32) then
       fX6_freeBehind_5 g x1 x2 k (x3 ||| ((1 : Int32) <<< (x4 &&& 31))) (x4 + (1 : Int32))
      else
       fX6_freeBehind_5 g x1 x2 k (x3 ||| (0 : Int32)) (x4 + (1 : Int32)))
     else none
    else none) := rfl
def fX6_freeBehind (g : OS) (x1 : Int32) (x2 : Int32) : Option (Int32) :=
  fX6_freeBehind_5 g x1 x2 FU (0 : Int32) (0 : Int32)
def fX6_chosen_10 (g : OS) (x1 : Int32) (x2 : Int32) : Nat → Int32 → Int32 → Option (Int32)
  | 0, _, _ => none
  | k + 1, x3, x4 =>
    if inb (x1 + (2 : Int32)) 1078 = true then
    if ((g.2 0) (x1 + (2 : Int32)).toNatClampNeg) ≤ x4 then
     some x3
    else
     Option.bind (α := Int32) (fX6_loadOf g x1 x4) (fun v4 =>
     Option.bind (α := Int32) (fX6_loadOf g x1 x3) (fun v5 =>
     if inb (x1 + (3 : Int32)) 1078 = true then
     Option.bind (α := Int32) (
      if ((g.2 0) (x1 + (3 : Int32)).toNatClampNeg) = (1 : Int32) then
       if (0 : Int32) < (v4 - v5) then
        some (1 : Int32)
       else
        if inb (x1 + (3 : Int32)) 1078 = true then
        if ((g.2 0) (x1 + (3 : Int32)).toNatClampNeg) = (2 : Int32) then
         if (0 : Int32) ≤ (v4 - v5) then
          some (0 : Int32)
         else
          some (1 : Int32)
        else
         some (0 : Int32)
        else none
      else
       if inb (x1 + (3 : Int32)) 1078 = true then
       if ((g.2 0) (x1 + (3 : Int32)).toNatClampNeg) = (2 : Int32) then
        if (0 : Int32) ≤ (v4 - v5) then
         some (0 : Int32)
        else
         some (1 : Int32)
       else
        some (0 : Int32)
       else none) (fun v15 =>
     if (fX6_has x2 x4) = (0 : Int32) then
      fX6_chosen_10 g x1 x2 k x3 (x4 + (1 : Int32))
     else
      if v15 = (0 : Int32) then
       fX6_chosen_10 g x1 x2 k x3 (x4 + (1 : Int32))
      else
       fX6_chosen_10 g x1 x2 k x4 (x4 + (1 : Int32)))
     else none))
    else none
theorem fX6_chosen_10_z (g : OS) (x1 : Int32) (x2 : Int32) (x3 : Int32) (x4 : Int32) : fX6_chosen_10 g x1 x2 0 x3 x4 = none := rfl
theorem fX6_chosen_10_s (g : OS) (x1 : Int32) (x2 : Int32) (k : Nat) (x3 : Int32) (x4 : Int32) : fX6_chosen_10 g x1 x2 (k + 1) x3 x4 = (
    if inb (x1 + (2 : Int32)) 1078 = true then
    if ((g.2 0) (x1 + (2 : Int32)).toNatClampNeg) ≤ x4 then
     some x3
    else
     Option.bind (α := Int32) (fX6_loadOf g x1 x4) (fun v4 =>
     Option.bind (α := Int32) (fX6_loadOf g x1 x3) (fun v5 =>
     if inb (x1 + (3 : Int32)) 1078 = true then
     Option.bind (α := Int32) (
      if ((g.2 0) (x1 + (3 : Int32)).toNatClampNeg) = (1 : Int32) then
       if (0 : Int32) < (v4 - v5) then
        some (1 : Int32)
       else
        if inb (x1 + (3 : Int32)) 1078 = true then
        if ((g.2 0) (x1 + (3 : Int32)).toNatClampNeg) = (2 : Int32) then
         if (0 : Int32) ≤ (v4 - v5) then
          some (0 : Int32)
         else
          some (1 : Int32)
        else
         some (0 : Int32)
        else none
      else
       if inb (x1 + (3 : Int32)) 1078 = true then
       if ((g.2 0) (x1 + (3 : Int32)).toNatClampNeg) = (2 : Int32) then
        if (0 : Int32) ≤ (v4 - v5) then
         some (0 : Int32)
        else
         some (1 : Int32)
       else
        some (0 : Int32)
       else none) (fun v15 =>
     if (fX6_has x2 x4) = (0 : Int32) then
      fX6_chosen_10 g x1 x2 k x3 (x4 + (1 : Int32))
     else
      if v15 = (0 : Int32) then
       fX6_chosen_10 g x1 x2 k x3 (x4 + (1 : Int32))
      else
       fX6_chosen_10 g x1 x2 k x4 (x4 + (1 : Int32)))
     else none))
    else none) := rfl
def fX6_chosen (g : OS) (x1 : Int32) (x2 : Int32) : Option (Int32) :=
  Option.bind (α := Int32) (fX6_lowest x2) (fun v1 =>
  fX6_chosen_10 g x1 x2 FU v1 (v1 + (1 : Int32)))
def fX6_lays_16 (x1 : Int32) (x2 : Int32) (x3 : Int32) : Nat → Int32 → Int32 → Int32 → OS → Option (Int32 × OS)
  | 0, _, _, _, _ => none
  | k + 1, x5, x6, x7, g =>
    if x6 = (-1 : Int32) then
     some (x5, g)
    else
     if inb x5 48 = true then
     jn (α := Nat → Int32) (upd (g.2 2) x5.toNatClampNeg x6) (fun w4 =>
     Option.bind (α := Int32) (
      if x7 = (0 : Int32) then
       Option.bind (α := Int32) (fX6_of (setR g 2 w4) x1 x6 (1 : Int32)) (fun v6 =>
       if inb (x1 + (1 : Int32)) 1078 = true then
       if ¬ ((g.2 0) (x1 + (1 : Int32)).toNatClampNeg) = (0 : Int32) then
       Option.bind (α := Int32) (fX6_onLast (setR g 2 w4) x1 x2 (v6 / ((g.2 0) (x1 + (1 : Int32)).toNatClampNeg))) (fun v9 =>
       some v9)
       else none
       else none)
      else
       if inb (x1 + (1 : Int32)) 1078 = true then
       if ¬ ((g.2 0) (x1 + (1 : Int32)).toNatClampNeg) = (0 : Int32) then
       Option.bind (α := Int32) (fX6_onFirst (setR g 2 w4) x1 (x6 / ((g.2 0) (x1 + (1 : Int32)).toNatClampNeg)) x3) (fun v12 =>
       some v12)
       else none
       else none) (fun v13 =>
     if x7 = (0 : Int32) then
      fX6_lays_16 x1 x2 x3 k (x5 + (1 : Int32)) v13 (1 : Int32) (setR g 2 w4)
     else
      fX6_lays_16 x1 x2 x3 k (x5 + (1 : Int32)) v13 (0 : Int32) (setR g 2 w4)))
     else none
theorem fX6_lays_16_z (x1 : Int32) (x2 : Int32) (x3 : Int32) (x5 : Int32) (x6 : Int32) (x7 : Int32) (g : OS) : fX6_lays_16 x1 x2 x3 0 x5 x6 x7 g = none := rfl
theorem fX6_lays_16_s (x1 : Int32) (x2 : Int32) (x3 : Int32) (k : Nat) (x5 : Int32) (x6 : Int32) (x7 : Int32) (g : OS) : fX6_lays_16 x1 x2 x3 (k + 1) x5 x6 x7 g = (
    if x6 = (-1 : Int32) then
     some (x5, g)
    else
     if inb x5 48 = true then
     jn (α := Nat → Int32) (upd (g.2 2) x5.toNatClampNeg x6) (fun w4 =>
     Option.bind (α := Int32) (
      if x7 = (0 : Int32) then
       Option.bind (α := Int32) (fX6_of (setR g 2 w4) x1 x6 (1 : Int32)) (fun v6 =>
       if inb (x1 + (1 : Int32)) 1078 = true then
       if ¬ ((g.2 0) (x1 + (1 : Int32)).toNatClampNeg) = (0 : Int32) then
       Option.bind (α := Int32) (fX6_onLast (setR g 2 w4) x1 x2 (v6 / ((g.2 0) (x1 + (1 : Int32)).toNatClampNeg))) (fun v9 =>
       some v9)
       else none
       else none)
      else
       if inb (x1 + (1 : Int32)) 1078 = true then
       if ¬ ((g.2 0) (x1 + (1 : Int32)).toNatClampNeg) = (0 : Int32) then
       Option.bind (α := Int32) (fX6_onFirst (setR g 2 w4) x1 (x6 / ((g.2 0) (x1 + (1 : Int32)).toNatClampNeg)) x3) (fun v12 =>
       some v12)
       else none
       else none) (fun v13 =>
     if x7 = (0 : Int32) then
      fX6_lays_16 x1 x2 x3 k (x5 + (1 : Int32)) v13 (1 : Int32) (setR g 2 w4)
     else
      fX6_lays_16 x1 x2 x3 k (x5 + (1 : Int32)) v13 (0 : Int32) (setR g 2 w4)))
     else none) := rfl
def fX6_lays (g : OS) (x1 : Int32) (x2 : Int32) (x3 : Int32) (x4 : Int32) : Option (Int32 × OS) :=
  Option.bind (α := Int32) (fX6_onLast g x1 x2 x4) (fun v1 =>
  fX6_lays_16 x1 x2 x3 FU (0 : Int32) v1 (1 : Int32) g)
def fX6_pairOf_33 (x1 : Int32) (x2 : Int32) (x3 : Int32) (x4 : Int32) : Nat → Int32 → Int32 → Int32 → OS → Option (Int32 × OS)
  | 0, _, _, _, _ => none
  | k + 1, x5, x6, x7, g =>
    if (64 : Int32) ≤ x7 then
     some (x5, g)
    else
     if (fX6_has x2 (x7 / (8 : Int32))) = (0 : Int32) then
      fX6_pairOf_33 x1 x2 x3 x4 k x5 x6 (x7 + (1 : Int32)) g
     else
      if (fX6_has x3 (x7 - x7 / (8 : Int32) * (8 : Int32))) = (0 : Int32) then
       fX6_pairOf_33 x1 x2 x3 x4 k x5 x6 (x7 + (1 : Int32)) g
      else
       Option.bind (α := Int32 × OS) (fX6_lays g x1 (x7 / (8 : Int32)) (x7 - x7 / (8 : Int32) * (8 : Int32)) x4) (fun v6 =>
       jn (α := Int32) (
        if x5 = (-1 : Int32) then
         (1 : Int32)
        else
         if x6 ≤ v6.1 then
          (0 : Int32)
         else
          (1 : Int32)) (fun v9 =>
       jn (α := Int32) (
        if v9 = (0 : Int32) then
         x5
        else
         x7) (fun v11 =>
       if v9 = (0 : Int32) then
        fX6_pairOf_33 x1 x2 x3 x4 k v11 x6 (x7 + (1 : Int32)) v6.2
       else
        fX6_pairOf_33 x1 x2 x3 x4 k v11 v6.1 (x7 + (1 : Int32)) v6.2)))
theorem fX6_pairOf_33_z (x1 : Int32) (x2 : Int32) (x3 : Int32) (x4 : Int32) (x5 : Int32) (x6 : Int32) (x7 : Int32) (g : OS) : fX6_pairOf_33 x1 x2 x3 x4 0 x5 x6 x7 g = none := rfl
theorem fX6_pairOf_33_s (x1 : Int32) (x2 : Int32) (x3 : Int32) (x4 : Int32) (k : Nat) (x5 : Int32) (x6 : Int32) (x7 : Int32) (g : OS) : fX6_pairOf_33 x1 x2 x3 x4 (k + 1) x5 x6 x7 g = (
    if (64 : Int32) ≤ x7 then
     some (x5, g)
    else
     if (fX6_has x2 (x7 / (8 : Int32))) = (0 : Int32) then
      fX6_pairOf_33 x1 x2 x3 x4 k x5 x6 (x7 + (1 : Int32)) g
     else
      if (fX6_has x3 (x7 - x7 / (8 : Int32) * (8 : Int32))) = (0 : Int32) then
       fX6_pairOf_33 x1 x2 x3 x4 k x5 x6 (x7 + (1 : Int32)) g
      else
       Option.bind (α := Int32 × OS) (fX6_lays g x1 (x7 / (8 : Int32)) (x7 - x7 / (8 : Int32) * (8 : Int32)) x4) (fun v6 =>
       jn (α := Int32) (
        if x5 = (-1 : Int32) then
         (1 : Int32)
        else
         if x6 ≤ v6.1 then
          (0 : Int32)
         else
          (1 : Int32)) (fun v9 =>
       jn (α := Int32) (
        if v9 = (0 : Int32) then
         x5
        else
         x7) (fun v11 =>
       if v9 = (0 : Int32) then
        fX6_pairOf_33 x1 x2 x3 x4 k v11 x6 (x7 + (1 : Int32)) v6.2
       else
        fX6_pairOf_33 x1 x2 x3 x4 k v11 v6.1 (x7 + (1 : Int32)) v6.2)))) := rfl
def fX6_pairOf (g : OS) (x1 : Int32) (x2 : Int32) (x3 : Int32) (x4 : Int32) : Option (Int32 × OS) :=
  if inb (x1 + (4 : Int32)) 1078 = true then
  if ((g.2 0) (x1 + (4 : Int32)).toNatClampNeg) = (0 : Int32) then
   Option.bind (α := Int32) (fX6_lowest x2) (fun v13 =>
   Option.bind (α := Int32) (fX6_lowest x3) (fun v14 =>
   some ((((8 : Int32) * v13) + v14), g)))
  else
   fX6_pairOf_33 x1 x2 x3 x4 FU (-1 : Int32) (0 : Int32) (0 : Int32) g
  else none
def fX6_routes_132 (x1 : Int32) (x2 : Int32) (x6 : Int32) (x7 : Int32) : Nat → Int32 → OS → Option (Int32 × OS)
  | 0, _, _ => none
  | k + 1, x8, g =>
    if (g.1 10) ≤ x8 then
     if inb (x1 + (8 : Int32)) 1078 = true then
     if inb (x1 + (8 : Int32)) 1078 = true then
     jn (α := Nat → Int32) (upd (g.2 0) (x1 + (8 : Int32)).toNatClampNeg (((g.2 0) (x1 + (8 : Int32)).toNatClampNeg) + (g.1 10))) (fun w16 =>
     Option.bind (α := OS) (fX6_lay (setR g 0 w16) x1 x2 (2 : Int32) x7) (fun v17 =>
     some (x7, v17)))
     else none
     else none
    else
     if inb x8 48 = true then
     if inb x8 48 = true then
     Option.bind (α := Int32) (fX6_of g x1 ((g.2 2) x8.toNatClampNeg) (2 : Int32)) (fun v20 =>
     Option.bind (α := OS) (fX6_lay g x1 ((g.2 2) x8.toNatClampNeg) (2 : Int32) ((x7 + (x6 - x6 / (8 : Int32) * (8 : Int32))) - v20)) (fun v21 =>
     fX6_routes_132 x1 x2 x6 x7 k (x8 + (1 : Int32)) v21))
     else none
     else none
theorem fX6_routes_132_z (x1 : Int32) (x2 : Int32) (x6 : Int32) (x7 : Int32) (x8 : Int32) (g : OS) : fX6_routes_132 x1 x2 x6 x7 0 x8 g = none := rfl
theorem fX6_routes_132_s (x1 : Int32) (x2 : Int32) (x6 : Int32) (x7 : Int32) (k : Nat) (x8 : Int32) (g : OS) : fX6_routes_132 x1 x2 x6 x7 (k + 1) x8 g = (
    if (g.1 10) ≤ x8 then
     if inb (x1 + (8 : Int32)) 1078 = true then
     if inb (x1 + (8 : Int32)) 1078 = true then
     jn (α := Nat → Int32) (upd (g.2 0) (x1 + (8 : Int32)).toNatClampNeg (((g.2 0) (x1 + (8 : Int32)).toNatClampNeg) + (g.1 10))) (fun w16 =>
     Option.bind (α := OS) (fX6_lay (setR g 0 w16) x1 x2 (2 : Int32) x7) (fun v17 =>
     some (x7, v17)))
     else none
     else none
    else
     if inb x8 48 = true then
     if inb x8 48 = true then
     Option.bind (α := Int32) (fX6_of g x1 ((g.2 2) x8.toNatClampNeg) (2 : Int32)) (fun v20 =>
     Option.bind (α := OS) (fX6_lay g x1 ((g.2 2) x8.toNatClampNeg) (2 : Int32) ((x7 + (x6 - x6 / (8 : Int32) * (8 : Int32))) - v20)) (fun v21 =>
     fX6_routes_132 x1 x2 x6 x7 k (x8 + (1 : Int32)) v21))
     else none
     else none) := rfl
def fX6_routes (g : OS) (x1 : Int32) (x2 : Int32) : Option (Int32 × OS) :=
  Option.bind (α := Int32) (fX6_of g x1 x2 (1 : Int32)) (fun v1 =>
  if inb (x1 + (1 : Int32)) 1078 = true then
  if ¬ ((g.2 0) (x1 + (1 : Int32)).toNatClampNeg) = (0 : Int32) then
  if inb (x1 + (1 : Int32)) 1078 = true then
  if ¬ ((g.2 0) (x1 + (1 : Int32)).toNatClampNeg) = (0 : Int32) then
  Option.bind (α := Int32) (fX6_freeAhead g x1 (x2 / ((g.2 0) (x1 + (1 : Int32)).toNatClampNeg))) (fun v6 =>
  Option.bind (α := Int32) (fX6_freeBehind g x1 (v1 / ((g.2 0) (x1 + (1 : Int32)).toNatClampNeg))) (fun v7 =>
  if v6 = (0 : Int32) then
   some ((-4 : Int32), (setF g 10 (0 : Int32)))
  else
   if v7 = (0 : Int32) then
    some ((-4 : Int32), (setF g 10 (0 : Int32)))
   else
    if (v6 &&& v7) = (0 : Int32) then
     Option.bind (α := Int32 × OS) (fX6_pairOf (setF g 10 (0 : Int32)) x1 v6 v7 (v1 / ((g.2 0) (x1 + (1 : Int32)).toNatClampNeg))) (fun v11 =>
     Option.bind (α := Int32 × OS) (fX6_lays v11.2 x1 (v11.1 / (8 : Int32)) (v11.1 - v11.1 / (8 : Int32) * (8 : Int32)) (v1 / ((g.2 0) (x1 + (1 : Int32)).toNatClampNeg))) (fun v12 =>
     fX6_routes_132 x1 x2 v11.1 (v11.1 / (8 : Int32)) FU (0 : Int32) (setF v12.2 10 v12.1)))
    else
     Option.bind (α := Int32) (fX6_chosen (setF g 10 (0 : Int32)) x1 (v6 &&& v7)) (fun v22 =>
     Option.bind (α := OS) (fX6_lay (setF g 10 (0 : Int32)) x1 x2 (2 : Int32) v22) (fun v23 =>
     Option.bind (α := Int32) (fX6_of v23 x1 x2 (2 : Int32)) (fun v24 =>
     some (v24, v23))))))
  else none
  else none
  else none
  else none)
def fX6_nextOff_4 (g : OS) (x1 : Int32) : Nat → Int32 → Int32 → Option (Int32)
  | 0, _, _ => none
  | k + 1, x2, x3 =>
    Option.bind (α := Int32) (fX6_lines g x1) (fun v1 =>
    if v1 ≤ x3 then
     some x2
    else
     Option.bind (α := Int32) (fX6_of g x1 x3 (0 : Int32)) (fun v3 =>
     Option.bind (α := Int32) (
      if v3 = (-1 : Int32) then
       some (0 : Int32)
      else
       Option.bind (α := Int32) (fX6_of g x1 x3 (2 : Int32)) (fun v5 =>
       if v5 = (-1 : Int32) then
        some (1 : Int32)
       else
        some (0 : Int32))) (fun v7 =>
     if v7 = (0 : Int32) then
      fX6_nextOff_4 g x1 k x2 (x3 + (1 : Int32))
     else
      if x2 = (-1 : Int32) then
       fX6_nextOff_4 g x1 k x3 (x3 + (1 : Int32))
      else
       Option.bind (α := Int32) (fX6_of g x1 x3 (0 : Int32)) (fun v10 =>
       Option.bind (α := Int32) (fX6_of g x1 x2 (0 : Int32)) (fun v11 =>
       if v11 ≤ v10 then
        fX6_nextOff_4 g x1 k x2 (x3 + (1 : Int32))
       else
        fX6_nextOff_4 g x1 k x3 (x3 + (1 : Int32)))))))
theorem fX6_nextOff_4_z (g : OS) (x1 : Int32) (x2 : Int32) (x3 : Int32) : fX6_nextOff_4 g x1 0 x2 x3 = none := rfl
theorem fX6_nextOff_4_s (g : OS) (x1 : Int32) (k : Nat) (x2 : Int32) (x3 : Int32) : fX6_nextOff_4 g x1 (k + 1) x2 x3 = (
    Option.bind (α := Int32) (fX6_lines g x1) (fun v1 =>
    if v1 ≤ x3 then
     some x2
    else
     Option.bind (α := Int32) (fX6_of g x1 x3 (0 : Int32)) (fun v3 =>
     Option.bind (α := Int32) (
      if v3 = (-1 : Int32) then
       some (0 : Int32)
      else
       Option.bind (α := Int32) (fX6_of g x1 x3 (2 : Int32)) (fun v5 =>
       if v5 = (-1 : Int32) then
        some (1 : Int32)
       else
        some (0 : Int32))) (fun v7 =>
     if v7 = (0 : Int32) then
      fX6_nextOff_4 g x1 k x2 (x3 + (1 : Int32))
     else
      if x2 = (-1 : Int32) then
       fX6_nextOff_4 g x1 k x3 (x3 + (1 : Int32))
      else
       Option.bind (α := Int32) (fX6_of g x1 x3 (0 : Int32)) (fun v10 =>
       Option.bind (α := Int32) (fX6_of g x1 x2 (0 : Int32)) (fun v11 =>
       if v11 ≤ v10 then
        fX6_nextOff_4 g x1 k x2 (x3 + (1 : Int32))
       else
        fX6_nextOff_4 g x1 k x3 (x3 + (1 : Int32)))))))) := rfl
def fX6_nextOff (g : OS) (x1 : Int32) : Option (Int32) :=
  fX6_nextOff_4 g x1 FU (-1 : Int32) (0 : Int32)
def fX6_connects (g : OS) (x1 : Int32) (x2 : Int32) (x3 : Int32) : Option (Int32 × OS) :=
  Option.bind (α := Int32) (fX6_isLine g x1 x2) (fun v1 =>
  if v1 = (0 : Int32) then
   some ((-1 : Int32), g)
  else
   Option.bind (α := Int32) (fX6_isLine g x1 x3) (fun v3 =>
   if v3 = (0 : Int32) then
    some ((-1 : Int32), g)
   else
    Option.bind (α := Int32) (fX6_of g x1 x2 (0 : Int32)) (fun v5 =>
    if v5 = (-1 : Int32) then
     Option.bind (α := Int32) (fX6_inletTo g x1 x3) (fun v7 =>
     if v7 = (-1 : Int32) then
      if inb (x1 + (5 : Int32)) 1078 = true then
      Option.bind (α := OS) (fX6_lay g x1 x2 (0 : Int32) ((g.2 0) (x1 + (5 : Int32)).toNatClampNeg)) (fun v10 =>
      Option.bind (α := OS) (fX6_lay v10 x1 x2 (1 : Int32) x3) (fun v11 =>
      Option.bind (α := OS) (fX6_lay v11 x1 x2 (2 : Int32) (-1 : Int32)) (fun v12 =>
      if inb (x1 + (5 : Int32)) 1078 = true then
      if inb (x1 + (5 : Int32)) 1078 = true then
      jn (α := Nat → Int32) (upd (v12.2 0) (x1 + (5 : Int32)).toNatClampNeg (((v12.2 0) (x1 + (5 : Int32)).toNatClampNeg) + (1 : Int32))) (fun w15 =>
      Option.bind (α := Int32 × OS) (fX6_routes (setR v12 0 w15) x1 x2) (fun v16 =>
      some (v16.1, v16.2)))
      else none
      else none)))
      else none
     else
      some ((-3 : Int32), g))
    else
     some ((-3 : Int32), g))))
def fX6_disconnects (g : OS) (x1 : Int32) (x2 : Int32) : Option (Int32 × OS) :=
  Option.bind (α := Int32) (fX6_isLine g x1 x2) (fun v1 =>
  if v1 = (0 : Int32) then
   some ((-1 : Int32), g)
  else
   Option.bind (α := Int32) (fX6_of g x1 x2 (0 : Int32)) (fun v3 =>
   if v3 = (-1 : Int32) then
    some ((-3 : Int32), g)
   else
    Option.bind (α := OS) (fX6_lay g x1 x2 (0 : Int32) (-1 : Int32)) (fun v5 =>
    if inb (x1 + (6 : Int32)) 1078 = true then
    if inb (x1 + (6 : Int32)) 1078 = true then
    jn (α := Nat → Int32) (upd (v5.2 0) (x1 + (6 : Int32)).toNatClampNeg (((v5.2 0) (x1 + (6 : Int32)).toNatClampNeg) + (1 : Int32))) (fun w8 =>
    some (v3, (setR v5 0 w8)))
    else none
    else none)))
def fX6_takesOut_100 (x1 : Int32) : Nat → Int32 → Int32 → OS → Option (Int32 × OS)
  | 0, _, _, _ => none
  | k + 1, x3, x4, g =>
    if x4 = (-1 : Int32) then
     if inb (x1 + (7 : Int32)) 1078 = true then
     if inb (x1 + (7 : Int32)) 1078 = true then
     jn (α := Nat → Int32) (upd (g.2 0) (x1 + (7 : Int32)).toNatClampNeg (((g.2 0) (x1 + (7 : Int32)).toNatClampNeg) + x3)) (fun w14 =>
     some (x3, (setR g 0 w14)))
     else none
     else none
    else
     Option.bind (α := Int32 × OS) (fX6_routes g x1 x4) (fun v15 =>
     Option.bind (α := Int32 × OS) (
      if v15.1 = (-4 : Int32) then
       Option.bind (α := OS) (fX6_lay v15.2 x1 x4 (0 : Int32) (-1 : Int32)) (fun v20 =>
       some ((x3 + (1 : Int32)), v20))
      else
       if inb (x1 + (8 : Int32)) 1078 = true then
       if inb (x1 + (8 : Int32)) 1078 = true then
       jn (α := Nat → Int32) (upd (v15.2.2 0) (x1 + (8 : Int32)).toNatClampNeg (((v15.2.2 0) (x1 + (8 : Int32)).toNatClampNeg) + (1 : Int32))) (fun w19 =>
       some (x3, (setR v15.2 0 w19)))
       else none
       else none) (fun v21 =>
     Option.bind (α := Int32) (fX6_nextOff v21.2 x1) (fun v22 =>
     fX6_takesOut_100 x1 k v21.1 v22 v21.2)))
theorem fX6_takesOut_100_z (x1 : Int32) (x3 : Int32) (x4 : Int32) (g : OS) : fX6_takesOut_100 x1 0 x3 x4 g = none := rfl
theorem fX6_takesOut_100_s (x1 : Int32) (k : Nat) (x3 : Int32) (x4 : Int32) (g : OS) : fX6_takesOut_100 x1 (k + 1) x3 x4 g = (
    if x4 = (-1 : Int32) then
     if inb (x1 + (7 : Int32)) 1078 = true then
     if inb (x1 + (7 : Int32)) 1078 = true then
     jn (α := Nat → Int32) (upd (g.2 0) (x1 + (7 : Int32)).toNatClampNeg (((g.2 0) (x1 + (7 : Int32)).toNatClampNeg) + x3)) (fun w14 =>
     some (x3, (setR g 0 w14)))
     else none
     else none
    else
     Option.bind (α := Int32 × OS) (fX6_routes g x1 x4) (fun v15 =>
     Option.bind (α := Int32 × OS) (
      if v15.1 = (-4 : Int32) then
       Option.bind (α := OS) (fX6_lay v15.2 x1 x4 (0 : Int32) (-1 : Int32)) (fun v20 =>
       some ((x3 + (1 : Int32)), v20))
      else
       if inb (x1 + (8 : Int32)) 1078 = true then
       if inb (x1 + (8 : Int32)) 1078 = true then
       jn (α := Nat → Int32) (upd (v15.2.2 0) (x1 + (8 : Int32)).toNatClampNeg (((v15.2.2 0) (x1 + (8 : Int32)).toNatClampNeg) + (1 : Int32))) (fun w19 =>
       some (x3, (setR v15.2 0 w19)))
       else none
       else none) (fun v21 =>
     Option.bind (α := Int32) (fX6_nextOff v21.2 x1) (fun v22 =>
     fX6_takesOut_100 x1 k v21.1 v22 v21.2)))) := rfl
def fX6_takesOut_47 (x1 : Int32) (x2 : Int32) : Nat → Int32 → OS → Option (Int32 × OS)
  | 0, _, _ => none
  | k + 1, x3, g =>
    Option.bind (α := Int32) (fX6_lines g x1) (fun v8 =>
    if v8 ≤ x3 then
     Option.bind (α := Int32) (fX6_nextOff g x1) (fun v10 =>
     fX6_takesOut_100 x1 FU (0 : Int32) v10 g)
    else
     Option.bind (α := Int32) (fX6_of g x1 x3 (2 : Int32)) (fun v23 =>
     Option.bind (α := Int32) (
      if v23 = x2 then
       some (-1 : Int32)
      else
       Option.bind (α := Int32) (fX6_of g x1 x3 (2 : Int32)) (fun v25 =>
       some v25)) (fun v26 =>
     Option.bind (α := OS) (fX6_lay g x1 x3 (2 : Int32) v26) (fun v27 =>
     fX6_takesOut_47 x1 x2 k (x3 + (1 : Int32)) v27))))
theorem fX6_takesOut_47_z (x1 : Int32) (x2 : Int32) (x3 : Int32) (g : OS) : fX6_takesOut_47 x1 x2 0 x3 g = none := rfl
theorem fX6_takesOut_47_s (x1 : Int32) (x2 : Int32) (k : Nat) (x3 : Int32) (g : OS) : fX6_takesOut_47 x1 x2 (k + 1) x3 g = (
    Option.bind (α := Int32) (fX6_lines g x1) (fun v8 =>
    if v8 ≤ x3 then
     Option.bind (α := Int32) (fX6_nextOff g x1) (fun v10 =>
     fX6_takesOut_100 x1 FU (0 : Int32) v10 g)
    else
     Option.bind (α := Int32) (fX6_of g x1 x3 (2 : Int32)) (fun v23 =>
     Option.bind (α := Int32) (
      if v23 = x2 then
       some (-1 : Int32)
      else
       Option.bind (α := Int32) (fX6_of g x1 x3 (2 : Int32)) (fun v25 =>
       some v25)) (fun v26 =>
     Option.bind (α := OS) (fX6_lay g x1 x3 (2 : Int32) v26) (fun v27 =>
     fX6_takesOut_47 x1 x2 k (x3 + (1 : Int32)) v27))))) := rfl
def fX6_takesOut (g : OS) (x1 : Int32) (x2 : Int32) : Option (Int32 × OS) :=
  Option.bind (α := Int32) (fX6_isMiddle g x1 x2) (fun v1 =>
  if v1 = (0 : Int32) then
   some ((-1 : Int32), g)
  else
   if inb (x1 + (9 : Int32)) 1078 = true then
   if (fX6_has ((g.2 0) (x1 + (9 : Int32)).toNatClampNeg) x2) = (0 : Int32) then
    some ((-6 : Int32), g)
   else
    if inb (x1 + (9 : Int32)) 1078 = true then
    if inb (x1 + (9 : Int32)) 1078 = true then
    jn (α := Nat → Int32) (upd (g.2 0) (x1 + (9 : Int32)).toNatClampNeg (((g.2 0) (x1 + (9 : Int32)).toNatClampNeg) - ((1 : Int32) <<< (x2 &&& 31)))) (fun w7 =>
    fX6_takesOut_47 x1 x2 FU (0 : Int32) (setR g 0 w7))
    else none
    else none
   else none)
def fX6_putsBack (g : OS) (x1 : Int32) (x2 : Int32) : Option (Int32 × OS) :=
  Option.bind (α := Int32) (fX6_isMiddle g x1 x2) (fun v1 =>
  if v1 = (0 : Int32) then
   some ((-1 : Int32), g)
  else
   if inb (x1 + (9 : Int32)) 1078 = true then
   if (fX6_has ((g.2 0) (x1 + (9 : Int32)).toNatClampNeg) x2) = (0 : Int32) then
    if inb (x1 + (9 : Int32)) 1078 = true then
    if inb (x1 + (9 : Int32)) 1078 = true then
    jn (α := Nat → Int32) (upd (g.2 0) (x1 + (9 : Int32)).toNatClampNeg (((g.2 0) (x1 + (9 : Int32)).toNatClampNeg) + ((1 : Int32) <<< (x2 &&& 31)))) (fun w7 =>
    if inb (x1 + (9 : Int32)) 1078 = true then
    Option.bind (α := Int32) (fX6_bits (w7 (x1 + (9 : Int32)).toNatClampNeg)) (fun v9 =>
    some (v9, (setR g 0 w7)))
    else none)
    else none
    else none
   else
    some ((-6 : Int32), g)
   else none)
def fX6_least_25 (g : OS) (x1 : Int32) (x2 : Int32) (x3 : Int32) : Nat → Int32 → Int32 → Int32 → Option (Int32 × Int32)
  | 0, _, _, _ => none
  | k + 1, x4, x5, x6 =>
    Option.bind (α := Int32) (fX6_lines g x1) (fun v3 =>
    if v3 ≤ x6 then
     some (x4, x5)
    else
     Option.bind (α := Int32) (fX6_of g x1 x6 (0 : Int32)) (fun v5 =>
     jn (α := Int32) (
      if v5 = (-1 : Int32) then
       (0 : Int32)
      else
       (1 : Int32)) (fun v7 =>
     Option.bind (α := Int32) (
      if v7 = (0 : Int32) then
       some (0 : Int32)
      else
       if inb (x1 + (1 : Int32)) 1078 = true then
       if ¬ ((g.2 0) (x1 + (1 : Int32)).toNatClampNeg) = (0 : Int32) then
       if (x6 / ((g.2 0) (x1 + (1 : Int32)).toNatClampNeg)) = x3 then
        some (1 : Int32)
       else
        some (0 : Int32)
       else none
       else none) (fun v12 =>
     if v7 = (0 : Int32) then
      fX6_least_25 g x1 x2 x3 k (x4 + v12) (x5 + (0 : Int32)) (x6 + (1 : Int32))
     else
      Option.bind (α := Int32) (fX6_of g x1 x6 (1 : Int32)) (fun v14 =>
      if inb (x1 + (1 : Int32)) 1078 = true then
      if ¬ ((g.2 0) (x1 + (1 : Int32)).toNatClampNeg) = (0 : Int32) then
      if (v14 / ((g.2 0) (x1 + (1 : Int32)).toNatClampNeg)) = x3 then
       fX6_least_25 g x1 x2 x3 k (x4 + v12) (x5 + (1 : Int32)) (x6 + (1 : Int32))
      else
       fX6_least_25 g x1 x2 x3 k (x4 + v12) (x5 + (0 : Int32)) (x6 + (1 : Int32))
      else none
      else none)))))
theorem fX6_least_25_z (g : OS) (x1 : Int32) (x2 : Int32) (x3 : Int32) (x4 : Int32) (x5 : Int32) (x6 : Int32) : fX6_least_25 g x1 x2 x3 0 x4 x5 x6 = none := rfl
theorem fX6_least_25_s (g : OS) (x1 : Int32) (x2 : Int32) (x3 : Int32) (k : Nat) (x4 : Int32) (x5 : Int32) (x6 : Int32) : fX6_least_25 g x1 x2 x3 (k + 1) x4 x5 x6 = (
    Option.bind (α := Int32) (fX6_lines g x1) (fun v3 =>
    if v3 ≤ x6 then
     some (x4, x5)
    else
     Option.bind (α := Int32) (fX6_of g x1 x6 (0 : Int32)) (fun v5 =>
     jn (α := Int32) (
      if v5 = (-1 : Int32) then
       (0 : Int32)
      else
       (1 : Int32)) (fun v7 =>
     Option.bind (α := Int32) (
      if v7 = (0 : Int32) then
       some (0 : Int32)
      else
       if inb (x1 + (1 : Int32)) 1078 = true then
       if ¬ ((g.2 0) (x1 + (1 : Int32)).toNatClampNeg) = (0 : Int32) then
       if (x6 / ((g.2 0) (x1 + (1 : Int32)).toNatClampNeg)) = x3 then
        some (1 : Int32)
       else
        some (0 : Int32)
       else none
       else none) (fun v12 =>
     if v7 = (0 : Int32) then
      fX6_least_25 g x1 x2 x3 k (x4 + v12) (x5 + (0 : Int32)) (x6 + (1 : Int32))
     else
      Option.bind (α := Int32) (fX6_of g x1 x6 (1 : Int32)) (fun v14 =>
      if inb (x1 + (1 : Int32)) 1078 = true then
      if ¬ ((g.2 0) (x1 + (1 : Int32)).toNatClampNeg) = (0 : Int32) then
      if (v14 / ((g.2 0) (x1 + (1 : Int32)).toNatClampNeg)) = x3 then
       fX6_least_25 g x1 x2 x3 k (x4 + v12) (x5 + (1 : Int32)) (x6 + (1 : Int32))
      else
       fX6_least_25 g x1 x2 x3 k (x4 + v12) (x5 + (0 : Int32)) (x6 + (1 : Int32))
      else none
      else none)))))) := rfl
def fX6_least_4 (g : OS) (x1 : Int32) : Nat → Int32 → Int32 → Option (Int32)
  | 0, _, _ => none
  | k + 1, x2, x3 =>
    if inb (x1 + (0 : Int32)) 1078 = true then
    if ((g.2 0) (x1 + (0 : Int32)).toNatClampNeg) ≤ x3 then
     some x2
    else
     Option.bind (α := Int32 × Int32) (fX6_least_25 g x1 x2 x3 FU (0 : Int32) (0 : Int32) (0 : Int32)) (fun v18 =>
     jn (α := Int32) (
      if v18.1 ≤ x2 then
       x2
      else
       v18.1) (fun v20 =>
     if v18.2 ≤ v20 then
      fX6_least_4 g x1 k v20 (x3 + (1 : Int32))
     else
      fX6_least_4 g x1 k v18.2 (x3 + (1 : Int32))))
    else none
theorem fX6_least_4_z (g : OS) (x1 : Int32) (x2 : Int32) (x3 : Int32) : fX6_least_4 g x1 0 x2 x3 = none := rfl
theorem fX6_least_4_s (g : OS) (x1 : Int32) (k : Nat) (x2 : Int32) (x3 : Int32) : fX6_least_4 g x1 (k + 1) x2 x3 = (
    if inb (x1 + (0 : Int32)) 1078 = true then
    if ((g.2 0) (x1 + (0 : Int32)).toNatClampNeg) ≤ x3 then
     some x2
    else
     Option.bind (α := Int32 × Int32) (fX6_least_25 g x1 x2 x3 FU (0 : Int32) (0 : Int32) (0 : Int32)) (fun v18 =>
     jn (α := Int32) (
      if v18.1 ≤ x2 then
       x2
      else
       v18.1) (fun v20 =>
     if v18.2 ≤ v20 then
      fX6_least_4 g x1 k v20 (x3 + (1 : Int32))
     else
      fX6_least_4 g x1 k v18.2 (x3 + (1 : Int32))))
    else none) := rfl
def fX6_least (g : OS) (x1 : Int32) : Option (Int32) :=
  fX6_least_4 g x1 FU (0 : Int32) (0 : Int32)
def fX6_packs_194 (g : OS) (x1 : Int32) (x2 : Int32) (x3 : Int32) : Nat → Int32 → Int32 → Option (Int32 × OS)
  | 0, _, _ => none
  | k + 1, x6, x7 =>
    Option.bind (α := Int32) (fX6_lines g x1) (fun v13 =>
    if v13 ≤ x7 then
     if inb (x1 + (9 : Int32)) 1078 = true then
     jn (α := Nat → Int32) (upd (g.2 0) (x1 + (9 : Int32)).toNatClampNeg x2) (fun w16 =>
     if inb (x1 + (8 : Int32)) 1078 = true then
     jn (α := Nat → Int32) (upd w16 (x1 + (8 : Int32)).toNatClampNeg (x3 + x6)) (fun w18 =>
     some (x6, (setR g 0 w18)))
     else none)
     else none
    else
     Option.bind (α := Int32) (fX6_of g x1 x7 (0 : Int32)) (fun v19 =>
     if v19 = (-1 : Int32) then
      fX6_packs_194 g x1 x2 x3 k (x6 + (0 : Int32)) (x7 + (1 : Int32))
     else
      Option.bind (α := Int32) (fX6_of g x1 x7 (2 : Int32)) (fun v21 =>
      if inb x7 48 = true then
      if v21 = ((g.2 3) x7.toNatClampNeg) then
       fX6_packs_194 g x1 x2 x3 k (x6 + (0 : Int32)) (x7 + (1 : Int32))
      else
       fX6_packs_194 g x1 x2 x3 k (x6 + (1 : Int32)) (x7 + (1 : Int32))
      else none)))
theorem fX6_packs_194_z (g : OS) (x1 : Int32) (x2 : Int32) (x3 : Int32) (x6 : Int32) (x7 : Int32) : fX6_packs_194 g x1 x2 x3 0 x6 x7 = none := rfl
theorem fX6_packs_194_s (g : OS) (x1 : Int32) (x2 : Int32) (x3 : Int32) (k : Nat) (x6 : Int32) (x7 : Int32) : fX6_packs_194 g x1 x2 x3 (k + 1) x6 x7 = (
    Option.bind (α := Int32) (fX6_lines g x1) (fun v13 =>
    if v13 ≤ x7 then
     if inb (x1 + (9 : Int32)) 1078 = true then
     jn (α := Nat → Int32) (upd (g.2 0) (x1 + (9 : Int32)).toNatClampNeg x2) (fun w16 =>
     if inb (x1 + (8 : Int32)) 1078 = true then
     jn (α := Nat → Int32) (upd w16 (x1 + (8 : Int32)).toNatClampNeg (x3 + x6)) (fun w18 =>
     some (x6, (setR g 0 w18)))
     else none)
     else none
    else
     Option.bind (α := Int32) (fX6_of g x1 x7 (0 : Int32)) (fun v19 =>
     if v19 = (-1 : Int32) then
      fX6_packs_194 g x1 x2 x3 k (x6 + (0 : Int32)) (x7 + (1 : Int32))
     else
      Option.bind (α := Int32) (fX6_of g x1 x7 (2 : Int32)) (fun v21 =>
      if inb x7 48 = true then
      if v21 = ((g.2 3) x7.toNatClampNeg) then
       fX6_packs_194 g x1 x2 x3 k (x6 + (0 : Int32)) (x7 + (1 : Int32))
      else
       fX6_packs_194 g x1 x2 x3 k (x6 + (1 : Int32)) (x7 + (1 : Int32))
      else none)))) := rfl
def fX6_packs_188 (g : OS) (x1 : Int32) (x2 : Int32) (x3 : Int32) : Option (Int32 × OS) :=
  fX6_packs_194 g x1 x2 x3 FU (0 : Int32) (0 : Int32)
def fX6_packs_160 (x1 : Int32) (x2 : Int32) (x3 : Int32) : Nat → Int32 → OS → Option (Int32 × OS)
  | 0, _, _ => none
  | k + 1, x5, g =>
    if x5 = (-1 : Int32) then
     fX6_packs_188 g x1 x2 x3
    else
     Option.bind (α := Int32 × OS) (fX6_routes g x1 x5) (fun v24 =>
     if v24.1 = (-4 : Int32) then
      fX6_packs_188 v24.2 x1 x2 x3
     else
      Option.bind (α := Int32) (fX6_nextOff v24.2 x1) (fun v26 =>
      fX6_packs_160 x1 x2 x3 k v26 v24.2))
theorem fX6_packs_160_z (x1 : Int32) (x2 : Int32) (x3 : Int32) (x5 : Int32) (g : OS) : fX6_packs_160 x1 x2 x3 0 x5 g = none := rfl
theorem fX6_packs_160_s (x1 : Int32) (x2 : Int32) (x3 : Int32) (k : Nat) (x5 : Int32) (g : OS) : fX6_packs_160 x1 x2 x3 (k + 1) x5 g = (
    if x5 = (-1 : Int32) then
     fX6_packs_188 g x1 x2 x3
    else
     Option.bind (α := Int32 × OS) (fX6_routes g x1 x5) (fun v24 =>
     if v24.1 = (-4 : Int32) then
      fX6_packs_188 v24.2 x1 x2 x3
     else
      Option.bind (α := Int32) (fX6_nextOff v24.2 x1) (fun v26 =>
      fX6_packs_160 x1 x2 x3 k v26 v24.2))) := rfl
def fX6_packs_113 (x1 : Int32) (x2 : Int32) (x3 : Int32) : Nat → Int32 → OS → Option (Int32 × OS)
  | 0, _, _ => none
  | k + 1, x5, g =>
    Option.bind (α := Int32) (fX6_lines g x1) (fun v9 =>
    if v9 ≤ x5 then
     Option.bind (α := Int32) (fX6_nextOff g x1) (fun v11 =>
     fX6_packs_160 x1 x2 x3 FU v11 g)
    else
     Option.bind (α := Int32) (fX6_of g x1 x5 (2 : Int32)) (fun v27 =>
     if inb x5 48 = true then
     jn (α := Nat → Int32) (upd (g.2 3) x5.toNatClampNeg v27) (fun w29 =>
     Option.bind (α := OS) (fX6_lay (setR g 3 w29) x1 x5 (2 : Int32) (-1 : Int32)) (fun v30 =>
     fX6_packs_113 x1 x2 x3 k (x5 + (1 : Int32)) v30))
     else none))
theorem fX6_packs_113_z (x1 : Int32) (x2 : Int32) (x3 : Int32) (x5 : Int32) (g : OS) : fX6_packs_113 x1 x2 x3 0 x5 g = none := rfl
theorem fX6_packs_113_s (x1 : Int32) (x2 : Int32) (x3 : Int32) (k : Nat) (x5 : Int32) (g : OS) : fX6_packs_113 x1 x2 x3 (k + 1) x5 g = (
    Option.bind (α := Int32) (fX6_lines g x1) (fun v9 =>
    if v9 ≤ x5 then
     Option.bind (α := Int32) (fX6_nextOff g x1) (fun v11 =>
     fX6_packs_160 x1 x2 x3 FU v11 g)
    else
     Option.bind (α := Int32) (fX6_of g x1 x5 (2 : Int32)) (fun v27 =>
     if inb x5 48 = true then
     jn (α := Nat → Int32) (upd (g.2 3) x5.toNatClampNeg v27) (fun w29 =>
     Option.bind (α := OS) (fX6_lay (setR g 3 w29) x1 x5 (2 : Int32) (-1 : Int32)) (fun v30 =>
     fX6_packs_113 x1 x2 x3 k (x5 + (1 : Int32)) v30))
     else none))) := rfl
def fX6_packs_51 (x1 : Int32) (x2 : Int32) (x3 : Int32) (x4 : Int32) : Nat → Int32 → OS → Option (Int32 × OS)
  | 0, _, _ => none
  | k + 1, x5, g =>
    if (8 : Int32) ≤ x5 then
     fX6_packs_113 x1 x2 x3 FU (0 : Int32) g
    else
     if inb (x1 + (9 : Int32)) 1078 = true then
     Option.bind (α := Int32) (
      if (fX6_has x2 x5) = (0 : Int32) then
       some (0 : Int32)
      else
       if inb (x1 + (9 : Int32)) 1078 = true then
       Option.bind (α := Int32) (fX6_bits ((g.2 0) (x1 + (9 : Int32)).toNatClampNeg)) (fun v34 =>
       if x4 ≤ v34 then
        some (0 : Int32)
       else
        some ((1 : Int32) <<< (x5 &&& 31)))
       else none) (fun v36 =>
     if inb (x1 + (9 : Int32)) 1078 = true then
     jn (α := Nat → Int32) (upd (g.2 0) (x1 + (9 : Int32)).toNatClampNeg (((g.2 0) (x1 + (9 : Int32)).toNatClampNeg) ||| v36)) (fun w38 =>
     fX6_packs_51 x1 x2 x3 x4 k (x5 + (1 : Int32)) (setR g 0 w38))
     else none)
     else none
theorem fX6_packs_51_z (x1 : Int32) (x2 : Int32) (x3 : Int32) (x4 : Int32) (x5 : Int32) (g : OS) : fX6_packs_51 x1 x2 x3 x4 0 x5 g = none := rfl
theorem fX6_packs_51_s (x1 : Int32) (x2 : Int32) (x3 : Int32) (x4 : Int32) (k : Nat) (x5 : Int32) (g : OS) : fX6_packs_51 x1 x2 x3 x4 (k + 1) x5 g = (
    if (8 : Int32) ≤ x5 then
     fX6_packs_113 x1 x2 x3 FU (0 : Int32) g
    else
     if inb (x1 + (9 : Int32)) 1078 = true then
     Option.bind (α := Int32) (
      if (fX6_has x2 x5) = (0 : Int32) then
       some (0 : Int32)
      else
       if inb (x1 + (9 : Int32)) 1078 = true then
       Option.bind (α := Int32) (fX6_bits ((g.2 0) (x1 + (9 : Int32)).toNatClampNeg)) (fun v34 =>
       if x4 ≤ v34 then
        some (0 : Int32)
       else
        some ((1 : Int32) <<< (x5 &&& 31)))
       else none) (fun v36 =>
     if inb (x1 + (9 : Int32)) 1078 = true then
     jn (α := Nat → Int32) (upd (g.2 0) (x1 + (9 : Int32)).toNatClampNeg (((g.2 0) (x1 + (9 : Int32)).toNatClampNeg) ||| v36)) (fun w38 =>
     fX6_packs_51 x1 x2 x3 x4 k (x5 + (1 : Int32)) (setR g 0 w38))
     else none)
     else none) := rfl
def fX6_packs (g : OS) (x1 : Int32) : Option (Int32 × OS) :=
  Option.bind (α := Int32) (fX6_calls g x1) (fun v1 =>
  if v1 = (0 : Int32) then
   some ((-6 : Int32), g)
  else
   if inb (x1 + (9 : Int32)) 1078 = true then
   if inb (x1 + (8 : Int32)) 1078 = true then
   Option.bind (α := Int32) (fX6_least g x1) (fun v5 =>
   if inb (x1 + (9 : Int32)) 1078 = true then
   jn (α := Nat → Int32) (upd (g.2 0) (x1 + (9 : Int32)).toNatClampNeg (0 : Int32)) (fun w7 =>
   fX6_packs_51 x1 ((g.2 0) (x1 + (9 : Int32)).toNatClampNeg) ((g.2 0) (x1 + (8 : Int32)).toNatClampNeg) v5 FU (0 : Int32) (setR g 0 w7))
   else none)
   else none
   else none)
def fX6_copies_2 (x1 : Int32) (x2 : Int32) : Nat → Int32 → OS → Option (OS)
  | 0, _, _ => none
  | k + 1, x3, g =>
    if (154 : Int32) ≤ x3 then
     some g
    else
     if inb (((154 : Int32) * x1) + x3) 1078 = true then
     if inb (((154 : Int32) * x2) + x3) 1078 = true then
     jn (α := Nat → Int32) (upd (g.2 0) (((154 : Int32) * x2) + x3).toNatClampNeg ((g.2 0) (((154 : Int32) * x1) + x3).toNatClampNeg)) (fun w4 =>
     fX6_copies_2 x1 x2 k (x3 + (1 : Int32)) (setR g 0 w4))
     else none
     else none
theorem fX6_copies_2_z (x1 : Int32) (x2 : Int32) (x3 : Int32) (g : OS) : fX6_copies_2 x1 x2 0 x3 g = none := rfl
theorem fX6_copies_2_s (x1 : Int32) (x2 : Int32) (k : Nat) (x3 : Int32) (g : OS) : fX6_copies_2 x1 x2 (k + 1) x3 g = (
    if (154 : Int32) ≤ x3 then
     some g
    else
     if inb (((154 : Int32) * x1) + x3) 1078 = true then
     if inb (((154 : Int32) * x2) + x3) 1078 = true then
     jn (α := Nat → Int32) (upd (g.2 0) (((154 : Int32) * x2) + x3).toNatClampNeg ((g.2 0) (((154 : Int32) * x1) + x3).toNatClampNeg)) (fun w4 =>
     fX6_copies_2 x1 x2 k (x3 + (1 : Int32)) (setR g 0 w4))
     else none
     else none) := rfl
def fX6_copies (g : OS) (x1 : Int32) (x2 : Int32) : Option (OS) :=
  fX6_copies_2 x1 x2 FU (0 : Int32) g
def fX6_accepts_35 (g : OS) (x1 : Int32) : Option (Int32 × OS) :=
  jn (α := Int32) (
   if (4 : Int32) ≤ (g.1 1) then
    (0 : Int32)
   else
    (1 : Int32)) (fun v4 =>
  jn (α := Int32) (((g.1 1) + v4)) (fun w5 =>
  Option.bind (α := OS) (fX6_copies (setF g 1 w5) (0 : Int32) w5) (fun v6 =>
  Option.bind (α := OS) (fX6_copies v6 (6 : Int32) (0 : Int32)) (fun v7 =>
  some (x1, v7)))))
def fX6_accepts_8 (x1 : Int32) : Nat → Int32 → OS → Option (Int32 × OS)
  | 0, _, _ => none
  | k + 1, x2, g =>
    if (4 : Int32) ≤ x2 then
     fX6_accepts_35 g x1
    else
     if (g.1 1) = (4 : Int32) then
      Option.bind (α := OS) (fX6_copies g (x2 + (1 : Int32)) x2) (fun v9 =>
      fX6_accepts_8 x1 k (x2 + (1 : Int32)) v9)
     else
      fX6_accepts_35 g x1
theorem fX6_accepts_8_z (x1 : Int32) (x2 : Int32) (g : OS) : fX6_accepts_8 x1 0 x2 g = none := rfl
theorem fX6_accepts_8_s (x1 : Int32) (k : Nat) (x2 : Int32) (g : OS) : fX6_accepts_8 x1 (k + 1) x2 g = (
    if (4 : Int32) ≤ x2 then
     fX6_accepts_35 g x1
    else
     if (g.1 1) = (4 : Int32) then
      Option.bind (α := OS) (fX6_copies g (x2 + (1 : Int32)) x2) (fun v9 =>
      fX6_accepts_8 x1 k (x2 + (1 : Int32)) v9)
     else
      fX6_accepts_35 g x1) := rfl
def fX6_accepts (g : OS) (x1 : Int32) : Option (Int32 × OS) :=
  if (0 : Int32) ≤ x1 then
   fX6_accepts_8 x1 FU (1 : Int32) g
  else
   some (x1, g)
def fX6_setUp (g : OS) (x1 : Int32) (x2 : Int32) (x3 : Int32) : Option (Int32 × OS) :=
  if (fX6_in x1 (2 : Int32) (8 : Int32)) = (0 : Int32) then
   some ((-2 : Int32), g)
  else
   if (fX6_in x2 (1 : Int32) (6 : Int32)) = (0 : Int32) then
    some ((-2 : Int32), g)
   else
    if (fX6_in x3 (1 : Int32) (8 : Int32)) = (0 : Int32) then
     some ((-2 : Int32), g)
    else
     Option.bind (α := OS) (fX6_copies g (0 : Int32) (6 : Int32)) (fun v4 =>
     Option.bind (α := Int32) (fX6_calls v4 (0 : Int32)) (fun v5 =>
     if inb (930 : Int32) 1078 = true then
     if inb (930 : Int32) 1078 = true then
     jn (α := Nat → Int32) (upd (v4.2 0) (930 : Int32).toNatClampNeg (((v4.2 0) (930 : Int32).toNatClampNeg) + v5)) (fun w8 =>
     Option.bind (α := OS) (fX6_builds (setR v4 0 w8) (924 : Int32) x1 x2 x3) (fun v9 =>
     Option.bind (α := Int32 × OS) (fX6_accepts v9 v5) (fun v10 =>
     some (v10.1, v10.2))))
     else none
     else none))
def fX6_rules (g : OS) (x1 : Int32) (x2 : Int32) (x3 : Int32) : Option (Int32 × OS) :=
  if (fX6_in x2 (0 : Int32) x3) = (0 : Int32) then
   some ((-2 : Int32), g)
  else
   if inb x1 1078 = true then
   if ((g.2 0) x1.toNatClampNeg) = x2 then
    some ((-6 : Int32), g)
   else
    Option.bind (α := OS) (fX6_copies g (0 : Int32) (6 : Int32)) (fun v4 =>
    if inb ((924 : Int32) + x1) 1078 = true then
    jn (α := Nat → Int32) (upd (v4.2 0) ((924 : Int32) + x1).toNatClampNeg x2) (fun w6 =>
    Option.bind (α := Int32 × OS) (fX6_accepts (setR v4 0 w6) ((g.2 0) x1.toNatClampNeg)) (fun v7 =>
    some (v7.1, v7.2)))
    else none)
   else none
def fX6_setChoiceRule (g : OS) (x1 : Int32) : Option (Int32 × OS) :=
  Option.bind (α := Int32 × OS) (fX6_rules g (3 : Int32) x1 (2 : Int32)) (fun v1 =>
  some (v1.1, v1.2))
def fX6_setPairRule (g : OS) (x1 : Int32) : Option (Int32 × OS) :=
  Option.bind (α := Int32 × OS) (fX6_rules g (4 : Int32) x1 (1 : Int32)) (fun v1 =>
  some (v1.1, v1.2))
def fX6_connect (g : OS) (x1 : Int32) (x2 : Int32) : Option (Int32 × OS) :=
  Option.bind (α := OS) (fX6_copies g (0 : Int32) (6 : Int32)) (fun v1 =>
  Option.bind (α := Int32 × OS) (fX6_connects v1 (924 : Int32) x1 x2) (fun v2 =>
  Option.bind (α := Int32 × OS) (fX6_accepts v2.2 v2.1) (fun v3 =>
  some (v3.1, v3.2))))
def fX6_disconnect (g : OS) (x1 : Int32) : Option (Int32 × OS) :=
  Option.bind (α := OS) (fX6_copies g (0 : Int32) (6 : Int32)) (fun v1 =>
  Option.bind (α := Int32 × OS) (fX6_disconnects v1 (924 : Int32) x1) (fun v2 =>
  Option.bind (α := Int32 × OS) (fX6_accepts v2.2 v2.1) (fun v3 =>
  some (v3.1, v3.2))))
def fX6_takeOut (g : OS) (x1 : Int32) : Option (Int32 × OS) :=
  Option.bind (α := OS) (fX6_copies g (0 : Int32) (6 : Int32)) (fun v1 =>
  Option.bind (α := Int32 × OS) (fX6_takesOut v1 (924 : Int32) x1) (fun v2 =>
  Option.bind (α := Int32 × OS) (fX6_accepts v2.2 v2.1) (fun v3 =>
  some (v3.1, v3.2))))
def fX6_putBack (g : OS) (x1 : Int32) : Option (Int32 × OS) :=
  Option.bind (α := OS) (fX6_copies g (0 : Int32) (6 : Int32)) (fun v1 =>
  Option.bind (α := Int32 × OS) (fX6_putsBack v1 (924 : Int32) x1) (fun v2 =>
  Option.bind (α := Int32 × OS) (fX6_accepts v2.2 v2.1) (fun v3 =>
  some (v3.1, v3.2))))
def fX6_pack (g : OS) : Option (Int32 × OS) :=
  Option.bind (α := OS) (fX6_copies g (0 : Int32) (6 : Int32)) (fun v1 =>
  Option.bind (α := Int32 × OS) (fX6_packs v1 (924 : Int32)) (fun v2 =>
  Option.bind (α := Int32 × OS) (fX6_accepts v2.2 v2.1) (fun v3 =>
  some (v3.1, v3.2))))
def fX6_type (g : OS) (x1 : Int32) : Option (Int32 × OS) :=
  if (g.1 4) = (60 : Int32) then
   some ((-5 : Int32), g)
  else
   if inb (g.1 4) 60 = true then
   jn (α := Nat → Int32) (upd (g.2 1) (g.1 4).toNatClampNeg x1) (fun w3 =>
   jn (α := Int32) (((g.1 4) + (1 : Int32))) (fun w4 =>
   some (w4, (setF (setR g 1 w3) 4 w4))))
   else none
def fX6_clearText (g : OS) : Int32 × OS :=
  ((g.1 4), (setF g 4 (0 : Int32)))
def fX6_isHere (g : OS) (x1 : Int32) (x2 : Int32) : Option (Int32) :=
  if (g.1 4) ≤ (g.1 5) then
   some (0 : Int32)
  else
   if inb (g.1 5) 60 = true then
   if (fX6_in ((g.2 1) (g.1 5).toNatClampNeg) x1 x2) = (0 : Int32) then
    some (0 : Int32)
   else
    some (1 : Int32)
   else none
def fX6_takes (g : OS) (x1 : Int32) : Option (Int32 × OS) :=
  Option.bind (α := Int32) (fX6_isHere g x1 x1) (fun v1 =>
  if v1 = (0 : Int32) then
   jn (α := Int32) (((g.1 5) + (0 : Int32))) (fun w3 =>
   some (v1, (setF g 5 w3)))
  else
   jn (α := Int32) (((g.1 5) + (1 : Int32))) (fun w4 =>
   some (v1, (setF g 5 w4))))
def fX6_number (g : OS) : Option (Int32 × OS) :=
  Option.bind (α := Int32) (fX6_isHere g (48 : Int32) (57 : Int32)) (fun v1 =>
  if v1 = (0 : Int32) then
   some ((-1 : Int32), g)
  else
   if inb (g.1 5) 60 = true then
   jn (α := Int32) (((g.1 5) + (1 : Int32))) (fun w4 =>
   if (((g.2 1) (g.1 5).toNatClampNeg) - (48 : Int32)) ≤ (0 : Int32) then
    some ((((g.2 1) (g.1 5).toNatClampNeg) - (48 : Int32)), (setF g 5 w4))
   else
    Option.bind (α := Int32) (fX6_isHere (setF g 5 w4) (48 : Int32) (57 : Int32)) (fun v6 =>
    if v6 = (0 : Int32) then
     some ((((g.2 1) (g.1 5).toNatClampNeg) - (48 : Int32)), (setF g 5 w4))
    else
     if inb w4 60 = true then
     if (47 : Int32) < ((((10 : Int32) * (((g.2 1) (g.1 5).toNatClampNeg) - (48 : Int32))) + ((g.2 1) w4.toNatClampNeg)) - (48 : Int32)) then
      some ((((g.2 1) (g.1 5).toNatClampNeg) - (48 : Int32)), (setF g 5 w4))
     else
      if inb w4 60 = true then
      jn (α := Int32) ((w4 + (1 : Int32))) (fun w11 =>
      some (((((10 : Int32) * (((g.2 1) (g.1 5).toNatClampNeg) - (48 : Int32))) + ((g.2 1) w4.toNatClampNeg)) - (48 : Int32)), (setF g 5 w11)))
      else none
     else none))
   else none)
def fX6_digit (g : OS) : Option (Int32 × OS) :=
  Option.bind (α := Int32) (fX6_isHere g (48 : Int32) (55 : Int32)) (fun v1 =>
  if v1 = (0 : Int32) then
   some ((-1 : Int32), g)
  else
   jn (α := Int32) (((g.1 5) + (1 : Int32))) (fun w3 =>
   if inb (w3 - (1 : Int32)) 60 = true then
   some ((((g.2 1) (w3 - (1 : Int32)).toNatClampNeg) - (48 : Int32)), (setF g 5 w3))
   else none))
def fX6_reads (g : OS) : Option (Int32 × OS) :=
  Option.bind (α := Int32 × OS) (fX6_takes g (99 : Int32)) (fun v1 =>
  if v1.1 = (0 : Int32) then
   Option.bind (α := Int32 × OS) (fX6_takes v1.2 (100 : Int32)) (fun v3 =>
   if v3.1 = (0 : Int32) then
    Option.bind (α := Int32 × OS) (fX6_takes v3.2 (111 : Int32)) (fun v5 =>
    Option.bind (α := Int32 × OS) (
     if v5.1 = (0 : Int32) then
      Option.bind (α := Int32 × OS) (fX6_takes v5.2 (105 : Int32)) (fun v7 =>
      if v7.1 = (0 : Int32) then
       Option.bind (α := Int32 × OS) (fX6_takes v7.2 (112 : Int32)) (fun v9 =>
       if v9.1 = (0 : Int32) then
        some ((-1 : Int32), v9.2)
       else
        some ((4 : Int32), v9.2))
      else
       some ((3 : Int32), v7.2))
     else
      some ((2 : Int32), v5.2)) (fun v11 =>
    Option.bind (α := Int32 × OS) (
     if v11.1 = (2 : Int32) then
      Option.bind (α := Int32 × OS) (fX6_digit (setF v11.2 6 v11.1)) (fun v13 =>
      some (v13.1, v13.2))
     else
      if v11.1 = (3 : Int32) then
       Option.bind (α := Int32 × OS) (fX6_digit (setF v11.2 6 v11.1)) (fun v15 =>
       some (v15.1, v15.2))
      else
       some ((0 : Int32), (setF v11.2 6 v11.1))) (fun v16 =>
    if (v16.2.1 6) = (-1 : Int32) then
     some ((0 : Int32), (setF v16.2 7 v16.1))
    else
     if v16.1 = (-1 : Int32) then
      some ((0 : Int32), (setF v16.2 7 v16.1))
     else
      some ((1 : Int32), (setF v16.2 7 v16.1)))))
   else
    Option.bind (α := Int32 × OS) (fX6_number (setF v3.2 6 (1 : Int32))) (fun v19 =>
    if v19.1 = (-1 : Int32) then
     some ((0 : Int32), (setF v19.2 7 v19.1))
    else
     some ((1 : Int32), (setF v19.2 7 v19.1))))
  else
   Option.bind (α := Int32 × OS) (fX6_number (setF v1.2 6 (0 : Int32))) (fun v21 =>
   if v21.1 = (-1 : Int32) then
    some ((0 : Int32), (setF v21.2 7 v21.1))
   else
    Option.bind (α := Int32 × OS) (fX6_takes (setF v21.2 7 v21.1) (45 : Int32)) (fun v23 =>
    if v23.1 = (0 : Int32) then
     some ((0 : Int32), v23.2)
    else
     Option.bind (α := Int32 × OS) (fX6_number v23.2) (fun v25 =>
     if v25.1 = (-1 : Int32) then
      some ((0 : Int32), (setF v25.2 8 v25.1))
     else
      some ((1 : Int32), (setF v25.2 8 v25.1))))))
def fX6_fault_5 : Nat → OS → Option (Int32 × OS)
  | 0, _ => none
  | k + 1, g =>
    Option.bind (α := Int32 × OS) (fX6_reads g) (fun v1 =>
    if v1.1 = (0 : Int32) then
     some ((v1.2.1 5), v1.2)
    else
     if (v1.2.1 5) = (v1.2.1 4) then
      some ((-1 : Int32), v1.2)
     else
      Option.bind (α := Int32 × OS) (fX6_takes v1.2 (59 : Int32)) (fun v4 =>
      if v4.1 = (0 : Int32) then
       some ((v4.2.1 5), v4.2)
      else
       fX6_fault_5 k v4.2))
theorem fX6_fault_5_z (g : OS) : fX6_fault_5  0 g = none := rfl
theorem fX6_fault_5_s (k : Nat) (g : OS) : fX6_fault_5  (k + 1) g = (
    Option.bind (α := Int32 × OS) (fX6_reads g) (fun v1 =>
    if v1.1 = (0 : Int32) then
     some ((v1.2.1 5), v1.2)
    else
     if (v1.2.1 5) = (v1.2.1 4) then
      some ((-1 : Int32), v1.2)
     else
      Option.bind (α := Int32 × OS) (fX6_takes v1.2 (59 : Int32)) (fun v4 =>
      if v4.1 = (0 : Int32) then
       some ((v4.2.1 5), v4.2)
      else
       fX6_fault_5 k v4.2))) := rfl
def fX6_fault (g : OS) : Option (Int32 × OS) :=
  fX6_fault_5 FU (setF g 5 (0 : Int32))
def fX6_carries (g : OS) : Option (Int32 × OS) :=
  if (g.1 6) = (0 : Int32) then
   Option.bind (α := Int32 × OS) (fX6_connects g (924 : Int32) (g.1 7) (g.1 8)) (fun v2 =>
   some (v2.1, v2.2))
  else
  if (g.1 6) = (1 : Int32) then
   Option.bind (α := Int32 × OS) (fX6_disconnects g (924 : Int32) (g.1 7)) (fun v3 =>
   some (v3.1, v3.2))
  else
  if (g.1 6) = (2 : Int32) then
   Option.bind (α := Int32 × OS) (fX6_takesOut g (924 : Int32) (g.1 7)) (fun v4 =>
   some (v4.1, v4.2))
  else
  if (g.1 6) = (3 : Int32) then
   Option.bind (α := Int32 × OS) (fX6_putsBack g (924 : Int32) (g.1 7)) (fun v5 =>
   some (v5.1, v5.2))
  else
   Option.bind (α := Int32 × OS) (fX6_packs g (924 : Int32)) (fun v6 =>
   some (v6.1, v6.2))
def fX6_perform_34 : Nat → Int32 → Int32 → OS → Option (Int32 × OS)
  | 0, _, _, _ => none
  | k + 1, x2, x3, g =>
    if x3 = (0 : Int32) then
     Option.bind (α := Int32 × OS) (fX6_accepts g x2) (fun v6 =>
     some (v6.1, v6.2))
    else
     Option.bind (α := Int32 × OS) (fX6_carries g) (fun v7 =>
     if (0 : Int32) ≤ v7.1 then
      Option.bind (α := Int32 × OS) (fX6_takes v7.2 (59 : Int32)) (fun v9 =>
      if v9.1 = (0 : Int32) then
       fX6_perform_34 k (x2 + (1 : Int32)) (0 : Int32) v9.2
      else
       Option.bind (α := Int32 × OS) (fX6_reads v9.2) (fun v11 =>
       if v11.1 = (0 : Int32) then
        fX6_perform_34 k (x2 + (1 : Int32)) (0 : Int32) v11.2
       else
        fX6_perform_34 k (x2 + (1 : Int32)) (1 : Int32) v11.2))
     else
      if v7.1 = (-6 : Int32) then
       Option.bind (α := Int32 × OS) (fX6_takes v7.2 (59 : Int32)) (fun v14 =>
       if v14.1 = (0 : Int32) then
        fX6_perform_34 k (x2 + (1 : Int32)) (0 : Int32) v14.2
       else
        Option.bind (α := Int32 × OS) (fX6_reads v14.2) (fun v16 =>
        if v16.1 = (0 : Int32) then
         fX6_perform_34 k (x2 + (1 : Int32)) (0 : Int32) v16.2
        else
         fX6_perform_34 k (x2 + (1 : Int32)) (1 : Int32) v16.2))
      else
       some (v7.1, v7.2))
theorem fX6_perform_34_z (x2 : Int32) (x3 : Int32) (g : OS) : fX6_perform_34  0 x2 x3 g = none := rfl
theorem fX6_perform_34_s (k : Nat) (x2 : Int32) (x3 : Int32) (g : OS) : fX6_perform_34  (k + 1) x2 x3 g = (
    if x3 = (0 : Int32) then
     Option.bind (α := Int32 × OS) (fX6_accepts g x2) (fun v6 =>
     some (v6.1, v6.2))
    else
     Option.bind (α := Int32 × OS) (fX6_carries g) (fun v7 =>
     if (0 : Int32) ≤ v7.1 then
      Option.bind (α := Int32 × OS) (fX6_takes v7.2 (59 : Int32)) (fun v9 =>
      if v9.1 = (0 : Int32) then
       fX6_perform_34 k (x2 + (1 : Int32)) (0 : Int32) v9.2
      else
       Option.bind (α := Int32 × OS) (fX6_reads v9.2) (fun v11 =>
       if v11.1 = (0 : Int32) then
        fX6_perform_34 k (x2 + (1 : Int32)) (0 : Int32) v11.2
       else
        fX6_perform_34 k (x2 + (1 : Int32)) (1 : Int32) v11.2))
     else
      if v7.1 = (-6 : Int32) then
       Option.bind (α := Int32 × OS) (fX6_takes v7.2 (59 : Int32)) (fun v14 =>
       if v14.1 = (0 : Int32) then
        fX6_perform_34 k (x2 + (1 : Int32)) (0 : Int32) v14.2
       else
        Option.bind (α := Int32 × OS) (fX6_reads v14.2) (fun v16 =>
        if v16.1 = (0 : Int32) then
         fX6_perform_34 k (x2 + (1 : Int32)) (0 : Int32) v16.2
        else
         fX6_perform_34 k (x2 + (1 : Int32)) (1 : Int32) v16.2))
      else
       some (v7.1, v7.2))) := rfl
def fX6_perform (g : OS) : Option (Int32 × OS) :=
  Option.bind (α := Int32 × OS) (fX6_fault g) (fun v1 =>
  if v1.1 = (-1 : Int32) then
   Option.bind (α := OS) (fX6_copies v1.2 (0 : Int32) (6 : Int32)) (fun v3 =>
   Option.bind (α := Int32 × OS) (fX6_reads (setF v3 5 (0 : Int32))) (fun v4 =>
   fX6_perform_34 FU (0 : Int32) v4.1 v4.2))
  else
   some (((-100 : Int32) - v1.1), v1.2))
def fX6_undo (g : OS) : Option (Int32 × OS) :=
  if (g.1 1) = (0 : Int32) then
   some ((-6 : Int32), g)
  else
   Option.bind (α := OS) (fX6_copies g (g.1 1) (0 : Int32)) (fun v2 =>
   jn (α := Int32) (((v2.1 1) - (1 : Int32))) (fun w3 =>
   some (w3, (setF v2 1 w3))))
def fX6_keep (g : OS) : Option (Int32 × OS) :=
  Option.bind (α := OS) (fX6_copies g (0 : Int32) (5 : Int32)) (fun v1 =>
  Option.bind (α := Int32) (fX6_calls (setF v1 2 (1 : Int32)) (0 : Int32)) (fun v2 =>
  some (v2, (setF v1 2 (1 : Int32)))))
def fX6_restore (g : OS) : Option (Int32 × OS) :=
  if (g.1 2) = (0 : Int32) then
   some ((-6 : Int32), g)
  else
   Option.bind (α := OS) (fX6_copies g (5 : Int32) (6 : Int32)) (fun v2 =>
   Option.bind (α := Int32) (fX6_calls v2 (924 : Int32)) (fun v3 =>
   Option.bind (α := Int32 × OS) (fX6_accepts v2 v3) (fun v4 =>
   some (v4.1, v4.2))))
def fX6_callOfInlet (g : OS) (x1 : Int32) : Option (Int32) :=
  Option.bind (α := Int32) (fX6_isLine g (0 : Int32) x1) (fun v1 =>
  if v1 = (0 : Int32) then
   some (-1 : Int32)
  else
   Option.bind (α := Int32) (fX6_of g (0 : Int32) x1 (0 : Int32)) (fun v3 =>
   if v3 = (-1 : Int32) then
    some (-6 : Int32)
   else
    Option.bind (α := Int32) (fX6_of g (0 : Int32) x1 (0 : Int32)) (fun v5 =>
    some v5)))
def fX6_callOfOutlet (g : OS) (x1 : Int32) : Option (Int32) :=
  Option.bind (α := Int32) (fX6_isLine g (0 : Int32) x1) (fun v1 =>
  if v1 = (0 : Int32) then
   some (-1 : Int32)
  else
   Option.bind (α := Int32) (fX6_inletTo g (0 : Int32) x1) (fun v3 =>
   if v3 = (-1 : Int32) then
    some (-6 : Int32)
   else
    Option.bind (α := Int32) (fX6_of g (0 : Int32) v3 (0 : Int32)) (fun v5 =>
    some v5)))
def fX6_inletOf_2 (g : OS) (x1 : Int32) : Nat → Int32 → Option (Int32)
  | 0, _ => none
  | k + 1, x2 =>
    Option.bind (α := Int32) (fX6_lines g (0 : Int32)) (fun v1 =>
    if v1 ≤ x2 then
     some (-1 : Int32)
    else
     if x1 < (0 : Int32) then
      fX6_inletOf_2 g x1 k (x2 + (1 : Int32))
     else
      Option.bind (α := Int32) (fX6_of g (0 : Int32) x2 (0 : Int32)) (fun v4 =>
      if v4 = x1 then
       some x2
      else
       fX6_inletOf_2 g x1 k (x2 + (1 : Int32))))
theorem fX6_inletOf_2_z (g : OS) (x1 : Int32) (x2 : Int32) : fX6_inletOf_2 g x1 0 x2 = none := rfl
theorem fX6_inletOf_2_s (g : OS) (x1 : Int32) (k : Nat) (x2 : Int32) : fX6_inletOf_2 g x1 (k + 1) x2 = (
    Option.bind (α := Int32) (fX6_lines g (0 : Int32)) (fun v1 =>
    if v1 ≤ x2 then
     some (-1 : Int32)
    else
     if x1 < (0 : Int32) then
      fX6_inletOf_2 g x1 k (x2 + (1 : Int32))
     else
      Option.bind (α := Int32) (fX6_of g (0 : Int32) x2 (0 : Int32)) (fun v4 =>
      if v4 = x1 then
       some x2
      else
       fX6_inletOf_2 g x1 k (x2 + (1 : Int32))))) := rfl
def fX6_inletOf (g : OS) (x1 : Int32) : Option (Int32) :=
  fX6_inletOf_2 g x1 FU (0 : Int32)
def fX6_outletOf (g : OS) (x1 : Int32) : Option (Int32) :=
  Option.bind (α := Int32) (fX6_inletOf g x1) (fun v1 =>
  if v1 = (-1 : Int32) then
   some (-1 : Int32)
  else
   Option.bind (α := Int32) (fX6_of g (0 : Int32) v1 (1 : Int32)) (fun v3 =>
   some v3))
def fX6_middleOf (g : OS) (x1 : Int32) : Option (Int32) :=
  Option.bind (α := Int32) (fX6_inletOf g x1) (fun v1 =>
  if v1 = (-1 : Int32) then
   some (-1 : Int32)
  else
   Option.bind (α := Int32) (fX6_of g (0 : Int32) v1 (2 : Int32)) (fun v3 =>
   some v3))
def fX6_onFirstLink (g : OS) (x1 : Int32) (x2 : Int32) : Option (Int32) :=
  Option.bind (α := Int32) (fX6_isBoard g x1) (fun v1 =>
  if v1 = (0 : Int32) then
   some (-1 : Int32)
  else
   Option.bind (α := Int32) (fX6_isMiddle g (0 : Int32) x2) (fun v3 =>
   if v3 = (0 : Int32) then
    some (-1 : Int32)
   else
    Option.bind (α := Int32) (fX6_onFirst g (0 : Int32) x1 x2) (fun v5 =>
    if v5 = (-1 : Int32) then
     some (-6 : Int32)
    else
     Option.bind (α := Int32) (fX6_of g (0 : Int32) v5 (0 : Int32)) (fun v7 =>
     some v7))))
def fX6_onLastLink (g : OS) (x1 : Int32) (x2 : Int32) : Option (Int32) :=
  Option.bind (α := Int32) (fX6_isBoard g x2) (fun v1 =>
  if v1 = (0 : Int32) then
   some (-1 : Int32)
  else
   Option.bind (α := Int32) (fX6_isMiddle g (0 : Int32) x1) (fun v3 =>
   if v3 = (0 : Int32) then
    some (-1 : Int32)
   else
    Option.bind (α := Int32) (fX6_onLast g (0 : Int32) x1 x2) (fun v5 =>
    if v5 = (-1 : Int32) then
     some (-6 : Int32)
    else
     Option.bind (α := Int32) (fX6_of g (0 : Int32) v5 (0 : Int32)) (fun v7 =>
     some v7))))
def fX6_load (g : OS) (x1 : Int32) : Option (Int32) :=
  Option.bind (α := Int32) (fX6_isMiddle g (0 : Int32) x1) (fun v1 =>
  if v1 = (0 : Int32) then
   some (-1 : Int32)
  else
   Option.bind (α := Int32) (fX6_loadOf g (0 : Int32) x1) (fun v3 =>
   some v3))
def fX6_freeForFirst (g : OS) (x1 : Int32) : Option (Int32) :=
  Option.bind (α := Int32) (fX6_isBoard g x1) (fun v1 =>
  if v1 = (0 : Int32) then
   some (-1 : Int32)
  else
   Option.bind (α := Int32) (fX6_freeAhead g (0 : Int32) x1) (fun v3 =>
   some v3))
def fX6_freeForLast (g : OS) (x1 : Int32) : Option (Int32) :=
  Option.bind (α := Int32) (fX6_isBoard g x1) (fun v1 =>
  if v1 = (0 : Int32) then
   some (-1 : Int32)
  else
   Option.bind (α := Int32) (fX6_freeBehind g (0 : Int32) x1) (fun v3 =>
   some v3))
def fX6_inService (g : OS) : Option (Int32) :=
  if inb (9 : Int32) 1078 = true then
  some ((g.2 0) (9 : Int32).toNatClampNeg)
  else none
def fX6_total (g : OS) (x1 : Int32) : Option (Int32) :=
  if x1 = (0 : Int32) then
   if inb x1 1078 = true then
   some ((g.2 0) x1.toNatClampNeg)
   else none
  else
  if x1 = (1 : Int32) then
   if inb x1 1078 = true then
   some ((g.2 0) x1.toNatClampNeg)
   else none
  else
  if x1 = (2 : Int32) then
   if inb x1 1078 = true then
   some ((g.2 0) x1.toNatClampNeg)
   else none
  else
  if x1 = (3 : Int32) then
   if inb x1 1078 = true then
   some ((g.2 0) x1.toNatClampNeg)
   else none
  else
  if x1 = (4 : Int32) then
   if inb x1 1078 = true then
   some ((g.2 0) x1.toNatClampNeg)
   else none
  else
  if x1 = (5 : Int32) then
   Option.bind (α := Int32) (fX6_calls g (0 : Int32)) (fun v7 =>
   some v7)
  else
  if x1 = (6 : Int32) then
   if inb (x1 - (1 : Int32)) 1078 = true then
   some ((g.2 0) (x1 - (1 : Int32)).toNatClampNeg)
   else none
  else
  if x1 = (7 : Int32) then
   if inb (x1 - (1 : Int32)) 1078 = true then
   some ((g.2 0) (x1 - (1 : Int32)).toNatClampNeg)
   else none
  else
  if x1 = (8 : Int32) then
   if inb (x1 - (1 : Int32)) 1078 = true then
   some ((g.2 0) (x1 - (1 : Int32)).toNatClampNeg)
   else none
  else
  if x1 = (9 : Int32) then
   if inb (x1 - (1 : Int32)) 1078 = true then
   some ((g.2 0) (x1 - (1 : Int32)).toNatClampNeg)
   else none
  else
  if x1 = (10 : Int32) then
   some (g.1 1)
  else
  if x1 = (11 : Int32) then
   some (g.1 4)
  else
   some (-2 : Int32)
def fX6_wouldMove (g : OS) (x1 : Int32) (x2 : Int32) : Option (Int32 × OS) :=
  Option.bind (α := OS) (fX6_copies g (0 : Int32) (6 : Int32)) (fun v1 =>
  Option.bind (α := Int32 × OS) (fX6_connects v1 (924 : Int32) x1 x2) (fun v2 =>
  if (0 : Int32) ≤ v2.1 then
   some ((v2.2.1 10), v2.2)
  else
   some (v2.1, v2.2)))
def fX6_chainCall (g : OS) (x1 : Int32) (x2 : Int32) (x3 : Int32) : Option (Int32 × OS) :=
  Option.bind (α := OS) (fX6_copies g (0 : Int32) (6 : Int32)) (fun v1 =>
  Option.bind (α := Int32 × OS) (fX6_connects v1 (924 : Int32) x1 x2) (fun v2 =>
  if (0 : Int32) ≤ v2.1 then
   if (0 : Int32) ≤ x3 then
    if (v2.2.1 10) ≤ x3 then
     some ((-6 : Int32), v2.2)
    else
     if inb x3 48 = true then
     Option.bind (α := Int32) (fX6_of v2.2 (0 : Int32) ((v2.2.2 2) x3.toNatClampNeg) (0 : Int32)) (fun v7 =>
     some (v7, v2.2))
     else none
   else
    some ((-2 : Int32), v2.2)
  else
   some (v2.1, v2.2)))
def fX6_reason (g : OS) (x1 : Int32) (x2 : Int32) : Option (Int32) :=
  Option.bind (α := Int32) (fX6_isLine g (0 : Int32) x1) (fun v1 =>
  if v1 = (0 : Int32) then
   some (-1 : Int32)
  else
   Option.bind (α := Int32) (fX6_isLine g (0 : Int32) x2) (fun v3 =>
   if v3 = (0 : Int32) then
    some (-1 : Int32)
   else
    Option.bind (α := Int32) (fX6_of g (0 : Int32) x1 (0 : Int32)) (fun v5 =>
    if v5 = (-1 : Int32) then
     Option.bind (α := Int32) (fX6_inletTo g (0 : Int32) x2) (fun v7 =>
     if v7 = (-1 : Int32) then
      if inb (1 : Int32) 1078 = true then
      if ¬ ((g.2 0) (1 : Int32).toNatClampNeg) = (0 : Int32) then
      Option.bind (α := Int32) (fX6_freeAhead g (0 : Int32) (x1 / ((g.2 0) (1 : Int32).toNatClampNeg))) (fun v11 =>
      if inb (1 : Int32) 1078 = true then
      if ¬ ((g.2 0) (1 : Int32).toNatClampNeg) = (0 : Int32) then
      Option.bind (α := Int32) (fX6_freeBehind g (0 : Int32) (x2 / ((g.2 0) (1 : Int32).toNatClampNeg))) (fun v14 =>
      if v11 = (0 : Int32) then
       some (4 : Int32)
      else
       if v14 = (0 : Int32) then
        some (5 : Int32)
       else
        if (v11 &&& v14) = (0 : Int32) then
         some (1 : Int32)
        else
         some (0 : Int32))
      else none
      else none)
      else none
      else none
     else
      some (3 : Int32))
    else
     some (2 : Int32))))
def fX6_leastMiddles (g : OS) : Option (Int32) :=
  Option.bind (α := Int32) (fX6_least g (0 : Int32)) (fun v1 =>
  some v1)
def fX6_wouldDrop (g : OS) (x1 : Int32) : Option (Int32 × OS) :=
  Option.bind (α := OS) (fX6_copies g (0 : Int32) (6 : Int32)) (fun v1 =>
  Option.bind (α := Int32 × OS) (fX6_takesOut v1 (924 : Int32) x1) (fun v2 =>
  some (v2.1, v2.2)))
def fX6_reachable_44 (g : OS) (x2 : Int32) : Nat → Int32 → Int32 → Option (Int32)
  | 0, _, _ => none
  | k + 1, x3, x4 =>
    Option.bind (α := Int32) (fX6_lines g (0 : Int32)) (fun v8 =>
    if v8 ≤ x4 then
     some x3
    else
     Option.bind (α := Int32) (fX6_inletTo g (0 : Int32) x4) (fun v10 =>
     Option.bind (α := Int32) (
      if v10 = (-1 : Int32) then
       if inb (1 : Int32) 1078 = true then
       if ¬ ((g.2 0) (1 : Int32).toNatClampNeg) = (0 : Int32) then
       Option.bind (α := Int32) (fX6_freeBehind g (0 : Int32) (x4 / ((g.2 0) (1 : Int32).toNatClampNeg))) (fun v14 =>
       if (x2 &&& v14) = (0 : Int32) then
        some (0 : Int32)
       else
        some (1 : Int32))
       else none
       else none
      else
       some (0 : Int32)) (fun v16 =>
     if v16 = (0 : Int32) then
      fX6_reachable_44 g x2 k (x3 + (0 : Int32)) (x4 + (1 : Int32))
     else
      fX6_reachable_44 g x2 k (x3 + (1 : Int32)) (x4 + (1 : Int32)))))
theorem fX6_reachable_44_z (g : OS) (x2 : Int32) (x3 : Int32) (x4 : Int32) : fX6_reachable_44 g x2 0 x3 x4 = none := rfl
theorem fX6_reachable_44_s (g : OS) (x2 : Int32) (k : Nat) (x3 : Int32) (x4 : Int32) : fX6_reachable_44 g x2 (k + 1) x3 x4 = (
    Option.bind (α := Int32) (fX6_lines g (0 : Int32)) (fun v8 =>
    if v8 ≤ x4 then
     some x3
    else
     Option.bind (α := Int32) (fX6_inletTo g (0 : Int32) x4) (fun v10 =>
     Option.bind (α := Int32) (
      if v10 = (-1 : Int32) then
       if inb (1 : Int32) 1078 = true then
       if ¬ ((g.2 0) (1 : Int32).toNatClampNeg) = (0 : Int32) then
       Option.bind (α := Int32) (fX6_freeBehind g (0 : Int32) (x4 / ((g.2 0) (1 : Int32).toNatClampNeg))) (fun v14 =>
       if (x2 &&& v14) = (0 : Int32) then
        some (0 : Int32)
       else
        some (1 : Int32))
       else none
       else none
      else
       some (0 : Int32)) (fun v16 =>
     if v16 = (0 : Int32) then
      fX6_reachable_44 g x2 k (x3 + (0 : Int32)) (x4 + (1 : Int32))
     else
      fX6_reachable_44 g x2 k (x3 + (1 : Int32)) (x4 + (1 : Int32)))))) := rfl
def fX6_reachable (g : OS) (x1 : Int32) : Option (Int32) :=
  Option.bind (α := Int32) (fX6_isLine g (0 : Int32) x1) (fun v1 =>
  if v1 = (0 : Int32) then
   some (-1 : Int32)
  else
   Option.bind (α := Int32) (fX6_of g (0 : Int32) x1 (0 : Int32)) (fun v3 =>
   if v3 = (-1 : Int32) then
    if inb (1 : Int32) 1078 = true then
    if ¬ ((g.2 0) (1 : Int32).toNatClampNeg) = (0 : Int32) then
    Option.bind (α := Int32) (fX6_freeAhead g (0 : Int32) (x1 / ((g.2 0) (1 : Int32).toNatClampNeg))) (fun v7 =>
    fX6_reachable_44 g v7 FU (0 : Int32) (0 : Int32))
    else none
    else none
   else
    some (-3 : Int32)))
theorem bo_in {a b c : Int32} : narrow .boolean (.int (fX6_in a b c)) = .int (fX6_in a b c) := by
  unfold fX6_in
  split
  · rfl
  · split <;> rfl
theorem bo_isHere {g : OS} {a b v : Int32} (h : fX6_isHere g a b = some v) : narrow .boolean (.int v) = .int v := by
  unfold fX6_isHere at h
  repeat' split at h
  all_goals first | (cases h; rfl) | (cases h)
