def fX2_sign (x : OS) : Int32 :=
  if (x.1 1) ≤ (x.1 2) then
   (-6 : Int32)
  else
   (rget (x.2 0) 60 (x.1 2))
def fX2_rewind (x : OS) : OS :=
  (setF x 2 (0 : Int32))
def fX2_skip (x : OS) (x1 : Int32) : Int32 × OS :=
  if (fX2_sign x) = x1 then
   jn (α := Int32) (((x.1 2) + (1 : Int32))) (fun w2 =>
   ((1 : Int32), (setF x 2 w2)))
  else
   ((0 : Int32), x)
def fX2_readNumber_5 (x1 : Int32) : Nat → Int32 → Int32 → OS → Option (Int32 × OS)
  | 0, _, _, _ => none
  | k + 1, x2, x3, x =>
    if (60 : Int32) ≤ x3 then
     some (x2, x)
    else
     if ((fX2_sign x) - (48 : Int32)) < (0 : Int32) then
      some (x2, x)
     else
      if (9 : Int32) < ((fX2_sign x) - (48 : Int32)) then
       some (x2, x)
      else
       if x2 = (0 : Int32) then
        some (x2, x)
       else
        if (((if x2 < (0 : Int32) then (0 : Int32) else x2) * (10 : Int32)) + ((fX2_sign x) - (48 : Int32))) ≤ x1 then
         jn (α := Int32) (((x.1 2) + (1 : Int32))) (fun w6 =>
         fX2_readNumber_5 x1 k (((if x2 < (0 : Int32) then (0 : Int32) else x2) * (10 : Int32)) + ((fX2_sign x) - (48 : Int32))) (x3 + (1 : Int32)) (setF x 2 w6))
        else
         some (x2, x)
theorem fX2_readNumber_5_z (x1 : Int32) (x2 : Int32) (x3 : Int32) (x : OS) : fX2_readNumber_5 x1 0 x2 x3 x = none := rfl
theorem fX2_readNumber_5_s (x1 : Int32) (k : Nat) (x2 : Int32) (x3 : Int32) (x : OS) : fX2_readNumber_5 x1 (k + 1) x2 x3 x = (
    if (60 : Int32) ≤ x3 then
     some (x2, x)
    else
     if ((fX2_sign x) - (48 : Int32)) < (0 : Int32) then
      some (x2, x)
     else
      if (9 : Int32) < ((fX2_sign x) - (48 : Int32)) then
       some (x2, x)
      else
       if x2 = (0 : Int32) then
        some (x2, x)
       else
        if (((if x2 < (0 : Int32) then (0 : Int32) else x2) * (10 : Int32)) + ((fX2_sign x) - (48 : Int32))) ≤ x1 then
         jn (α := Int32) (((x.1 2) + (1 : Int32))) (fun w6 =>
         fX2_readNumber_5 x1 k (((if x2 < (0 : Int32) then (0 : Int32) else x2) * (10 : Int32)) + ((fX2_sign x) - (48 : Int32))) (x3 + (1 : Int32)) (setF x 2 w6))
        else
         some (x2, x)) := rfl
def fX2_readNumber (x : OS) (x1 : Int32) : Option (Int32 × OS) :=
  fX2_readNumber_5 x1 FU (-6 : Int32) (0 : Int32) x
def fX2_append (x : OS) (x1 : Int32) : Int32 × OS :=
  if (x.1 1) < (60 : Int32) then
   jn (α := Nat → Int32) (rset (x.2 0) 60 (x.1 1) x1) (fun w2 =>
   jn (α := Int32) (((x.1 1) + (1 : Int32))) (fun w3 =>
   (w3, (setF (setR x 0 w2) 1 w3))))
  else
   ((-5 : Int32), x)
def fX2_readOrder (x : OS) : Option (Int32 × OS) :=
  jn (α := Int32) ((fX2_sign x)) (fun w1 =>
  if w1 = (99 : Int32) then
   jn (α := Int32) (((x.1 2) + (1 : Int32))) (fun w3 =>
   Option.bind (α := Int32 × OS) (fX2_readNumber (setF (setF x 3 w1) 2 w3) (47 : Int32)) (fun v4 =>
   if v4.1 < (0 : Int32) then
    some ((0 : Int32), (setF v4.2 4 v4.1))
   else
    jn (α := Int32 × OS) (fX2_skip (setF v4.2 4 v4.1) (45 : Int32)) (fun v6 =>
    if v6.1 = (0 : Int32) then
     some ((0 : Int32), v6.2)
    else
     Option.bind (α := Int32 × OS) (fX2_readNumber v6.2 (47 : Int32)) (fun v8 =>
     if v8.1 < (0 : Int32) then
      some ((0 : Int32), (setF v8.2 5 v8.1))
     else
      some ((1 : Int32), (setF v8.2 5 v8.1))))))
  else
  if w1 = (100 : Int32) then
   jn (α := Int32) (((x.1 2) + (1 : Int32))) (fun w10 =>
   Option.bind (α := Int32 × OS) (fX2_readNumber (setF (setF x 3 w1) 2 w10) (47 : Int32)) (fun v11 =>
   if v11.1 < (0 : Int32) then
    some ((0 : Int32), (setF v11.2 4 v11.1))
   else
    some ((1 : Int32), (setF v11.2 4 v11.1))))
  else
  if w1 = (101 : Int32) then
   some ((0 : Int32), (setF x 3 w1))
  else
  if w1 = (102 : Int32) then
   some ((0 : Int32), (setF x 3 w1))
  else
  if w1 = (103 : Int32) then
   some ((0 : Int32), (setF x 3 w1))
  else
  if w1 = (104 : Int32) then
   some ((0 : Int32), (setF x 3 w1))
  else
  if w1 = (105 : Int32) then
   jn (α := Int32) (((x.1 2) + (1 : Int32))) (fun w13 =>
   Option.bind (α := Int32 × OS) (fX2_readNumber (setF (setF x 3 w1) 2 w13) (7 : Int32)) (fun v14 =>
   if v14.1 < (0 : Int32) then
    some ((0 : Int32), (setF v14.2 4 v14.1))
   else
    some ((1 : Int32), (setF v14.2 4 v14.1))))
  else
  if w1 = (106 : Int32) then
   some ((0 : Int32), (setF x 3 w1))
  else
  if w1 = (107 : Int32) then
   some ((0 : Int32), (setF x 3 w1))
  else
  if w1 = (108 : Int32) then
   some ((0 : Int32), (setF x 3 w1))
  else
  if w1 = (109 : Int32) then
   some ((0 : Int32), (setF x 3 w1))
  else
  if w1 = (110 : Int32) then
   some ((0 : Int32), (setF x 3 w1))
  else
  if w1 = (111 : Int32) then
   jn (α := Int32) (((x.1 2) + (1 : Int32))) (fun w16 =>
   Option.bind (α := Int32 × OS) (fX2_readNumber (setF (setF x 3 w1) 2 w16) (7 : Int32)) (fun v17 =>
   if v17.1 < (0 : Int32) then
    some ((0 : Int32), (setF v17.2 4 v17.1))
   else
    some ((1 : Int32), (setF v17.2 4 v17.1))))
  else
  if w1 = (112 : Int32) then
   jn (α := Int32) (((x.1 2) + (1 : Int32))) (fun w19 =>
   some ((1 : Int32), (setF (setF x 3 w1) 2 w19)))
  else
   some ((0 : Int32), (setF x 3 w1)))
def fX2_findFault_6 : Nat → Int32 → OS → Option (Int32 × OS)
  | 0, _, _ => none
  | k + 1, x1, x =>
    if (60 : Int32) ≤ x1 then
     some ((x.1 2), x)
    else
     Option.bind (α := Int32 × OS) (fX2_readOrder x) (fun v3 =>
     if v3.1 = (0 : Int32) then
      some ((v3.2.1 2), v3.2)
     else
      if (v3.2.1 2) < (v3.2.1 1) then
       jn (α := Int32 × OS) (fX2_skip v3.2 (59 : Int32)) (fun v6 =>
       if v6.1 = (0 : Int32) then
        some ((v6.2.1 2), v6.2)
       else
        fX2_findFault_6 k (x1 + (1 : Int32)) v6.2)
      else
       some ((-6 : Int32), v3.2))
theorem fX2_findFault_6_z (x1 : Int32) (x : OS) : fX2_findFault_6  0 x1 x = none := rfl
theorem fX2_findFault_6_s (k : Nat) (x1 : Int32) (x : OS) : fX2_findFault_6  (k + 1) x1 x = (
    if (60 : Int32) ≤ x1 then
     some ((x.1 2), x)
    else
     Option.bind (α := Int32 × OS) (fX2_readOrder x) (fun v3 =>
     if v3.1 = (0 : Int32) then
      some ((v3.2.1 2), v3.2)
     else
      if (v3.2.1 2) < (v3.2.1 1) then
       jn (α := Int32 × OS) (fX2_skip v3.2 (59 : Int32)) (fun v6 =>
       if v6.1 = (0 : Int32) then
        some ((v6.2.1 2), v6.2)
       else
        fX2_findFault_6 k (x1 + (1 : Int32)) v6.2)
      else
       some ((-6 : Int32), v3.2))) := rfl
def fX2_findFault (x : OS) : Option (Int32 × OS) :=
  jn (α := OS) (fX2_rewind x) (fun v1 =>
  fX2_findFault_6 FU (0 : Int32) v1)
