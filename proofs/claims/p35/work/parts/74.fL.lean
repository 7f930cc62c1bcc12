def fL_up (x0 : Int32) (x1 : Int32) : Option (Int32) :=
  if ¬ x1 = (0 : Int32) then
  some ((x0 &&& (2147483647 : Int32)) - (x0 &&& (2147483647 : Int32)) / x1 * x1)
  else none
def fL_bits_4 (x0 : Int32) : Nat → Int32 → Int32 → Option (Int32)
  | 0, _, _ => none
  | k + 1, x1, x2 =>
    if (8 : Int32) ≤ x2 then
     some x1
    else
     fL_bits_4 x0 k (x1 + ((x0 >>> (x2 &&& 31)) &&& (1 : Int32))) (x2 + (1 : Int32))
theorem fL_bits_4_z (x0 : Int32) (x1 : Int32) (x2 : Int32) : fL_bits_4 x0 0 x1 x2 = none := rfl
theorem fL_bits_4_s (x0 : Int32) (k : Nat) (x1 : Int32) (x2 : Int32) : fL_bits_4 x0 (k + 1) x1 x2 = (
    if (8 : Int32) ≤ x2 then
     some x1
    else
     fL_bits_4 x0 k (x1 + ((x0 >>> (x2 &&& 31)) &&& (1 : Int32))) (x2 + (1 : Int32))) := rfl
def fL_bits (x0 : Int32) : Option (Int32) :=
  fL_bits_4 x0 FU (0 : Int32) (0 : Int32)
def fL_ends_7 (kx : OS) (hi : HS) (x : OS) (n : OS) (x1 : Int32) : Nat → Int64 → Int32 → Option (Int64)
  | 0, _, _ => none
  | k + 1, x2, x4 =>
    Option.bind (α := Int32) (fX5_total kx hi x n (0 : Int32)) (fun v1 =>
    Option.bind (α := Int32) (fX5_total kx hi x n (1 : Int32)) (fun v2 =>
    if (v1 * v2) ≤ x4 then
     some x2
    else
     if x4 = x1 then
      fL_ends_7 kx hi x n x1 k x2 (x4 + (1 : Int32))
     else
      Option.bind (α := Int32) (fX5_outletOf kx n (fX5_callOfInlet kx n x4)) (fun v5 =>
      fL_ends_7 kx hi x n x1 k (((31 : Int64) * (((31 : Int64) * x2) + (((fX5_callOfInlet kx n x4)).toInt64))) + ((v5).toInt64)) (x4 + (1 : Int32)))))
theorem fL_ends_7_z (kx : OS) (hi : HS) (x : OS) (n : OS) (x1 : Int32) (x2 : Int64) (x4 : Int32) : fL_ends_7 kx hi x n x1 0 x2 x4 = none := rfl
theorem fL_ends_7_s (kx : OS) (hi : HS) (x : OS) (n : OS) (x1 : Int32) (k : Nat) (x2 : Int64) (x4 : Int32) : fL_ends_7 kx hi x n x1 (k + 1) x2 x4 = (
    Option.bind (α := Int32) (fX5_total kx hi x n (0 : Int32)) (fun v1 =>
    Option.bind (α := Int32) (fX5_total kx hi x n (1 : Int32)) (fun v2 =>
    if (v1 * v2) ≤ x4 then
     some x2
    else
     if x4 = x1 then
      fL_ends_7 kx hi x n x1 k x2 (x4 + (1 : Int32))
     else
      Option.bind (α := Int32) (fX5_outletOf kx n (fX5_callOfInlet kx n x4)) (fun v5 =>
      fL_ends_7 kx hi x n x1 k (((31 : Int64) * (((31 : Int64) * x2) + (((fX5_callOfInlet kx n x4)).toInt64))) + ((v5).toInt64)) (x4 + (1 : Int32)))))) := rfl
def fL_ends (kx : OS) (hi : HS) (x : OS) (n : OS) (x1 : Int32) : Option (Int64) :=
  fL_ends_7 kx hi x n x1 FU (5 : Int64) (0 : Int32)
def fL_told_45 (kx : OS) (hi : HS) (x : OS) (n : OS) : Nat → Int64 → Int32 → Option (Int64)
  | 0, _, _ => none
  | k + 1, x1, x3 =>
    Option.bind (α := Int32) (fX5_total kx hi x n (0 : Int32)) (fun v3 =>
    Option.bind (α := Int32) (fX5_total kx hi x n (1 : Int32)) (fun v4 =>
    if (v3 * v4) ≤ x3 then
     some x1
    else
     Option.bind (α := Int32) (fX5_middleOf kx n (fX5_callOfInlet kx n x3)) (fun v6 =>
     fL_told_45 kx hi x n k (((31 : Int64) * x1) + ((v6).toInt64)) (x3 + (1 : Int32)))))
theorem fL_told_45_z (kx : OS) (hi : HS) (x : OS) (n : OS) (x1 : Int64) (x3 : Int32) : fL_told_45 kx hi x n 0 x1 x3 = none := rfl
theorem fL_told_45_s (kx : OS) (hi : HS) (x : OS) (n : OS) (k : Nat) (x1 : Int64) (x3 : Int32) : fL_told_45 kx hi x n (k + 1) x1 x3 = (
    Option.bind (α := Int32) (fX5_total kx hi x n (0 : Int32)) (fun v3 =>
    Option.bind (α := Int32) (fX5_total kx hi x n (1 : Int32)) (fun v4 =>
    if (v3 * v4) ≤ x3 then
     some x1
    else
     Option.bind (α := Int32) (fX5_middleOf kx n (fX5_callOfInlet kx n x3)) (fun v6 =>
     fL_told_45 kx hi x n k (((31 : Int64) * x1) + ((v6).toInt64)) (x3 + (1 : Int32)))))) := rfl
def fL_told_18 (kx : OS) (hi : HS) (x : OS) (n : OS) : Nat → Int64 → Int32 → Option (Int64)
  | 0, _, _ => none
  | k + 1, x1, x3 =>
    if (10 : Int32) ≤ x3 then
     fL_told_45 kx hi x n FU x1 (0 : Int32)
    else
     Option.bind (α := Int32) (fX5_total kx hi x n x3) (fun v7 =>
     fL_told_18 kx hi x n k (((31 : Int64) * x1) + ((v7).toInt64)) (x3 + (1 : Int32)))
theorem fL_told_18_z (kx : OS) (hi : HS) (x : OS) (n : OS) (x1 : Int64) (x3 : Int32) : fL_told_18 kx hi x n 0 x1 x3 = none := rfl
theorem fL_told_18_s (kx : OS) (hi : HS) (x : OS) (n : OS) (k : Nat) (x1 : Int64) (x3 : Int32) : fL_told_18 kx hi x n (k + 1) x1 x3 = (
    if (10 : Int32) ≤ x3 then
     fL_told_45 kx hi x n FU x1 (0 : Int32)
    else
     Option.bind (α := Int32) (fX5_total kx hi x n x3) (fun v7 =>
     fL_told_18 kx hi x n k (((31 : Int64) * x1) + ((v7).toInt64)) (x3 + (1 : Int32)))) := rfl
def fL_told (kx : OS) (hi : HS) (x : OS) (n : OS) : Option (Int64) :=
  Option.bind (α := Int64) (fL_ends kx hi x n (-1 : Int32)) (fun v1 =>
  fL_told_18 kx hi x n FU (((31 : Int64) * v1) + (((fX5_inService kx n)).toInt64)) (0 : Int32))
def fL_act (kx : OS) (hi : HS) (x : OS) (o : OS) (sn : OS) (r : OS) (n : OS) (x1 : Int32) (x2 : Int32) : Option (Int32 × HS × OS × OS × OS) :=
  Option.bind (α := Int32) (fX5_total kx hi x n (0 : Int32)) (fun v1 =>
  Option.bind (α := Int32) (fX5_total kx hi x n (1 : Int32)) (fun v2 =>
  Option.bind (α := Int32) (fL_up x1 (16 : Int32)) (fun v3 =>
  if v3 = (0 : Int32) then
   Option.bind (α := Int32) (fL_up x2 ((v1 * v2) + (1 : Int32))) (fun v5 =>
   Option.bind (α := Int32 × HS × OS × OS) (fX5_disconnect kx hi o r n v5) (fun v6 =>
   some (v6.1, v6.2.1, v6.2.2.1, r, v6.2.2.2)))
  else
  if v3 = (1 : Int32) then
   Option.bind (α := Int32) (fL_up x2 ((v1 * v2) + (1 : Int32))) (fun v7 =>
   Option.bind (α := Int32 × HS × OS × OS) (fX5_disconnect kx hi o r n v7) (fun v8 =>
   some (v8.1, v8.2.1, v8.2.2.1, r, v8.2.2.2)))
  else
  if v3 = (2 : Int32) then
   Option.bind (α := Int32) (fX5_total kx hi x n (2 : Int32)) (fun v9 =>
   Option.bind (α := Int32) (fL_up x2 (v9 + (1 : Int32))) (fun v10 =>
   Option.bind (α := Int32 × HS × OS × OS × OS) (fX5_takeOut kx hi o r n v10) (fun v11 =>
   some (v11.1, v11.2.1, v11.2.2.1, v11.2.2.2.1, v11.2.2.2.2))))
  else
  if v3 = (3 : Int32) then
   Option.bind (α := Int32) (fX5_total kx hi x n (2 : Int32)) (fun v12 =>
   Option.bind (α := Int32) (fL_up x2 (v12 + (1 : Int32))) (fun v13 =>
   Option.bind (α := Int32 × HS × OS × OS) (fX5_putBack kx hi o r n v13) (fun v14 =>
   some (v14.1, v14.2.1, v14.2.2.1, r, v14.2.2.2))))
  else
  if v3 = (4 : Int32) then
   Option.bind (α := Int32 × HS × OS × OS × OS) (fX5_pack kx hi o r n) (fun v15 =>
   some (v15.1, v15.2.1, v15.2.2.1, v15.2.2.2.1, v15.2.2.2.2))
  else
  if v3 = (5 : Int32) then
   Option.bind (α := Int32) (fL_up x2 (4 : Int32)) (fun v16 =>
   Option.bind (α := Int32 × HS × OS) (fX5_setChoiceRule kx hi n v16) (fun v17 =>
   some (v17.1, v17.2.1, o, r, v17.2.2)))
  else
  if v3 = (6 : Int32) then
   Option.bind (α := Int32) (fL_up x2 (3 : Int32)) (fun v18 =>
   Option.bind (α := Int32 × HS × OS) (fX5_setPairRule kx hi n v18) (fun v19 =>
   some (v19.1, v19.2.1, o, r, v19.2.2)))
  else
  if v3 = (7 : Int32) then
   if (x2 &&& (3 : Int32)) = (0 : Int32) then
    Option.bind (α := Int32) (fL_up (x2 >>> ((2 : Int32) &&& 31)) (8 : Int32)) (fun v24 =>
    Option.bind (α := Int32) (fL_up (x2 >>> ((5 : Int32) &&& 31)) (6 : Int32)) (fun v25 =>
    Option.bind (α := Int32) (fL_up (x2 >>> ((8 : Int32) &&& 31)) (8 : Int32)) (fun v26 =>
    Option.bind (α := Int32 × HS × OS) (fX5_setUp kx hi n ((1 : Int32) + v24) ((1 : Int32) + v25) ((1 : Int32) + v26)) (fun v27 =>
    some (v27.1, v27.2.1, o, r, v27.2.2)))))
   else
    Option.bind (α := Int32) (fL_up x2 (v1 * v2)) (fun v21 =>
    Option.bind (α := Int32) (fL_up (x2 >>> ((7 : Int32) &&& 31)) (v1 * v2)) (fun v22 =>
    Option.bind (α := Int32 × HS × OS × OS × OS) (fX5_connect kx hi o r n v21 v22) (fun v23 =>
    some (v23.1, v23.2.1, v23.2.2.1, v23.2.2.2.1, v23.2.2.2.2))))
  else
  if v3 = (8 : Int32) then
   if (x2 &&& (3 : Int32)) = (0 : Int32) then
    Option.bind (α := Int32 × HS × OS) (fX5_restore kx hi sn n) (fun v32 =>
    some (v32.1, v32.2.1, o, r, v32.2.2))
   else
    Option.bind (α := Int32) (fL_up x2 (v1 * v2)) (fun v29 =>
    Option.bind (α := Int32) (fL_up (x2 >>> ((7 : Int32) &&& 31)) (v1 * v2)) (fun v30 =>
    Option.bind (α := Int32 × HS × OS × OS × OS) (fX5_connect kx hi o r n v29 v30) (fun v31 =>
    some (v31.1, v31.2.1, v31.2.2.1, v31.2.2.2.1, v31.2.2.2.2))))
  else
   Option.bind (α := Int32) (fL_up x2 ((v1 * v2) + (1 : Int32))) (fun v33 =>
   Option.bind (α := Int32) (fL_up (x2 >>> ((7 : Int32) &&& 31)) ((v1 * v2) + (1 : Int32))) (fun v34 =>
   Option.bind (α := Int32 × HS × OS × OS × OS) (fX5_connect kx hi o r n v33 v34) (fun v35 =>
   some (v35.1, v35.2.1, v35.2.2.1, v35.2.2.2.1, v35.2.2.2.2)))))))
def fL_holds_192 (kx : OS) (hi : HS) (x : OS) (n : OS) (x1 : Int32) (x2 : Int32) (x4 : Int32) (x7 : Int32) : Nat → Int32 → Int32 → Int32 → Int32 → Option (Int32 × Int32 × Int32)
  | 0, _, _, _, _ => none
  | k + 1, x3, x5, x6, x8 =>
    Option.bind (α := Int32) (fX5_total kx hi x n (0 : Int32)) (fun v140 =>
    if v140 ≤ x8 then
     some (x3, x5, x6)
    else
     jn (α := Int32) (
      if (((fX5_inService kx n) >>> (x7 &&& 31)) &&& (1 : Int32)) = (1 : Int32) then
       (1 : Int32)
      else
       (0 : Int32)) (fun v143 =>
     jn (α := Int32) (
      if (fX5_onFirstLink kx n x8 x7) = (-6 : Int32) then
       (1 : Int32)
      else
       (0 : Int32)) (fun v145 =>
     jn (α := Int32) (
      if (fX5_onLastLink kx n x7 x8) = (-6 : Int32) then
       (1 : Int32)
      else
       (0 : Int32)) (fun v147 =>
     jn (α := Int32) (
      if v145 = (0 : Int32) then
       (1 : Int32)
      else
       (0 : Int32)) (fun v149 =>
     jn (α := Int32) (
      if v147 = (0 : Int32) then
       (1 : Int32)
      else
       (0 : Int32)) (fun v151 =>
     if x3 = (0 : Int32) then
      fL_holds_192 kx hi x n x1 x2 x4 x7 k (0 : Int32) (x5 + v149) (x6 + v151) (x8 + (1 : Int32))
     else
      Option.bind (α := Int32) (fX5_freeForFirst kx n x8) (fun v153 =>
      jn (α := Int32) (
       if v143 = (0 : Int32) then
        (0 : Int32)
       else
        if v145 = (0 : Int32) then
         (0 : Int32)
        else
         (1 : Int32)) (fun v156 =>
      if ((v153 >>> (x7 &&& 31)) &&& (1 : Int32)) = v156 then
       Option.bind (α := Int32) (fX5_freeForLast kx n x8) (fun v158 =>
       jn (α := Int32) (
        if v143 = (0 : Int32) then
         (0 : Int32)
        else
         if v147 = (0 : Int32) then
          (0 : Int32)
         else
          (1 : Int32)) (fun v161 =>
       if ((v158 >>> (x7 &&& 31)) &&& (1 : Int32)) = v161 then
        fL_holds_192 kx hi x n x1 x2 x4 x7 k (1 : Int32) (x5 + v149) (x6 + v151) (x8 + (1 : Int32))
       else
        fL_holds_192 kx hi x n x1 x2 x4 x7 k (0 : Int32) (x5 + v149) (x6 + v151) (x8 + (1 : Int32))))
      else
       fL_holds_192 kx hi x n x1 x2 x4 x7 k (0 : Int32) (x5 + v149) (x6 + v151) (x8 + (1 : Int32))))))))))
theorem fL_holds_192_z (kx : OS) (hi : HS) (x : OS) (n : OS) (x1 : Int32) (x2 : Int32) (x4 : Int32) (x7 : Int32) (x3 : Int32) (x5 : Int32) (x6 : Int32) (x8 : Int32) : fL_holds_192 kx hi x n x1 x2 x4 x7 0 x3 x5 x6 x8 = none := rfl
theorem fL_holds_192_s (kx : OS) (hi : HS) (x : OS) (n : OS) (x1 : Int32) (x2 : Int32) (x4 : Int32) (x7 : Int32) (k : Nat) (x3 : Int32) (x5 : Int32) (x6 : Int32) (x8 : Int32) : fL_holds_192 kx hi x n x1 x2 x4 x7 (k + 1) x3 x5 x6 x8 = (
    Option.bind (α := Int32) (fX5_total kx hi x n (0 : Int32)) (fun v140 =>
    if v140 ≤ x8 then
     some (x3, x5, x6)
    else
     jn (α := Int32) (
      if (((fX5_inService kx n) >>> (x7 &&& 31)) &&& (1 : Int32)) = (1 : Int32) then
       (1 : Int32)
      else
       (0 : Int32)) (fun v143 =>
     jn (α := Int32) (
      if (fX5_onFirstLink kx n x8 x7) = (-6 : Int32) then
       (1 : Int32)
      else
       (0 : Int32)) (fun v145 =>
     jn (α := Int32) (
      if (fX5_onLastLink kx n x7 x8) = (-6 : Int32) then
       (1 : Int32)
      else
       (0 : Int32)) (fun v147 =>
     jn (α := Int32) (
      if v145 = (0 : Int32) then
       (1 : Int32)
      else
       (0 : Int32)) (fun v149 =>
     jn (α := Int32) (
      if v147 = (0 : Int32) then
       (1 : Int32)
      else
       (0 : Int32)) (fun v151 =>
     if x3 = (0 : Int32) then
      fL_holds_192 kx hi x n x1 x2 x4 x7 k (0 : Int32) (x5 + v149) (x6 + v151) (x8 + (1 : Int32))
     else
      Option.bind (α := Int32) (fX5_freeForFirst kx n x8) (fun v153 =>
      jn (α := Int32) (
       if v143 = (0 : Int32) then
        (0 : Int32)
       else
        if v145 = (0 : Int32) then
         (0 : Int32)
        else
         (1 : Int32)) (fun v156 =>
      if ((v153 >>> (x7 &&& 31)) &&& (1 : Int32)) = v156 then
       Option.bind (α := Int32) (fX5_freeForLast kx n x8) (fun v158 =>
       jn (α := Int32) (
        if v143 = (0 : Int32) then
         (0 : Int32)
        else
         if v147 = (0 : Int32) then
          (0 : Int32)
         else
          (1 : Int32)) (fun v161 =>
       if ((v158 >>> (x7 &&& 31)) &&& (1 : Int32)) = v161 then
        fL_holds_192 kx hi x n x1 x2 x4 x7 k (1 : Int32) (x5 + v149) (x6 + v151) (x8 + (1 : Int32))
       else
        fL_holds_192 kx hi x n x1 x2 x4 x7 k (0 : Int32) (x5 + v149) (x6 + v151) (x8 + (1 : Int32))))
      else
       fL_holds_192 kx hi x n x1 x2 x4 x7 k (0 : Int32) (x5 + v149) (x6 + v151) (x8 + (1 : Int32))))))))))) := rfl
def fL_holds_168 (kx : OS) (hi : HS) (x : OS) (n : OS) (x1 : Int32) (x2 : Int32) : Nat → Int32 → Int32 → Int32 → Int32 → Int32 → Option (Int32)
  | 0, _, _, _, _, _ => none
  | k + 1, x3, x4, x5, x6, x7 =>
    Option.bind (α := Int32) (fX5_total kx hi x n (2 : Int32)) (fun v4 =>
    if v4 ≤ x7 then
     Option.bind (α := Int32) (fX5_leastMiddles kx n) (fun v6 =>
     Option.bind (α := Int32) (fL_bits (fX5_inService kx n)) (fun v7 =>
     if v7 < v6 then
      if x3 = (0 : Int32) then
       some (0 : Int32)
      else
       if (0 : Int32) = (0 : Int32) then
        some (0 : Int32)
       else
        Option.bind (α := Int32) (fX5_total kx hi x n (5 : Int32)) (fun v11 =>
        if x2 = v11 then
         if x4 = x2 then
          if x5 = x2 then
           if x6 = x2 then
            Option.bind (α := Int32) (fX5_total kx hi x n (6 : Int32)) (fun v16 =>
            Option.bind (α := Int32) (fX5_total kx hi x n (5 : Int32)) (fun v17 =>
            Option.bind (α := Int32) (fX5_total kx hi x n (7 : Int32)) (fun v18 =>
            Option.bind (α := Int32) (fX5_total kx hi x n (8 : Int32)) (fun v19 =>
            if v16 = ((v17 + v18) + v19) then
             some (1 : Int32)
            else
             some (0 : Int32)))))
           else
            some (0 : Int32)
          else
           some (0 : Int32)
         else
          some (0 : Int32)
        else
         some (0 : Int32))
     else
      Option.bind (α := Int32) (fX5_leastMiddles kx n) (fun v21 =>
      if x1 < v21 then
       if x3 = (0 : Int32) then
        some (0 : Int32)
       else
        if (0 : Int32) = (0 : Int32) then
         some (0 : Int32)
        else
         Option.bind (α := Int32) (fX5_total kx hi x n (5 : Int32)) (fun v25 =>
         if x2 = v25 then
          if x4 = x2 then
           if x5 = x2 then
            if x6 = x2 then
             Option.bind (α := Int32) (fX5_total kx hi x n (6 : Int32)) (fun v30 =>
             Option.bind (α := Int32) (fX5_total kx hi x n (5 : Int32)) (fun v31 =>
             Option.bind (α := Int32) (fX5_total kx hi x n (7 : Int32)) (fun v32 =>
             Option.bind (α := Int32) (fX5_total kx hi x n (8 : Int32)) (fun v33 =>
             if v30 = ((v31 + v32) + v33) then
              some (1 : Int32)
             else
              some (0 : Int32)))))
            else
             some (0 : Int32)
           else
            some (0 : Int32)
          else
           some (0 : Int32)
         else
          some (0 : Int32))
      else
       Option.bind (α := Int32) (fX5_leastMiddles kx n) (fun v35 =>
       if v35 ≤ (0 : Int32) then
        if x2 ≤ (0 : Int32) then
         if (0 : Int32) = (0 : Int32) then
          if x3 = (0 : Int32) then
           some (0 : Int32)
          else
           if (1 : Int32) = (0 : Int32) then
            some (0 : Int32)
           else
            Option.bind (α := Int32) (fX5_total kx hi x n (5 : Int32)) (fun v53 =>
            if x2 = v53 then
             if x4 = x2 then
              if x5 = x2 then
               if x6 = x2 then
                Option.bind (α := Int32) (fX5_total kx hi x n (6 : Int32)) (fun v58 =>
                Option.bind (α := Int32) (fX5_total kx hi x n (5 : Int32)) (fun v59 =>
                Option.bind (α := Int32) (fX5_total kx hi x n (7 : Int32)) (fun v60 =>
                Option.bind (α := Int32) (fX5_total kx hi x n (8 : Int32)) (fun v61 =>
                if v58 = ((v59 + v60) + v61) then
                 some (1 : Int32)
                else
                 some (0 : Int32)))))
               else
                some (0 : Int32)
              else
               some (0 : Int32)
             else
              some (0 : Int32)
            else
             some (0 : Int32))
         else
          if x3 = (0 : Int32) then
           some (0 : Int32)
          else
           if (0 : Int32) = (0 : Int32) then
            some (0 : Int32)
           else
            Option.bind (α := Int32) (fX5_total kx hi x n (5 : Int32)) (fun v41 =>
            if x2 = v41 then
             if x4 = x2 then
              if x5 = x2 then
               if x6 = x2 then
                Option.bind (α := Int32) (fX5_total kx hi x n (6 : Int32)) (fun v46 =>
                Option.bind (α := Int32) (fX5_total kx hi x n (5 : Int32)) (fun v47 =>
                Option.bind (α := Int32) (fX5_total kx hi x n (7 : Int32)) (fun v48 =>
                Option.bind (α := Int32) (fX5_total kx hi x n (8 : Int32)) (fun v49 =>
                if v46 = ((v47 + v48) + v49) then
                 some (1 : Int32)
                else
                 some (0 : Int32)))))
               else
                some (0 : Int32)
              else
               some (0 : Int32)
             else
              some (0 : Int32)
            else
             some (0 : Int32))
        else
         if (0 : Int32) = (1 : Int32) then
          if x3 = (0 : Int32) then
           some (0 : Int32)
          else
           if (1 : Int32) = (0 : Int32) then
            some (0 : Int32)
           else
            Option.bind (α := Int32) (fX5_total kx hi x n (5 : Int32)) (fun v78 =>
            if x2 = v78 then
             if x4 = x2 then
              if x5 = x2 then
               if x6 = x2 then
                Option.bind (α := Int32) (fX5_total kx hi x n (6 : Int32)) (fun v83 =>
                Option.bind (α := Int32) (fX5_total kx hi x n (5 : Int32)) (fun v84 =>
                Option.bind (α := Int32) (fX5_total kx hi x n (7 : Int32)) (fun v85 =>
                Option.bind (α := Int32) (fX5_total kx hi x n (8 : Int32)) (fun v86 =>
                if v83 = ((v84 + v85) + v86) then
                 some (1 : Int32)
                else
                 some (0 : Int32)))))
               else
                some (0 : Int32)
              else
               some (0 : Int32)
             else
              some (0 : Int32)
            else
             some (0 : Int32))
         else
          if x3 = (0 : Int32) then
           some (0 : Int32)
          else
           if (0 : Int32) = (0 : Int32) then
            some (0 : Int32)
           else
            Option.bind (α := Int32) (fX5_total kx hi x n (5 : Int32)) (fun v66 =>
            if x2 = v66 then
             if x4 = x2 then
              if x5 = x2 then
               if x6 = x2 then
                Option.bind (α := Int32) (fX5_total kx hi x n (6 : Int32)) (fun v71 =>
                Option.bind (α := Int32) (fX5_total kx hi x n (5 : Int32)) (fun v72 =>
                Option.bind (α := Int32) (fX5_total kx hi x n (7 : Int32)) (fun v73 =>
                Option.bind (α := Int32) (fX5_total kx hi x n (8 : Int32)) (fun v74 =>
                if v71 = ((v72 + v73) + v74) then
                 some (1 : Int32)
                else
                 some (0 : Int32)))))
               else
                some (0 : Int32)
              else
               some (0 : Int32)
             else
              some (0 : Int32)
            else
             some (0 : Int32))
       else
        if x2 ≤ (0 : Int32) then
         if (1 : Int32) = (0 : Int32) then
          if x3 = (0 : Int32) then
           some (0 : Int32)
          else
           if (1 : Int32) = (0 : Int32) then
            some (0 : Int32)
           else
            Option.bind (α := Int32) (fX5_total kx hi x n (5 : Int32)) (fun v104 =>
            if x2 = v104 then
             if x4 = x2 then
              if x5 = x2 then
               if x6 = x2 then
                Option.bind (α := Int32) (fX5_total kx hi x n (6 : Int32)) (fun v109 =>
                Option.bind (α := Int32) (fX5_total kx hi x n (5 : Int32)) (fun v110 =>
                Option.bind (α := Int32) (fX5_total kx hi x n (7 : Int32)) (fun v111 =>
                Option.bind (α := Int32) (fX5_total kx hi x n (8 : Int32)) (fun v112 =>
                if v109 = ((v110 + v111) + v112) then
                 some (1 : Int32)
                else
                 some (0 : Int32)))))
               else
                some (0 : Int32)
              else
               some (0 : Int32)
             else
              some (0 : Int32)
            else
             some (0 : Int32))
         else
          if x3 = (0 : Int32) then
           some (0 : Int32)
          else
           if (0 : Int32) = (0 : Int32) then
            some (0 : Int32)
           else
            Option.bind (α := Int32) (fX5_total kx hi x n (5 : Int32)) (fun v92 =>
            if x2 = v92 then
             if x4 = x2 then
              if x5 = x2 then
               if x6 = x2 then
                Option.bind (α := Int32) (fX5_total kx hi x n (6 : Int32)) (fun v97 =>
                Option.bind (α := Int32) (fX5_total kx hi x n (5 : Int32)) (fun v98 =>
                Option.bind (α := Int32) (fX5_total kx hi x n (7 : Int32)) (fun v99 =>
                Option.bind (α := Int32) (fX5_total kx hi x n (8 : Int32)) (fun v100 =>
                if v97 = ((v98 + v99) + v100) then
                 some (1 : Int32)
                else
                 some (0 : Int32)))))
               else
                some (0 : Int32)
              else
               some (0 : Int32)
             else
              some (0 : Int32)
            else
             some (0 : Int32))
        else
         if (1 : Int32) = (1 : Int32) then
          if x3 = (0 : Int32) then
           some (0 : Int32)
          else
           if (1 : Int32) = (0 : Int32) then
            some (0 : Int32)
           else
            Option.bind (α := Int32) (fX5_total kx hi x n (5 : Int32)) (fun v129 =>
            if x2 = v129 then
             if x4 = x2 then
              if x5 = x2 then
               if x6 = x2 then
                Option.bind (α := Int32) (fX5_total kx hi x n (6 : Int32)) (fun v134 =>
                Option.bind (α := Int32) (fX5_total kx hi x n (5 : Int32)) (fun v135 =>
                Option.bind (α := Int32) (fX5_total kx hi x n (7 : Int32)) (fun v136 =>
                Option.bind (α := Int32) (fX5_total kx hi x n (8 : Int32)) (fun v137 =>
                if v134 = ((v135 + v136) + v137) then
                 some (1 : Int32)
                else
                 some (0 : Int32)))))
               else
                some (0 : Int32)
              else
               some (0 : Int32)
             else
              some (0 : Int32)
            else
             some (0 : Int32))
         else
          if x3 = (0 : Int32) then
           some (0 : Int32)
          else
           if (0 : Int32) = (0 : Int32) then
            some (0 : Int32)
           else
            Option.bind (α := Int32) (fX5_total kx hi x n (5 : Int32)) (fun v117 =>
            if x2 = v117 then
             if x4 = x2 then
              if x5 = x2 then
               if x6 = x2 then
                Option.bind (α := Int32) (fX5_total kx hi x n (6 : Int32)) (fun v122 =>
                Option.bind (α := Int32) (fX5_total kx hi x n (5 : Int32)) (fun v123 =>
                Option.bind (α := Int32) (fX5_total kx hi x n (7 : Int32)) (fun v124 =>
                Option.bind (α := Int32) (fX5_total kx hi x n (8 : Int32)) (fun v125 =>
                if v122 = ((v123 + v124) + v125) then
                 some (1 : Int32)
                else
                 some (0 : Int32)))))
               else
                some (0 : Int32)
              else
               some (0 : Int32)
             else
              some (0 : Int32)
            else
             some (0 : Int32))))))
    else
     Option.bind (α := Int32) (fX5_load kx n x7) (fun v139 =>
     Option.bind (α := Int32 × Int32 × Int32) (fL_holds_192 kx hi x n x1 x2 (x4 + v139) x7 FU x3 x5 x6 (0 : Int32)) (fun v163 =>
     fL_holds_168 kx hi x n x1 x2 k v163.1 (x4 + v139) v163.2.1 v163.2.2 (x7 + (1 : Int32)))))
theorem fL_holds_168_z (kx : OS) (hi : HS) (x : OS) (n : OS) (x1 : Int32) (x2 : Int32) (x3 : Int32) (x4 : Int32) (x5 : Int32) (x6 : Int32) (x7 : Int32) : fL_holds_168 kx hi x n x1 x2 0 x3 x4 x5 x6 x7 = none := rfl
theorem fL_holds_168_s (kx : OS) (hi : HS) (x : OS) (n : OS) (x1 : Int32) (x2 : Int32) (k : Nat) (x3 : Int32) (x4 : Int32) (x5 : Int32) (x6 : Int32) (x7 : Int32) : fL_holds_168 kx hi x n x1 x2 (k + 1) x3 x4 x5 x6 x7 = (
    Option.bind (α := Int32) (fX5_total kx hi x n (2 : Int32)) (fun v4 =>
    if v4 ≤ x7 then
     Option.bind (α := Int32) (fX5_leastMiddles kx n) (fun v6 =>
     Option.bind (α := Int32) (fL_bits (fX5_inService kx n)) (fun v7 =>
     if v7 < v6 then
      if x3 = (0 : Int32) then
       some (0 : Int32)
      else
       if (0 : Int32) = (0 : Int32) then
        some (0 : Int32)
       else
        Option.bind (α := Int32) (fX5_total kx hi x n (5 : Int32)) (fun v11 =>
        if x2 = v11 then
         if x4 = x2 then
          if x5 = x2 then
           if x6 = x2 then
            Option.bind (α := Int32) (fX5_total kx hi x n (6 : Int32)) (fun v16 =>
            Option.bind (α := Int32) (fX5_total kx hi x n (5 : Int32)) (fun v17 =>
            Option.bind (α := Int32) (fX5_total kx hi x n (7 : Int32)) (fun v18 =>
            Option.bind (α := Int32) (fX5_total kx hi x n (8 : Int32)) (fun v19 =>
            if v16 = ((v17 + v18) + v19) then
             some (1 : Int32)
            else
             some (0 : Int32)))))
           else
            some (0 : Int32)
          else
           some (0 : Int32)
         else
          some (0 : Int32)
        else
         some (0 : Int32))
     else
      Option.bind (α := Int32) (fX5_leastMiddles kx n) (fun v21 =>
      if x1 < v21 then
       if x3 = (0 : Int32) then
        some (0 : Int32)
       else
        if (0 : Int32) = (0 : Int32) then
         some (0 : Int32)
        else
         Option.bind (α := Int32) (fX5_total kx hi x n (5 : Int32)) (fun v25 =>
         if x2 = v25 then
          if x4 = x2 then
           if x5 = x2 then
            if x6 = x2 then
             Option.bind (α := Int32) (fX5_total kx hi x n (6 : Int32)) (fun v30 =>
             Option.bind (α := Int32) (fX5_total kx hi x n (5 : Int32)) (fun v31 =>
             Option.bind (α := Int32) (fX5_total kx hi x n (7 : Int32)) (fun v32 =>
             Option.bind (α := Int32) (fX5_total kx hi x n (8 : Int32)) (fun v33 =>
             if v30 = ((v31 + v32) + v33) then
              some (1 : Int32)
             else
              some (0 : Int32)))))
            else
             some (0 : Int32)
           else
            some (0 : Int32)
          else
           some (0 : Int32)
         else
          some (0 : Int32))
      else
       Option.bind (α := Int32) (fX5_leastMiddles kx n) (fun v35 =>
       if v35 ≤ (0 : Int32) then
        if x2 ≤ (0 : Int32) then
         if (0 : Int32) = (0 : Int32) then
          if x3 = (0 : Int32) then
           some (0 : Int32)
          else
           if (1 : Int32) = (0 : Int32) then
            some (0 : Int32)
           else
            Option.bind (α := Int32) (fX5_total kx hi x n (5 : Int32)) (fun v53 =>
            if x2 = v53 then
             if x4 = x2 then
              if x5 = x2 then
               if x6 = x2 then
                Option.bind (α := Int32) (fX5_total kx hi x n (6 : Int32)) (fun v58 =>
                Option.bind (α := Int32) (fX5_total kx hi x n (5 : Int32)) (fun v59 =>
                Option.bind (α := Int32) (fX5_total kx hi x n (7 : Int32)) (fun v60 =>
                Option.bind (α := Int32) (fX5_total kx hi x n (8 : Int32)) (fun v61 =>
                if v58 = ((v59 + v60) + v61) then
                 some (1 : Int32)
                else
                 some (0 : Int32)))))
               else
                some (0 : Int32)
              else
               some (0 : Int32)
             else
              some (0 : Int32)
            else
             some (0 : Int32))
         else
          if x3 = (0 : Int32) then
           some (0 : Int32)
          else
           if (0 : Int32) = (0 : Int32) then
            some (0 : Int32)
           else
            Option.bind (α := Int32) (fX5_total kx hi x n (5 : Int32)) (fun v41 =>
            if x2 = v41 then
             if x4 = x2 then
              if x5 = x2 then
               if x6 = x2 then
                Option.bind (α := Int32) (fX5_total kx hi x n (6 : Int32)) (fun v46 =>
                Option.bind (α := Int32) (fX5_total kx hi x n (5 : Int32)) (fun v47 =>
                Option.bind (α := Int32) (fX5_total kx hi x n (7 : Int32)) (fun v48 =>
                Option.bind (α := Int32) (fX5_total kx hi x n (8 : Int32)) (fun v49 =>
                if v46 = ((v47 + v48) + v49) then
                 some (1 : Int32)
                else
                 some (0 : Int32)))))
               else
                some (0 : Int32)
              else
               some (0 : Int32)
             else
              some (0 : Int32)
            else
             some (0 : Int32))
        else
         if (0 : Int32) = (1 : Int32) then
          if x3 = (0 : Int32) then
           some (0 : Int32)
          else
           if (1 : Int32) = (0 : Int32) then
            some (0 : Int32)
           else
            Option.bind (α := Int32) (fX5_total kx hi x n (5 : Int32)) (fun v78 =>
            if x2 = v78 then
             if x4 = x2 then
              if x5 = x2 then
               if x6 = x2 then
                Option.bind (α := Int32) (fX5_total kx hi x n (6 : Int32)) (fun v83 =>
                Option.bind (α := Int32) (fX5_total kx hi x n (5 : Int32)) (fun v84 =>
                Option.bind (α := Int32) (fX5_total kx hi x n (7 : Int32)) (fun v85 =>
                Option.bind (α := Int32) (fX5_total kx hi x n (8 : Int32)) (fun v86 =>
                if v83 = ((v84 + v85) + v86) then
                 some (1 : Int32)
                else
                 some (0 : Int32)))))
               else
                some (0 : Int32)
              else
               some (0 : Int32)
             else
              some (0 : Int32)
            else
             some (0 : Int32))
         else
          if x3 = (0 : Int32) then
           some (0 : Int32)
          else
           if (0 : Int32) = (0 : Int32) then
            some (0 : Int32)
           else
            Option.bind (α := Int32) (fX5_total kx hi x n (5 : Int32)) (fun v66 =>
            if x2 = v66 then
             if x4 = x2 then
              if x5 = x2 then
               if x6 = x2 then
                Option.bind (α := Int32) (fX5_total kx hi x n (6 : Int32)) (fun v71 =>
                Option.bind (α := Int32) (fX5_total kx hi x n (5 : Int32)) (fun v72 =>
                Option.bind (α := Int32) (fX5_total kx hi x n (7 : Int32)) (fun v73 =>
                Option.bind (α := Int32) (fX5_total kx hi x n (8 : Int32)) (fun v74 =>
                if v71 = ((v72 + v73) + v74) then
                 some (1 : Int32)
                else
                 some (0 : Int32)))))
               else
                some (0 : Int32)
              else
               some (0 : Int32)
             else
              some (0 : Int32)
            else
             some (0 : Int32))
       else
        if x2 ≤ (0 : Int32) then
         if (1 : Int32) = (0 : Int32) then
          if x3 = (0 : Int32) then
           some (0 : Int32)
          else
           if (1 : Int32) = (0 : Int32) then
            some (0 : Int32)
           else
            Option.bind (α := Int32) (fX5_total kx hi x n (5 : Int32)) (fun v104 =>
            if x2 = v104 then
             if x4 = x2 then
              if x5 = x2 then
               if x6 = x2 then
                Option.bind (α := Int32) (fX5_total kx hi x n (6 : Int32)) (fun v109 =>
                Option.bind (α := Int32) (fX5_total kx hi x n (5 : Int32)) (fun v110 =>
                Option.bind (α := Int32) (fX5_total kx hi x n (7 : Int32)) (fun v111 =>
                Option.bind (α := Int32) (fX5_total kx hi x n (8 : Int32)) (fun v112 =>
                if v109 = ((v110 + v111) + v112) then
                 some (1 : Int32)
                else
                 some (0 : Int32)))))
               else
                some (0 : Int32)
              else
               some (0 : Int32)
             else
              some (0 : Int32)
            else
             some (0 : Int32))
         else
          if x3 = (0 : Int32) then
           some (0 : Int32)
          else
           if (0 : Int32) = (0 : Int32) then
            some (0 : Int32)
           else
            Option.bind (α := Int32) (fX5_total kx hi x n (5 : Int32)) (fun v92 =>
            if x2 = v92 then
             if x4 = x2 then
              if x5 = x2 then
               if x6 = x2 then
                Option.bind (α := Int32) (fX5_total kx hi x n (6 : Int32)) (fun v97 =>
                Option.bind (α := Int32) (fX5_total kx hi x n (5 : Int32)) (fun v98 =>
                Option.bind (α := Int32) (fX5_total kx hi x n (7 : Int32)) (fun v99 =>
                Option.bind (α := Int32) (fX5_total kx hi x n (8 : Int32)) (fun v100 =>
                if v97 = ((v98 + v99) + v100) then
                 some (1 : Int32)
                else
                 some (0 : Int32)))))
               else
                some (0 : Int32)
              else
               some (0 : Int32)
             else
              some (0 : Int32)
            else
             some (0 : Int32))
        else
         if (1 : Int32) = (1 : Int32) then
          if x3 = (0 : Int32) then
           some (0 : Int32)
          else
           if (1 : Int32) = (0 : Int32) then
            some (0 : Int32)
           else
            Option.bind (α := Int32) (fX5_total kx hi x n (5 : Int32)) (fun v129 =>
            if x2 = v129 then
             if x4 = x2 then
              if x5 = x2 then
               if x6 = x2 then
                Option.bind (α := Int32) (fX5_total kx hi x n (6 : Int32)) (fun v134 =>
                Option.bind (α := Int32) (fX5_total kx hi x n (5 : Int32)) (fun v135 =>
                Option.bind (α := Int32) (fX5_total kx hi x n (7 : Int32)) (fun v136 =>
                Option.bind (α := Int32) (fX5_total kx hi x n (8 : Int32)) (fun v137 =>
                if v134 = ((v135 + v136) + v137) then
                 some (1 : Int32)
                else
                 some (0 : Int32)))))
               else
                some (0 : Int32)
              else
               some (0 : Int32)
             else
              some (0 : Int32)
            else
             some (0 : Int32))
         else
          if x3 = (0 : Int32) then
           some (0 : Int32)
          else
           if (0 : Int32) = (0 : Int32) then
            some (0 : Int32)
           else
            Option.bind (α := Int32) (fX5_total kx hi x n (5 : Int32)) (fun v117 =>
            if x2 = v117 then
             if x4 = x2 then
              if x5 = x2 then
               if x6 = x2 then
                Option.bind (α := Int32) (fX5_total kx hi x n (6 : Int32)) (fun v122 =>
                Option.bind (α := Int32) (fX5_total kx hi x n (5 : Int32)) (fun v123 =>
                Option.bind (α := Int32) (fX5_total kx hi x n (7 : Int32)) (fun v124 =>
                Option.bind (α := Int32) (fX5_total kx hi x n (8 : Int32)) (fun v125 =>
                if v122 = ((v123 + v124) + v125) then
                 some (1 : Int32)
                else
                 some (0 : Int32)))))
               else
                some (0 : Int32)
              else
               some (0 : Int32)
             else
              some (0 : Int32)
            else
             some (0 : Int32))))))
    else
     Option.bind (α := Int32) (fX5_load kx n x7) (fun v139 =>
     Option.bind (α := Int32 × Int32 × Int32) (fL_holds_192 kx hi x n x1 x2 (x4 + v139) x7 FU x3 x5 x6 (0 : Int32)) (fun v163 =>
     fL_holds_168 kx hi x n x1 x2 k v163.1 (x4 + v139) v163.2.1 v163.2.2 (x7 + (1 : Int32)))))) := rfl
def fL_holds_13 (kx : OS) (hi : HS) (x : OS) (n : OS) (x1 : Int32) : Nat → Int32 → Int32 → Int32 → Option (Int32)
  | 0, _, _, _ => none
  | k + 1, x2, x3, x4 =>
    Option.bind (α := Int32) (fX5_total kx hi x n (0 : Int32)) (fun v2 =>
    if (v2 * x1) ≤ x4 then
     fL_holds_168 kx hi x n x1 x2 FU x3 (0 : Int32) (0 : Int32) (0 : Int32) (0 : Int32)
    else
     if (fX5_callOfInlet kx n x4) = (-6 : Int32) then
      fL_holds_13 kx hi x n x1 k x2 x3 (x4 + (1 : Int32))
     else
      Option.bind (α := Int32) (fX5_middleOf kx n (fX5_callOfInlet kx n x4)) (fun v165 =>
      Option.bind (α := Int32) (fX5_outletOf kx n (fX5_callOfInlet kx n x4)) (fun v166 =>
      if x3 = (0 : Int32) then
       fL_holds_13 kx hi x n x1 k (x2 + (1 : Int32)) (0 : Int32) (x4 + (1 : Int32))
      else
       if (fX5_callOfInlet kx n x4) < (0 : Int32) then
        fL_holds_13 kx hi x n x1 k (x2 + (1 : Int32)) (0 : Int32) (x4 + (1 : Int32))
       else
        Option.bind (α := Int32) (fX5_total kx hi x n (6 : Int32)) (fun v169 =>
        if v169 ≤ (fX5_callOfInlet kx n x4) then
         fL_holds_13 kx hi x n x1 k (x2 + (1 : Int32)) (0 : Int32) (x4 + (1 : Int32))
        else
         Option.bind (α := Int32) (fX5_inletOf kx n (fX5_callOfInlet kx n x4)) (fun v171 =>
         if v171 = x4 then
          if (fX5_callOfOutlet kx n v166) = (fX5_callOfInlet kx n x4) then
           if (((fX5_inService kx n) >>> (v165 &&& 31)) &&& (1 : Int32)) = (1 : Int32) then
            if ¬ x1 = (0 : Int32) then
            if (fX5_onFirstLink kx n (x4 / x1) v165) = (fX5_callOfInlet kx n x4) then
             if ¬ x1 = (0 : Int32) then
             if (fX5_onLastLink kx n v165 (v166 / x1)) = (fX5_callOfInlet kx n x4) then
              fL_holds_13 kx hi x n x1 k (x2 + (1 : Int32)) (1 : Int32) (x4 + (1 : Int32))
             else
              fL_holds_13 kx hi x n x1 k (x2 + (1 : Int32)) (0 : Int32) (x4 + (1 : Int32))
             else none
            else
             fL_holds_13 kx hi x n x1 k (x2 + (1 : Int32)) (0 : Int32) (x4 + (1 : Int32))
            else none
           else
            fL_holds_13 kx hi x n x1 k (x2 + (1 : Int32)) (0 : Int32) (x4 + (1 : Int32))
          else
           fL_holds_13 kx hi x n x1 k (x2 + (1 : Int32)) (0 : Int32) (x4 + (1 : Int32))
         else
          fL_holds_13 kx hi x n x1 k (x2 + (1 : Int32)) (0 : Int32) (x4 + (1 : Int32)))))))
theorem fL_holds_13_z (kx : OS) (hi : HS) (x : OS) (n : OS) (x1 : Int32) (x2 : Int32) (x3 : Int32) (x4 : Int32) : fL_holds_13 kx hi x n x1 0 x2 x3 x4 = none := rfl
theorem fL_holds_13_s (kx : OS) (hi : HS) (x : OS) (n : OS) (x1 : Int32) (k : Nat) (x2 : Int32) (x3 : Int32) (x4 : Int32) : fL_holds_13 kx hi x n x1 (k + 1) x2 x3 x4 = (
    Option.bind (α := Int32) (fX5_total kx hi x n (0 : Int32)) (fun v2 =>
    if (v2 * x1) ≤ x4 then
     fL_holds_168 kx hi x n x1 x2 FU x3 (0 : Int32) (0 : Int32) (0 : Int32) (0 : Int32)
    else
     if (fX5_callOfInlet kx n x4) = (-6 : Int32) then
      fL_holds_13 kx hi x n x1 k x2 x3 (x4 + (1 : Int32))
     else
      Option.bind (α := Int32) (fX5_middleOf kx n (fX5_callOfInlet kx n x4)) (fun v165 =>
      Option.bind (α := Int32) (fX5_outletOf kx n (fX5_callOfInlet kx n x4)) (fun v166 =>
      if x3 = (0 : Int32) then
       fL_holds_13 kx hi x n x1 k (x2 + (1 : Int32)) (0 : Int32) (x4 + (1 : Int32))
      else
       if (fX5_callOfInlet kx n x4) < (0 : Int32) then
        fL_holds_13 kx hi x n x1 k (x2 + (1 : Int32)) (0 : Int32) (x4 + (1 : Int32))
       else
        Option.bind (α := Int32) (fX5_total kx hi x n (6 : Int32)) (fun v169 =>
        if v169 ≤ (fX5_callOfInlet kx n x4) then
         fL_holds_13 kx hi x n x1 k (x2 + (1 : Int32)) (0 : Int32) (x4 + (1 : Int32))
        else
         Option.bind (α := Int32) (fX5_inletOf kx n (fX5_callOfInlet kx n x4)) (fun v171 =>
         if v171 = x4 then
          if (fX5_callOfOutlet kx n v166) = (fX5_callOfInlet kx n x4) then
           if (((fX5_inService kx n) >>> (v165 &&& 31)) &&& (1 : Int32)) = (1 : Int32) then
            if ¬ x1 = (0 : Int32) then
            if (fX5_onFirstLink kx n (x4 / x1) v165) = (fX5_callOfInlet kx n x4) then
             if ¬ x1 = (0 : Int32) then
             if (fX5_onLastLink kx n v165 (v166 / x1)) = (fX5_callOfInlet kx n x4) then
              fL_holds_13 kx hi x n x1 k (x2 + (1 : Int32)) (1 : Int32) (x4 + (1 : Int32))
             else
              fL_holds_13 kx hi x n x1 k (x2 + (1 : Int32)) (0 : Int32) (x4 + (1 : Int32))
             else none
            else
             fL_holds_13 kx hi x n x1 k (x2 + (1 : Int32)) (0 : Int32) (x4 + (1 : Int32))
            else none
           else
            fL_holds_13 kx hi x n x1 k (x2 + (1 : Int32)) (0 : Int32) (x4 + (1 : Int32))
          else
           fL_holds_13 kx hi x n x1 k (x2 + (1 : Int32)) (0 : Int32) (x4 + (1 : Int32))
         else
          fL_holds_13 kx hi x n x1 k (x2 + (1 : Int32)) (0 : Int32) (x4 + (1 : Int32)))))))) := rfl
def fL_holds (kx : OS) (hi : HS) (x : OS) (n : OS) : Option (Int32) :=
  Option.bind (α := Int32) (fX5_total kx hi x n (1 : Int32)) (fun v1 =>
  fL_holds_13 kx hi x n v1 FU (0 : Int32) (1 : Int32) (0 : Int32))
def fL_isAhead_401 (kx : OS) (hi : HS) (x : OS) (o : OS) (n : OS) (x1 : Int32) (x2 : Int32) (x8 : Int32) : Nat → Int32 → Int32 → OS → Option (Int32 × HS × OS × OS × OS)
  | 0, _, _, _ => none
  | k + 1, x12, x13, r =>
    if (x8 + (2 : Int32)) ≤ x13 then
     if (x12 = (0 : Int32) ∨ x12 = (1 : Int32)) then
     some (x12, hi, o, r, n)
     else none
    else
     if x12 = (0 : Int32) then
      if (x12 = (0 : Int32) ∨ x12 = (1 : Int32)) then
      some (x12, hi, o, r, n)
      else none
     else
      Option.bind (α := Int32 × OS) (fX5_chainCall kx r n x1 x2 x13) (fun v41 =>
      if x8 ≤ x13 then
       if v41.1 = (-6 : Int32) then
        fL_isAhead_401 kx hi x o n x1 x2 x8 k (1 : Int32) (x13 + (1 : Int32)) v41.2
       else
        fL_isAhead_401 kx hi x o n x1 x2 x8 k (0 : Int32) (x13 + (1 : Int32)) v41.2
      else
       Option.bind (α := Int32) (fX5_inletOf kx n v41.1) (fun v44 =>
       if v44 < (0 : Int32) then
        fL_isAhead_401 kx hi x o n x1 x2 x8 k (0 : Int32) (x13 + (1 : Int32)) v41.2
       else
        fL_isAhead_401 kx hi x o n x1 x2 x8 k (1 : Int32) (x13 + (1 : Int32)) v41.2))
theorem fL_isAhead_401_z (kx : OS) (hi : HS) (x : OS) (o : OS) (n : OS) (x1 : Int32) (x2 : Int32) (x8 : Int32) (x12 : Int32) (x13 : Int32) (r : OS) : fL_isAhead_401 kx hi x o n x1 x2 x8 0 x12 x13 r = none := rfl
theorem fL_isAhead_401_s (kx : OS) (hi : HS) (x : OS) (o : OS) (n : OS) (x1 : Int32) (x2 : Int32) (x8 : Int32) (k : Nat) (x12 : Int32) (x13 : Int32) (r : OS) : fL_isAhead_401 kx hi x o n x1 x2 x8 (k + 1) x12 x13 r = (
    if (x8 + (2 : Int32)) ≤ x13 then
     if (x12 = (0 : Int32) ∨ x12 = (1 : Int32)) then
     some (x12, hi, o, r, n)
     else none
    else
     if x12 = (0 : Int32) then
      if (x12 = (0 : Int32) ∨ x12 = (1 : Int32)) then
      some (x12, hi, o, r, n)
      else none
     else
      Option.bind (α := Int32 × OS) (fX5_chainCall kx r n x1 x2 x13) (fun v41 =>
      if x8 ≤ x13 then
       if v41.1 = (-6 : Int32) then
        fL_isAhead_401 kx hi x o n x1 x2 x8 k (1 : Int32) (x13 + (1 : Int32)) v41.2
       else
        fL_isAhead_401 kx hi x o n x1 x2 x8 k (0 : Int32) (x13 + (1 : Int32)) v41.2
      else
       Option.bind (α := Int32) (fX5_inletOf kx n v41.1) (fun v44 =>
       if v44 < (0 : Int32) then
        fL_isAhead_401 kx hi x o n x1 x2 x8 k (0 : Int32) (x13 + (1 : Int32)) v41.2
       else
        fL_isAhead_401 kx hi x o n x1 x2 x8 k (1 : Int32) (x13 + (1 : Int32)) v41.2))) := rfl
def fL_isAhead (kx : OS) (hi : HS) (x : OS) (o : OS) (r : OS) (n : OS) (x1 : Int32) (x2 : Int32) : Option (Int32 × HS × OS × OS × OS) :=
  Option.bind (α := Int64) (fL_told kx hi x n) (fun v1 =>
  Option.bind (α := Int64) (fL_ends kx hi x n x1) (fun v2 =>
  Option.bind (α := Int32) (fX5_total kx hi x n (1 : Int32)) (fun v3 =>
  Option.bind (α := Int32 × OS) (fX5_wouldMove kx r n x1 x2) (fun v4 =>
  Option.bind (α := Int32) (fX5_reason kx n x1 x2) (fun v5 =>
  Option.bind (α := Int32) (fX5_total kx hi x n (9 : Int32)) (fun v6 =>
  Option.bind (α := Int32 × HS × OS × OS × OS) (fX5_connect kx hi o v4.2 n x1 x2) (fun v7 =>
  if (0 : Int32) ≤ v7.1 then
   Option.bind (α := Int32) (
    if v4.1 < (0 : Int32) then
     some (0 : Int32)
    else
     jn (α := Int32) (
      if v4.1 ≤ (0 : Int32) then
       (0 : Int32)
      else
       (1 : Int32)) (fun v11 =>
     if v5 = v11 then
      Option.bind (α := Int32) (fX5_total kx v7.2.1 x v7.2.2.2.2 (9 : Int32)) (fun v13 =>
      if v13 = (v6 + v4.1) then
       Option.bind (α := Int64) (fL_ends kx v7.2.1 x v7.2.2.2.2 x1) (fun v15 =>
       if (lg_cmp v15 v2) = (0 : Int32) then
        Option.bind (α := Int32) (fX5_middleOf kx v7.2.2.2.2 (fX5_callOfInlet kx v7.2.2.2.2 x1)) (fun v17 =>
        if v17 = v7.1 then
         Option.bind (α := Int32) (fX5_outletOf kx v7.2.2.2.2 (fX5_callOfInlet kx v7.2.2.2.2 x1)) (fun v19 =>
         if v19 = x2 then
          some (1 : Int32)
         else
          some (0 : Int32))
        else
         some (0 : Int32))
       else
        some (0 : Int32))
      else
       some (0 : Int32))
     else
      some (0 : Int32))) (fun v21 =>
   Option.bind (α := Int32 × HS × OS) (
    if v21 = (0 : Int32) then
     some ((0 : Int32), v7.2.1, v7.2.2.2.2)
    else
     Option.bind (α := Int32 × HS × OS) (fX5_undo kx v7.2.1 v7.2.2.2.2) (fun v23 =>
     if v23.1 < (0 : Int32) then
      some ((0 : Int32), v23.2.1, v23.2.2)
     else
      Option.bind (α := Int64) (fL_told kx v23.2.1 x v23.2.2) (fun v25 =>
      if (lg_cmp v25 v1) = (0 : Int32) then
       if ¬ v3 = (0 : Int32) then
       Option.bind (α := Int32) (fX5_freeForFirst kx v23.2.2 (x1 / v3)) (fun v28 =>
       if ¬ v3 = (0 : Int32) then
       Option.bind (α := Int32) (fX5_freeForLast kx v23.2.2 (x2 / v3)) (fun v30 =>
       jn (α := Int32) (
        if (v28 &&& v30) = (0 : Int32) then
         (0 : Int32)
        else
         (1 : Int32)) (fun v32 =>
       jn (α := Int32) (
        if v4.1 = (0 : Int32) then
         (1 : Int32)
        else
         (0 : Int32)) (fun v34 =>
       if v32 = v34 then
        some ((1 : Int32), v23.2.1, v23.2.2)
       else
        some ((0 : Int32), v23.2.1, v23.2.2))))
       else none)
       else none
      else
       some ((0 : Int32), v23.2.1, v23.2.2)))) (fun v36 =>
   fL_isAhead_401 kx v36.2.1 x v7.2.2.1 v36.2.2 x1 x2 v4.1 FU v36.1 (0 : Int32) v7.2.2.2.1))
  else
   jn (α := Int32) (
    if v7.1 = (-1 : Int32) then
     if v5 = v7.1 then
      (1 : Int32)
     else
      (0 : Int32)
    else
     if v7.1 = (-3 : Int32) then
      if v5 = (2 : Int32) then
       (1 : Int32)
      else
       if v5 = (3 : Int32) then
        (1 : Int32)
       else
        (0 : Int32)
     else
      if v5 = (4 : Int32) then
       (1 : Int32)
      else
       if v5 = (5 : Int32) then
        (1 : Int32)
       else
        (0 : Int32)) (fun v53 =>
   Option.bind (α := Int32) (
    if v7.1 = (-4 : Int32) then
     Option.bind (α := Int32) (fL_bits (fX5_inService kx v7.2.2.2.2)) (fun v55 =>
     Option.bind (α := Int32) (fX5_total kx v7.2.1 x v7.2.2.2.2 (2 : Int32)) (fun v56 =>
     if v55 < v56 then
      some (1 : Int32)
     else
      Option.bind (α := Int32) (fX5_total kx v7.2.1 x v7.2.2.2.2 (2 : Int32)) (fun v58 =>
      if v3 ≤ v58 then
       some (0 : Int32)
      else
       some (1 : Int32))))
    else
     some (1 : Int32)) (fun v60 =>
   Option.bind (α := Int32) (
    if v7.1 = (-4 : Int32) then
     Option.bind (α := Int32) (
      if v5 = (4 : Int32) then
       if ¬ v3 = (0 : Int32) then
       Option.bind (α := Int32) (fX5_freeForFirst kx v7.2.2.2.2 (x1 / v3)) (fun v66 =>
       some v66)
       else none
      else
       if ¬ v3 = (0 : Int32) then
       Option.bind (α := Int32) (fX5_freeForLast kx v7.2.2.2.2 (x2 / v3)) (fun v64 =>
       some v64)
       else none) (fun v67 =>
     if v67 = (0 : Int32) then
      some (1 : Int32)
     else
      some (0 : Int32))
    else
     some (1 : Int32)) (fun v69 =>
   if v4.1 = v7.1 then
    if v53 = (0 : Int32) then
     some ((0 : Int32), v7.2.1, v7.2.2.1, v7.2.2.2.1, v7.2.2.2.2)
    else
     if v60 = (0 : Int32) then
      some ((0 : Int32), v7.2.1, v7.2.2.1, v7.2.2.2.1, v7.2.2.2.2)
     else
      if v69 = (0 : Int32) then
       some ((0 : Int32), v7.2.1, v7.2.2.1, v7.2.2.2.1, v7.2.2.2.2)
      else
       Option.bind (α := Int64) (fL_told kx v7.2.1 x v7.2.2.2.2) (fun v74 =>
       if (lg_cmp v74 v1) = (0 : Int32) then
        Option.bind (α := Int32 × OS) (fX5_chainCall kx v7.2.2.2.1 v7.2.2.2.2 x1 x2 (0 : Int32)) (fun v76 =>
        if v76.1 = v7.1 then
         some ((1 : Int32), v7.2.1, v7.2.2.1, v76.2, v7.2.2.2.2)
        else
         some ((0 : Int32), v7.2.1, v7.2.2.1, v76.2, v7.2.2.2.2))
       else
        some ((0 : Int32), v7.2.1, v7.2.2.1, v7.2.2.2.1, v7.2.2.2.2))
   else
    some ((0 : Int32), v7.2.1, v7.2.2.1, v7.2.2.2.1, v7.2.2.2.2)))))))))))
def fL_isReached_21 (kx : OS) (hi : HS) (x : OS) (n : OS) (x1 : Int32) (x3 : Int32) : Nat → Int32 → Int32 → Option (Int32)
  | 0, _, _ => none
  | k + 1, x2, x4 =>
    Option.bind (α := Int32) (fX5_total kx hi x n (0 : Int32)) (fun v3 =>
    Option.bind (α := Int32) (fX5_total kx hi x n (1 : Int32)) (fun v4 =>
    if (v3 * v4) ≤ x4 then
     if x3 = (0 : Int32) then
      Option.bind (α := Int32) (fX5_reachable kx n x1) (fun v7 =>
      if v7 = x2 then
       some (1 : Int32)
      else
       some (0 : Int32))
     else
      if x2 = (0 : Int32) then
       Option.bind (α := Int32) (fX5_reachable kx n x1) (fun v10 =>
       if v10 = (-3 : Int32) then
        some (1 : Int32)
       else
        some (0 : Int32))
      else
       some (0 : Int32)
    else
     Option.bind (α := Int32) (fX5_reason kx n x1 x4) (fun v12 =>
     if v12 = (0 : Int32) then
      fL_isReached_21 kx hi x n x1 x3 k (x2 + (1 : Int32)) (x4 + (1 : Int32))
     else
      fL_isReached_21 kx hi x n x1 x3 k (x2 + (0 : Int32)) (x4 + (1 : Int32)))))
theorem fL_isReached_21_z (kx : OS) (hi : HS) (x : OS) (n : OS) (x1 : Int32) (x3 : Int32) (x2 : Int32) (x4 : Int32) : fL_isReached_21 kx hi x n x1 x3 0 x2 x4 = none := rfl
theorem fL_isReached_21_s (kx : OS) (hi : HS) (x : OS) (n : OS) (x1 : Int32) (x3 : Int32) (k : Nat) (x2 : Int32) (x4 : Int32) : fL_isReached_21 kx hi x n x1 x3 (k + 1) x2 x4 = (
    Option.bind (α := Int32) (fX5_total kx hi x n (0 : Int32)) (fun v3 =>
    Option.bind (α := Int32) (fX5_total kx hi x n (1 : Int32)) (fun v4 =>
    if (v3 * v4) ≤ x4 then
     if x3 = (0 : Int32) then
      Option.bind (α := Int32) (fX5_reachable kx n x1) (fun v7 =>
      if v7 = x2 then
       some (1 : Int32)
      else
       some (0 : Int32))
     else
      if x2 = (0 : Int32) then
       Option.bind (α := Int32) (fX5_reachable kx n x1) (fun v10 =>
       if v10 = (-3 : Int32) then
        some (1 : Int32)
       else
        some (0 : Int32))
      else
       some (0 : Int32)
    else
     Option.bind (α := Int32) (fX5_reason kx n x1 x4) (fun v12 =>
     if v12 = (0 : Int32) then
      fL_isReached_21 kx hi x n x1 x3 k (x2 + (1 : Int32)) (x4 + (1 : Int32))
     else
      fL_isReached_21 kx hi x n x1 x3 k (x2 + (0 : Int32)) (x4 + (1 : Int32)))))) := rfl
def fL_isReached (kx : OS) (hi : HS) (x : OS) (n : OS) (x1 : Int32) : Option (Int32) :=
  jn (α := Int32) (
   if (fX5_callOfInlet kx n x1) = (-6 : Int32) then
    (0 : Int32)
   else
    (1 : Int32)) (fun v2 =>
  fL_isReached_21 kx hi x n x1 v2 FU (0 : Int32) (0 : Int32))
