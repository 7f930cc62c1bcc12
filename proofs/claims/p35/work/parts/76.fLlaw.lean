def fL_law_37 (xs : Nat → Int32) (L : Nat) (x : OS) (tr : OS) : Nat → Int32 → OS → HS → OS → OS → OS → OS → Option (Int32 × OS × HS × OS × OS × OS × OS)
  | 0, _, _, _, _, _, _, _ => none
  | k + 1, x2, kx, hi, o, sn, r, n =>
    if (40 : Int32) ≤ x2 then
     Option.bind (α := Int32) (fL_holds kx hi x n) (fun v8 =>
     if (v8 = (0 : Int32) ∨ v8 = (1 : Int32)) then
     some (v8, kx, hi, o, sn, r, n)
     else none)
    else
     Option.bind (α := Int32) (fL_cell xs L ((2 : Int32) * x2)) (fun v10 =>
     Option.bind (α := Int32) (fL_cell xs L (((2 : Int32) * x2) + (1 : Int32))) (fun v11 =>
     Option.bind (α := Int64) (fL_told kx hi x n) (fun v12 =>
     Option.bind (α := Int32) (fX5_total kx hi x n (10 : Int32)) (fun v13 =>
     Option.bind (α := Int32 × HS × OS × OS × OS) (fL_act kx hi x o sn r n v10 v11) (fun v14 =>
     Option.bind (α := Int64) (fL_told kx v14.2.1 x v14.2.2.2.2) (fun v15 =>
     if (0 : Int32) ≤ v14.1 then
      Option.bind (α := Int32) (fX5_total kx v14.2.1 x v14.2.2.2.2 (10 : Int32)) (fun v17 =>
      jn (α := Int32) (
       if (4 : Int32) ≤ v13 then
        (4 : Int32)
       else
        (v13 + (1 : Int32))) (fun v19 =>
      if v17 = v19 then
       if v14.1 < (0 : Int32) then
        Option.bind (α := Int32) (fX5_total kx v14.2.1 x v14.2.2.2.2 (0 : Int32)) (fun v22 =>
        Option.bind (α := Int32) (fX5_total kx v14.2.1 x v14.2.2.2.2 (1 : Int32)) (fun v23 =>
        Option.bind (α := Int32 × HS × OS × OS × OS) (
         if (x2 - x2 / (3 : Int32) * (3 : Int32)) = (0 : Int32) then
          Option.bind (α := Int32) (fL_holds kx v14.2.1 x v14.2.2.2.2) (fun v31 =>
          some (v31, v14.2.1, v14.2.2.1, v14.2.2.2.1, v14.2.2.2.2))
         else
          if (x2 - x2 / (3 : Int32) * (3 : Int32)) = (1 : Int32) then
           Option.bind (α := Int32) (fL_up (v10 >>> ((9 : Int32) &&& 31)) ((v22 * v23) + (1 : Int32))) (fun v28 =>
           Option.bind (α := Int32) (fL_up (v11 >>> ((9 : Int32) &&& 31)) ((v22 * v23) + (1 : Int32))) (fun v29 =>
           Option.bind (α := Int32 × HS × OS × OS × OS) (fL_isAhead kx v14.2.1 x v14.2.2.1 v14.2.2.2.1 v14.2.2.2.2 v28 v29) (fun v30 =>
           some (v30.1, v30.2.1, v30.2.2.1, v30.2.2.2.1, v30.2.2.2.2))))
          else
           Option.bind (α := Int32) (fL_up (v10 >>> ((9 : Int32) &&& 31)) (v22 * v23)) (fun v26 =>
           Option.bind (α := Int32) (fL_isReached kx v14.2.1 x v14.2.2.2.2 v26) (fun v27 =>
           some (v27, v14.2.1, v14.2.2.1, v14.2.2.2.1, v14.2.2.2.2)))) (fun v32 =>
        if v32.1 = (0 : Int32) then
         some ((0 : Int32), kx, v32.2.1, v32.2.2.1, sn, v32.2.2.2.1, v32.2.2.2.2)
        else
         Option.bind (α := Int32 × OS × OS) (
          if (x2 - x2 / (11 : Int32) * (11 : Int32)) = (5 : Int32) then
           Option.bind (α := Int32 × OS × OS) (fX5_keep kx sn v32.2.2.2.2) (fun v36 =>
           some (v36.1, v36.2.1, v36.2.2))
          else
           Option.bind (α := Int32) (fX5_total kx v32.2.1 x v32.2.2.2.2 (5 : Int32)) (fun v35 =>
           some (v35, kx, sn))) (fun v37 =>
         Option.bind (α := Int32) (fX5_total v37.2.1 v32.2.1 x v32.2.2.2.2 (5 : Int32)) (fun v38 =>
         if v37.1 = v38 then
          fL_law_37 xs L x tr k (x2 + (1 : Int32)) v37.2.1 v32.2.1 v32.2.2.1 v37.2.2 v32.2.2.2.1 v32.2.2.2.2
         else
          some ((0 : Int32), v37.2.1, v32.2.1, v32.2.2.1, v37.2.2, v32.2.2.2.1, v32.2.2.2.2))))))
       else
        if ((v10 >>> ((8 : Int32) &&& 31)) &&& (1 : Int32)) = (0 : Int32) then
         Option.bind (α := Int32) (fX5_total kx v14.2.1 x v14.2.2.2.2 (10 : Int32)) (fun v59 =>
         Option.bind (α := Int32 × HS × OS) (fX5_undo kx v14.2.1 v14.2.2.2.2) (fun v60 =>
         if v60.1 = (v59 - (1 : Int32)) then
          Option.bind (α := Int64) (fL_told kx v60.2.1 x v60.2.2) (fun v62 =>
          if (lg_cmp v62 v12) = (0 : Int32) then
           Option.bind (α := Int32 × HS × OS × OS × OS) (fL_act kx v60.2.1 x v14.2.2.1 sn v14.2.2.2.1 v60.2.2 v10 v11) (fun v64 =>
           if v64.1 = v14.1 then
            Option.bind (α := Int64) (fL_told kx v64.2.1 x v64.2.2.2.2) (fun v66 =>
            if (lg_cmp v66 v15) = (0 : Int32) then
             Option.bind (α := Int32) (fX5_total kx v64.2.1 x v64.2.2.2.2 (0 : Int32)) (fun v68 =>
             Option.bind (α := Int32) (fX5_total kx v64.2.1 x v64.2.2.2.2 (1 : Int32)) (fun v69 =>
             Option.bind (α := Int32 × HS × OS × OS × OS) (
              if (x2 - x2 / (3 : Int32) * (3 : Int32)) = (0 : Int32) then
               Option.bind (α := Int32) (fL_holds kx v64.2.1 x v64.2.2.2.2) (fun v77 =>
               some (v77, v64.2.1, v64.2.2.1, v64.2.2.2.1, v64.2.2.2.2))
              else
               if (x2 - x2 / (3 : Int32) * (3 : Int32)) = (1 : Int32) then
                Option.bind (α := Int32) (fL_up (v10 >>> ((9 : Int32) &&& 31)) ((v68 * v69) + (1 : Int32))) (fun v74 =>
                Option.bind (α := Int32) (fL_up (v11 >>> ((9 : Int32) &&& 31)) ((v68 * v69) + (1 : Int32))) (fun v75 =>
                Option.bind (α := Int32 × HS × OS × OS × OS) (fL_isAhead kx v64.2.1 x v64.2.2.1 v64.2.2.2.1 v64.2.2.2.2 v74 v75) (fun v76 =>
                some (v76.1, v76.2.1, v76.2.2.1, v76.2.2.2.1, v76.2.2.2.2))))
               else
                Option.bind (α := Int32) (fL_up (v10 >>> ((9 : Int32) &&& 31)) (v68 * v69)) (fun v72 =>
                Option.bind (α := Int32) (fL_isReached kx v64.2.1 x v64.2.2.2.2 v72) (fun v73 =>
                some (v73, v64.2.1, v64.2.2.1, v64.2.2.2.1, v64.2.2.2.2)))) (fun v78 =>
             if v78.1 = (0 : Int32) then
              some ((0 : Int32), kx, v78.2.1, v78.2.2.1, sn, v78.2.2.2.1, v78.2.2.2.2)
             else
              Option.bind (α := Int32 × OS × OS) (
               if (x2 - x2 / (11 : Int32) * (11 : Int32)) = (5 : Int32) then
                Option.bind (α := Int32 × OS × OS) (fX5_keep kx sn v78.2.2.2.2) (fun v82 =>
                some (v82.1, v82.2.1, v82.2.2))
               else
                Option.bind (α := Int32) (fX5_total kx v78.2.1 x v78.2.2.2.2 (5 : Int32)) (fun v81 =>
                some (v81, kx, sn))) (fun v83 =>
              Option.bind (α := Int32) (fX5_total v83.2.1 v78.2.1 x v78.2.2.2.2 (5 : Int32)) (fun v84 =>
              if v83.1 = v84 then
               fL_law_37 xs L x tr k (x2 + (1 : Int32)) v83.2.1 v78.2.1 v78.2.2.1 v83.2.2 v78.2.2.2.1 v78.2.2.2.2
              else
               some ((0 : Int32), v83.2.1, v78.2.1, v78.2.2.1, v83.2.2, v78.2.2.2.1, v78.2.2.2.2))))))
            else
             some ((0 : Int32), kx, v64.2.1, v64.2.2.1, sn, v64.2.2.2.1, v64.2.2.2.2))
           else
            some ((0 : Int32), kx, v64.2.1, v64.2.2.1, sn, v64.2.2.2.1, v64.2.2.2.2))
          else
           some ((0 : Int32), kx, v60.2.1, v14.2.2.1, sn, v14.2.2.2.1, v60.2.2))
         else
          some ((0 : Int32), kx, v60.2.1, v14.2.2.1, sn, v14.2.2.2.1, v60.2.2)))
        else
         Option.bind (α := Int32) (fX5_total kx v14.2.1 x v14.2.2.2.2 (0 : Int32)) (fun v41 =>
         Option.bind (α := Int32) (fX5_total kx v14.2.1 x v14.2.2.2.2 (1 : Int32)) (fun v42 =>
         Option.bind (α := Int32 × HS × OS × OS × OS) (
          if (x2 - x2 / (3 : Int32) * (3 : Int32)) = (0 : Int32) then
           Option.bind (α := Int32) (fL_holds kx v14.2.1 x v14.2.2.2.2) (fun v50 =>
           some (v50, v14.2.1, v14.2.2.1, v14.2.2.2.1, v14.2.2.2.2))
          else
           if (x2 - x2 / (3 : Int32) * (3 : Int32)) = (1 : Int32) then
            Option.bind (α := Int32) (fL_up (v10 >>> ((9 : Int32) &&& 31)) ((v41 * v42) + (1 : Int32))) (fun v47 =>
            Option.bind (α := Int32) (fL_up (v11 >>> ((9 : Int32) &&& 31)) ((v41 * v42) + (1 : Int32))) (fun v48 =>
            Option.bind (α := Int32 × HS × OS × OS × OS) (fL_isAhead kx v14.2.1 x v14.2.2.1 v14.2.2.2.1 v14.2.2.2.2 v47 v48) (fun v49 =>
            some (v49.1, v49.2.1, v49.2.2.1, v49.2.2.2.1, v49.2.2.2.2))))
           else
            Option.bind (α := Int32) (fL_up (v10 >>> ((9 : Int32) &&& 31)) (v41 * v42)) (fun v45 =>
            Option.bind (α := Int32) (fL_isReached kx v14.2.1 x v14.2.2.2.2 v45) (fun v46 =>
            some (v46, v14.2.1, v14.2.2.1, v14.2.2.2.1, v14.2.2.2.2)))) (fun v51 =>
         if v51.1 = (0 : Int32) then
          some ((0 : Int32), kx, v51.2.1, v51.2.2.1, sn, v51.2.2.2.1, v51.2.2.2.2)
         else
          Option.bind (α := Int32 × OS × OS) (
           if (x2 - x2 / (11 : Int32) * (11 : Int32)) = (5 : Int32) then
            Option.bind (α := Int32 × OS × OS) (fX5_keep kx sn v51.2.2.2.2) (fun v55 =>
            some (v55.1, v55.2.1, v55.2.2))
           else
            Option.bind (α := Int32) (fX5_total kx v51.2.1 x v51.2.2.2.2 (5 : Int32)) (fun v54 =>
            some (v54, kx, sn))) (fun v56 =>
          Option.bind (α := Int32) (fX5_total v56.2.1 v51.2.1 x v51.2.2.2.2 (5 : Int32)) (fun v57 =>
          if v56.1 = v57 then
           fL_law_37 xs L x tr k (x2 + (1 : Int32)) v56.2.1 v51.2.1 v51.2.2.1 v56.2.2 v51.2.2.2.1 v51.2.2.2.2
          else
           some ((0 : Int32), v56.2.1, v51.2.1, v51.2.2.1, v56.2.2, v51.2.2.2.1, v51.2.2.2.2))))))
      else
       some ((0 : Int32), kx, v14.2.1, v14.2.2.1, sn, v14.2.2.2.1, v14.2.2.2.2)))
     else
      if (lg_cmp v15 v12) = (0 : Int32) then
       Option.bind (α := Int32) (fX5_total kx v14.2.1 x v14.2.2.2.2 (10 : Int32)) (fun v87 =>
       if v87 = v13 then
        if v14.1 < (0 : Int32) then
         Option.bind (α := Int32) (fX5_total kx v14.2.1 x v14.2.2.2.2 (0 : Int32)) (fun v90 =>
         Option.bind (α := Int32) (fX5_total kx v14.2.1 x v14.2.2.2.2 (1 : Int32)) (fun v91 =>
         Option.bind (α := Int32 × HS × OS × OS × OS) (
          if (x2 - x2 / (3 : Int32) * (3 : Int32)) = (0 : Int32) then
           Option.bind (α := Int32) (fL_holds kx v14.2.1 x v14.2.2.2.2) (fun v99 =>
           some (v99, v14.2.1, v14.2.2.1, v14.2.2.2.1, v14.2.2.2.2))
          else
           if (x2 - x2 / (3 : Int32) * (3 : Int32)) = (1 : Int32) then
            Option.bind (α := Int32) (fL_up (v10 >>> ((9 : Int32) &&& 31)) ((v90 * v91) + (1 : Int32))) (fun v96 =>
            Option.bind (α := Int32) (fL_up (v11 >>> ((9 : Int32) &&& 31)) ((v90 * v91) + (1 : Int32))) (fun v97 =>
            Option.bind (α := Int32 × HS × OS × OS × OS) (fL_isAhead kx v14.2.1 x v14.2.2.1 v14.2.2.2.1 v14.2.2.2.2 v96 v97) (fun v98 =>
            some (v98.1, v98.2.1, v98.2.2.1, v98.2.2.2.1, v98.2.2.2.2))))
           else
            Option.bind (α := Int32) (fL_up (v10 >>> ((9 : Int32) &&& 31)) (v90 * v91)) (fun v94 =>
            Option.bind (α := Int32) (fL_isReached kx v14.2.1 x v14.2.2.2.2 v94) (fun v95 =>
            some (v95, v14.2.1, v14.2.2.1, v14.2.2.2.1, v14.2.2.2.2)))) (fun v100 =>
         if v100.1 = (0 : Int32) then
          some ((0 : Int32), kx, v100.2.1, v100.2.2.1, sn, v100.2.2.2.1, v100.2.2.2.2)
         else
          Option.bind (α := Int32 × OS × OS) (
           if (x2 - x2 / (11 : Int32) * (11 : Int32)) = (5 : Int32) then
            Option.bind (α := Int32 × OS × OS) (fX5_keep kx sn v100.2.2.2.2) (fun v104 =>
            some (v104.1, v104.2.1, v104.2.2))
           else
            Option.bind (α := Int32) (fX5_total kx v100.2.1 x v100.2.2.2.2 (5 : Int32)) (fun v103 =>
            some (v103, kx, sn))) (fun v105 =>
          Option.bind (α := Int32) (fX5_total v105.2.1 v100.2.1 x v100.2.2.2.2 (5 : Int32)) (fun v106 =>
          if v105.1 = v106 then
           fL_law_37 xs L x tr k (x2 + (1 : Int32)) v105.2.1 v100.2.1 v100.2.2.1 v105.2.2 v100.2.2.2.1 v100.2.2.2.2
          else
           some ((0 : Int32), v105.2.1, v100.2.1, v100.2.2.1, v105.2.2, v100.2.2.2.1, v100.2.2.2.2))))))
        else
         if ((v10 >>> ((8 : Int32) &&& 31)) &&& (1 : Int32)) = (0 : Int32) then
          Option.bind (α := Int32) (fX5_total kx v14.2.1 x v14.2.2.2.2 (10 : Int32)) (fun v127 =>
          Option.bind (α := Int32 × HS × OS) (fX5_undo kx v14.2.1 v14.2.2.2.2) (fun v128 =>
          if v128.1 = (v127 - (1 : Int32)) then
           Option.bind (α := Int64) (fL_told kx v128.2.1 x v128.2.2) (fun v130 =>
           if (lg_cmp v130 v12) = (0 : Int32) then
            Option.bind (α := Int32 × HS × OS × OS × OS) (fL_act kx v128.2.1 x v14.2.2.1 sn v14.2.2.2.1 v128.2.2 v10 v11) (fun v132 =>
            if v132.1 = v14.1 then
             Option.bind (α := Int64) (fL_told kx v132.2.1 x v132.2.2.2.2) (fun v134 =>
             if (lg_cmp v134 v15) = (0 : Int32) then
              Option.bind (α := Int32) (fX5_total kx v132.2.1 x v132.2.2.2.2 (0 : Int32)) (fun v136 =>
              Option.bind (α := Int32) (fX5_total kx v132.2.1 x v132.2.2.2.2 (1 : Int32)) (fun v137 =>
              Option.bind (α := Int32 × HS × OS × OS × OS) (
               if (x2 - x2 / (3 : Int32) * (3 : Int32)) = (0 : Int32) then
                Option.bind (α := Int32) (fL_holds kx v132.2.1 x v132.2.2.2.2) (fun v145 =>
                some (v145, v132.2.1, v132.2.2.1, v132.2.2.2.1, v132.2.2.2.2))
               else
                if (x2 - x2 / (3 : Int32) * (3 : Int32)) = (1 : Int32) then
                 Option.bind (α := Int32) (fL_up (v10 >>> ((9 : Int32) &&& 31)) ((v136 * v137) + (1 : Int32))) (fun v142 =>
                 Option.bind (α := Int32) (fL_up (v11 >>> ((9 : Int32) &&& 31)) ((v136 * v137) + (1 : Int32))) (fun v143 =>
                 Option.bind (α := Int32 × HS × OS × OS × OS) (fL_isAhead kx v132.2.1 x v132.2.2.1 v132.2.2.2.1 v132.2.2.2.2 v142 v143) (fun v144 =>
                 some (v144.1, v144.2.1, v144.2.2.1, v144.2.2.2.1, v144.2.2.2.2))))
                else
                 Option.bind (α := Int32) (fL_up (v10 >>> ((9 : Int32) &&& 31)) (v136 * v137)) (fun v140 =>
                 Option.bind (α := Int32) (fL_isReached kx v132.2.1 x v132.2.2.2.2 v140) (fun v141 =>
                 some (v141, v132.2.1, v132.2.2.1, v132.2.2.2.1, v132.2.2.2.2)))) (fun v146 =>
              if v146.1 = (0 : Int32) then
               some ((0 : Int32), kx, v146.2.1, v146.2.2.1, sn, v146.2.2.2.1, v146.2.2.2.2)
              else
               Option.bind (α := Int32 × OS × OS) (
                if (x2 - x2 / (11 : Int32) * (11 : Int32)) = (5 : Int32) then
                 Option.bind (α := Int32 × OS × OS) (fX5_keep kx sn v146.2.2.2.2) (fun v150 =>
                 some (v150.1, v150.2.1, v150.2.2))
                else
                 Option.bind (α := Int32) (fX5_total kx v146.2.1 x v146.2.2.2.2 (5 : Int32)) (fun v149 =>
                 some (v149, kx, sn))) (fun v151 =>
               Option.bind (α := Int32) (fX5_total v151.2.1 v146.2.1 x v146.2.2.2.2 (5 : Int32)) (fun v152 =>
               if v151.1 = v152 then
                fL_law_37 xs L x tr k (x2 + (1 : Int32)) v151.2.1 v146.2.1 v146.2.2.1 v151.2.2 v146.2.2.2.1 v146.2.2.2.2
               else
                some ((0 : Int32), v151.2.1, v146.2.1, v146.2.2.1, v151.2.2, v146.2.2.2.1, v146.2.2.2.2))))))
             else
              some ((0 : Int32), kx, v132.2.1, v132.2.2.1, sn, v132.2.2.2.1, v132.2.2.2.2))
            else
             some ((0 : Int32), kx, v132.2.1, v132.2.2.1, sn, v132.2.2.2.1, v132.2.2.2.2))
           else
            some ((0 : Int32), kx, v128.2.1, v14.2.2.1, sn, v14.2.2.2.1, v128.2.2))
          else
           some ((0 : Int32), kx, v128.2.1, v14.2.2.1, sn, v14.2.2.2.1, v128.2.2)))
         else
          Option.bind (α := Int32) (fX5_total kx v14.2.1 x v14.2.2.2.2 (0 : Int32)) (fun v109 =>
          Option.bind (α := Int32) (fX5_total kx v14.2.1 x v14.2.2.2.2 (1 : Int32)) (fun v110 =>
          Option.bind (α := Int32 × HS × OS × OS × OS) (
           if (x2 - x2 / (3 : Int32) * (3 : Int32)) = (0 : Int32) then
            Option.bind (α := Int32) (fL_holds kx v14.2.1 x v14.2.2.2.2) (fun v118 =>
            some (v118, v14.2.1, v14.2.2.1, v14.2.2.2.1, v14.2.2.2.2))
           else
            if (x2 - x2 / (3 : Int32) * (3 : Int32)) = (1 : Int32) then
             Option.bind (α := Int32) (fL_up (v10 >>> ((9 : Int32) &&& 31)) ((v109 * v110) + (1 : Int32))) (fun v115 =>
             Option.bind (α := Int32) (fL_up (v11 >>> ((9 : Int32) &&& 31)) ((v109 * v110) + (1 : Int32))) (fun v116 =>
             Option.bind (α := Int32 × HS × OS × OS × OS) (fL_isAhead kx v14.2.1 x v14.2.2.1 v14.2.2.2.1 v14.2.2.2.2 v115 v116) (fun v117 =>
             some (v117.1, v117.2.1, v117.2.2.1, v117.2.2.2.1, v117.2.2.2.2))))
            else
             Option.bind (α := Int32) (fL_up (v10 >>> ((9 : Int32) &&& 31)) (v109 * v110)) (fun v113 =>
             Option.bind (α := Int32) (fL_isReached kx v14.2.1 x v14.2.2.2.2 v113) (fun v114 =>
             some (v114, v14.2.1, v14.2.2.1, v14.2.2.2.1, v14.2.2.2.2)))) (fun v119 =>
          if v119.1 = (0 : Int32) then
           some ((0 : Int32), kx, v119.2.1, v119.2.2.1, sn, v119.2.2.2.1, v119.2.2.2.2)
          else
           Option.bind (α := Int32 × OS × OS) (
            if (x2 - x2 / (11 : Int32) * (11 : Int32)) = (5 : Int32) then
             Option.bind (α := Int32 × OS × OS) (fX5_keep kx sn v119.2.2.2.2) (fun v123 =>
             some (v123.1, v123.2.1, v123.2.2))
            else
             Option.bind (α := Int32) (fX5_total kx v119.2.1 x v119.2.2.2.2 (5 : Int32)) (fun v122 =>
             some (v122, kx, sn))) (fun v124 =>
           Option.bind (α := Int32) (fX5_total v124.2.1 v119.2.1 x v119.2.2.2.2 (5 : Int32)) (fun v125 =>
           if v124.1 = v125 then
            fL_law_37 xs L x tr k (x2 + (1 : Int32)) v124.2.1 v119.2.1 v119.2.2.1 v124.2.2 v119.2.2.2.1 v119.2.2.2.2
           else
            some ((0 : Int32), v124.2.1, v119.2.1, v119.2.2.1, v124.2.2, v119.2.2.2.1, v119.2.2.2.2))))))
       else
        some ((0 : Int32), kx, v14.2.1, v14.2.2.1, sn, v14.2.2.2.1, v14.2.2.2.2))
      else
       some ((0 : Int32), kx, v14.2.1, v14.2.2.1, sn, v14.2.2.2.1, v14.2.2.2.2)))))))
theorem fL_law_37_z (xs : Nat → Int32) (L : Nat) (x : OS) (tr : OS) (x2 : Int32) (kx : OS) (hi : HS) (o : OS) (sn : OS) (r : OS) (n : OS) : fL_law_37 xs L x tr 0 x2 kx hi o sn r n = none := rfl
theorem fL_law_37_s (xs : Nat → Int32) (L : Nat) (x : OS) (tr : OS) (k : Nat) (x2 : Int32) (kx : OS) (hi : HS) (o : OS) (sn : OS) (r : OS) (n : OS) : fL_law_37 xs L x tr (k + 1) x2 kx hi o sn r n = (
    if (40 : Int32) ≤ x2 then
     Option.bind (α := Int32) (fL_holds kx hi x n) (fun v8 =>
     if (v8 = (0 : Int32) ∨ v8 = (1 : Int32)) then
     some (v8, kx, hi, o, sn, r, n)
     else none)
    else
     Option.bind (α := Int32) (fL_cell xs L ((2 : Int32) * x2)) (fun v10 =>
     Option.bind (α := Int32) (fL_cell xs L (((2 : Int32) * x2) + (1 : Int32))) (fun v11 =>
     Option.bind (α := Int64) (fL_told kx hi x n) (fun v12 =>
     Option.bind (α := Int32) (fX5_total kx hi x n (10 : Int32)) (fun v13 =>
     Option.bind (α := Int32 × HS × OS × OS × OS) (fL_act kx hi x o sn r n v10 v11) (fun v14 =>
     Option.bind (α := Int64) (fL_told kx v14.2.1 x v14.2.2.2.2) (fun v15 =>
     if (0 : Int32) ≤ v14.1 then
      Option.bind (α := Int32) (fX5_total kx v14.2.1 x v14.2.2.2.2 (10 : Int32)) (fun v17 =>
      jn (α := Int32) (
       if (4 : Int32) ≤ v13 then
        (4 : Int32)
       else
        (v13 + (1 : Int32))) (fun v19 =>
      if v17 = v19 then
       if v14.1 < (0 : Int32) then
        Option.bind (α := Int32) (fX5_total kx v14.2.1 x v14.2.2.2.2 (0 : Int32)) (fun v22 =>
        Option.bind (α := Int32) (fX5_total kx v14.2.1 x v14.2.2.2.2 (1 : Int32)) (fun v23 =>
        Option.bind (α := Int32 × HS × OS × OS × OS) (
         if (x2 - x2 / (3 : Int32) * (3 : Int32)) = (0 : Int32) then
          Option.bind (α := Int32) (fL_holds kx v14.2.1 x v14.2.2.2.2) (fun v31 =>
          some (v31, v14.2.1, v14.2.2.1, v14.2.2.2.1, v14.2.2.2.2))
         else
          if (x2 - x2 / (3 : Int32) * (3 : Int32)) = (1 : Int32) then
           Option.bind (α := Int32) (fL_up (v10 >>> ((9 : Int32) &&& 31)) ((v22 * v23) + (1 : Int32))) (fun v28 =>
           Option.bind (α := Int32) (fL_up (v11 >>> ((9 : Int32) &&& 31)) ((v22 * v23) + (1 : Int32))) (fun v29 =>
           Option.bind (α := Int32 × HS × OS × OS × OS) (fL_isAhead kx v14.2.1 x v14.2.2.1 v14.2.2.2.1 v14.2.2.2.2 v28 v29) (fun v30 =>
           some (v30.1, v30.2.1, v30.2.2.1, v30.2.2.2.1, v30.2.2.2.2))))
          else
           Option.bind (α := Int32) (fL_up (v10 >>> ((9 : Int32) &&& 31)) (v22 * v23)) (fun v26 =>
           Option.bind (α := Int32) (fL_isReached kx v14.2.1 x v14.2.2.2.2 v26) (fun v27 =>
           some (v27, v14.2.1, v14.2.2.1, v14.2.2.2.1, v14.2.2.2.2)))) (fun v32 =>
        if v32.1 = (0 : Int32) then
         some ((0 : Int32), kx, v32.2.1, v32.2.2.1, sn, v32.2.2.2.1, v32.2.2.2.2)
        else
         Option.bind (α := Int32 × OS × OS) (
          if (x2 - x2 / (11 : Int32) * (11 : Int32)) = (5 : Int32) then
           Option.bind (α := Int32 × OS × OS) (fX5_keep kx sn v32.2.2.2.2) (fun v36 =>
           some (v36.1, v36.2.1, v36.2.2))
          else
           Option.bind (α := Int32) (fX5_total kx v32.2.1 x v32.2.2.2.2 (5 : Int32)) (fun v35 =>
           some (v35, kx, sn))) (fun v37 =>
         Option.bind (α := Int32) (fX5_total v37.2.1 v32.2.1 x v32.2.2.2.2 (5 : Int32)) (fun v38 =>
         if v37.1 = v38 then
          fL_law_37 xs L x tr k (x2 + (1 : Int32)) v37.2.1 v32.2.1 v32.2.2.1 v37.2.2 v32.2.2.2.1 v32.2.2.2.2
         else
          some ((0 : Int32), v37.2.1, v32.2.1, v32.2.2.1, v37.2.2, v32.2.2.2.1, v32.2.2.2.2))))))
       else
        if ((v10 >>> ((8 : Int32) &&& 31)) &&& (1 : Int32)) = (0 : Int32) then
         Option.bind (α := Int32) (fX5_total kx v14.2.1 x v14.2.2.2.2 (10 : Int32)) (fun v59 =>
         Option.bind (α := Int32 × HS × OS) (fX5_undo kx v14.2.1 v14.2.2.2.2) (fun v60 =>
         if v60.1 = (v59 - (1 : Int32)) then
          Option.bind (α := Int64) (fL_told kx v60.2.1 x v60.2.2) (fun v62 =>
          if (lg_cmp v62 v12) = (0 : Int32) then
           Option.bind (α := Int32 × HS × OS × OS × OS) (fL_act kx v60.2.1 x v14.2.2.1 sn v14.2.2.2.1 v60.2.2 v10 v11) (fun v64 =>
           if v64.1 = v14.1 then
            Option.bind (α := Int64) (fL_told kx v64.2.1 x v64.2.2.2.2) (fun v66 =>
            if (lg_cmp v66 v15) = (0 : Int32) then
             Option.bind (α := Int32) (fX5_total kx v64.2.1 x v64.2.2.2.2 (0 : Int32)) (fun v68 =>
             Option.bind (α := Int32) (fX5_total kx v64.2.1 x v64.2.2.2.2 (1 : Int32)) (fun v69 =>
             Option.bind (α := Int32 × HS × OS × OS × OS) (
              if (x2 - x2 / (3 : Int32) * (3 : Int32)) = (0 : Int32) then
               Option.bind (α := Int32) (fL_holds kx v64.2.1 x v64.2.2.2.2) (fun v77 =>
               some (v77, v64.2.1, v64.2.2.1, v64.2.2.2.1, v64.2.2.2.2))
              else
               if (x2 - x2 / (3 : Int32) * (3 : Int32)) = (1 : Int32) then
                Option.bind (α := Int32) (fL_up (v10 >>> ((9 : Int32) &&& 31)) ((v68 * v69) + (1 : Int32))) (fun v74 =>
                Option.bind (α := Int32) (fL_up (v11 >>> ((9 : Int32) &&& 31)) ((v68 * v69) + (1 : Int32))) (fun v75 =>
                Option.bind (α := Int32 × HS × OS × OS × OS) (fL_isAhead kx v64.2.1 x v64.2.2.1 v64.2.2.2.1 v64.2.2.2.2 v74 v75) (fun v76 =>
                some (v76.1, v76.2.1, v76.2.2.1, v76.2.2.2.1, v76.2.2.2.2))))
               else
                Option.bind (α := Int32) (fL_up (v10 >>> ((9 : Int32) &&& 31)) (v68 * v69)) (fun v72 =>
                Option.bind (α := Int32) (fL_isReached kx v64.2.1 x v64.2.2.2.2 v72) (fun v73 =>
                some (v73, v64.2.1, v64.2.2.1, v64.2.2.2.1, v64.2.2.2.2)))) (fun v78 =>
             if v78.1 = (0 : Int32) then
              some ((0 : Int32), kx, v78.2.1, v78.2.2.1, sn, v78.2.2.2.1, v78.2.2.2.2)
             else
              Option.bind (α := Int32 × OS × OS) (
               if (x2 - x2 / (11 : Int32) * (11 : Int32)) = (5 : Int32) then
                Option.bind (α := Int32 × OS × OS) (fX5_keep kx sn v78.2.2.2.2) (fun v82 =>
                some (v82.1, v82.2.1, v82.2.2))
               else
                Option.bind (α := Int32) (fX5_total kx v78.2.1 x v78.2.2.2.2 (5 : Int32)) (fun v81 =>
                some (v81, kx, sn))) (fun v83 =>
              Option.bind (α := Int32) (fX5_total v83.2.1 v78.2.1 x v78.2.2.2.2 (5 : Int32)) (fun v84 =>
              if v83.1 = v84 then
               fL_law_37 xs L x tr k (x2 + (1 : Int32)) v83.2.1 v78.2.1 v78.2.2.1 v83.2.2 v78.2.2.2.1 v78.2.2.2.2
              else
               some ((0 : Int32), v83.2.1, v78.2.1, v78.2.2.1, v83.2.2, v78.2.2.2.1, v78.2.2.2.2))))))
            else
             some ((0 : Int32), kx, v64.2.1, v64.2.2.1, sn, v64.2.2.2.1, v64.2.2.2.2))
           else
            some ((0 : Int32), kx, v64.2.1, v64.2.2.1, sn, v64.2.2.2.1, v64.2.2.2.2))
          else
           some ((0 : Int32), kx, v60.2.1, v14.2.2.1, sn, v14.2.2.2.1, v60.2.2))
         else
          some ((0 : Int32), kx, v60.2.1, v14.2.2.1, sn, v14.2.2.2.1, v60.2.2)))
        else
         Option.bind (α := Int32) (fX5_total kx v14.2.1 x v14.2.2.2.2 (0 : Int32)) (fun v41 =>
         Option.bind (α := Int32) (fX5_total kx v14.2.1 x v14.2.2.2.2 (1 : Int32)) (fun v42 =>
         Option.bind (α := Int32 × HS × OS × OS × OS) (
          if (x2 - x2 / (3 : Int32) * (3 : Int32)) = (0 : Int32) then
           Option.bind (α := Int32) (fL_holds kx v14.2.1 x v14.2.2.2.2) (fun v50 =>
           some (v50, v14.2.1, v14.2.2.1, v14.2.2.2.1, v14.2.2.2.2))
          else
           if (x2 - x2 / (3 : Int32) * (3 : Int32)) = (1 : Int32) then
            Option.bind (α := Int32) (fL_up (v10 >>> ((9 : Int32) &&& 31)) ((v41 * v42) + (1 : Int32))) (fun v47 =>
            Option.bind (α := Int32) (fL_up (v11 >>> ((9 : Int32) &&& 31)) ((v41 * v42) + (1 : Int32))) (fun v48 =>
            Option.bind (α := Int32 × HS × OS × OS × OS) (fL_isAhead kx v14.2.1 x v14.2.2.1 v14.2.2.2.1 v14.2.2.2.2 v47 v48) (fun v49 =>
            some (v49.1, v49.2.1, v49.2.2.1, v49.2.2.2.1, v49.2.2.2.2))))
           else
            Option.bind (α := Int32) (fL_up (v10 >>> ((9 : Int32) &&& 31)) (v41 * v42)) (fun v45 =>
            Option.bind (α := Int32) (fL_isReached kx v14.2.1 x v14.2.2.2.2 v45) (fun v46 =>
            some (v46, v14.2.1, v14.2.2.1, v14.2.2.2.1, v14.2.2.2.2)))) (fun v51 =>
         if v51.1 = (0 : Int32) then
          some ((0 : Int32), kx, v51.2.1, v51.2.2.1, sn, v51.2.2.2.1, v51.2.2.2.2)
         else
          Option.bind (α := Int32 × OS × OS) (
           if (x2 - x2 / (11 : Int32) * (11 : Int32)) = (5 : Int32) then
            Option.bind (α := Int32 × OS × OS) (fX5_keep kx sn v51.2.2.2.2) (fun v55 =>
            some (v55.1, v55.2.1, v55.2.2))
           else
            Option.bind (α := Int32) (fX5_total kx v51.2.1 x v51.2.2.2.2 (5 : Int32)) (fun v54 =>
            some (v54, kx, sn))) (fun v56 =>
          Option.bind (α := Int32) (fX5_total v56.2.1 v51.2.1 x v51.2.2.2.2 (5 : Int32)) (fun v57 =>
          if v56.1 = v57 then
           fL_law_37 xs L x tr k (x2 + (1 : Int32)) v56.2.1 v51.2.1 v51.2.2.1 v56.2.2 v51.2.2.2.1 v51.2.2.2.2
          else
           some ((0 : Int32), v56.2.1, v51.2.1, v51.2.2.1, v56.2.2, v51.2.2.2.1, v51.2.2.2.2))))))
      else
       some ((0 : Int32), kx, v14.2.1, v14.2.2.1, sn, v14.2.2.2.1, v14.2.2.2.2)))
     else
      if (lg_cmp v15 v12) = (0 : Int32) then
       Option.bind (α := Int32) (fX5_total kx v14.2.1 x v14.2.2.2.2 (10 : Int32)) (fun v87 =>
       if v87 = v13 then
        if v14.1 < (0 : Int32) then
         Option.bind (α := Int32) (fX5_total kx v14.2.1 x v14.2.2.2.2 (0 : Int32)) (fun v90 =>
         Option.bind (α := Int32) (fX5_total kx v14.2.1 x v14.2.2.2.2 (1 : Int32)) (fun v91 =>
         Option.bind (α := Int32 × HS × OS × OS × OS) (
          if (x2 - x2 / (3 : Int32) * (3 : Int32)) = (0 : Int32) then
           Option.bind (α := Int32) (fL_holds kx v14.2.1 x v14.2.2.2.2) (fun v99 =>
           some (v99, v14.2.1, v14.2.2.1, v14.2.2.2.1, v14.2.2.2.2))
          else
           if (x2 - x2 / (3 : Int32) * (3 : Int32)) = (1 : Int32) then
            Option.bind (α := Int32) (fL_up (v10 >>> ((9 : Int32) &&& 31)) ((v90 * v91) + (1 : Int32))) (fun v96 =>
            Option.bind (α := Int32) (fL_up (v11 >>> ((9 : Int32) &&& 31)) ((v90 * v91) + (1 : Int32))) (fun v97 =>
            Option.bind (α := Int32 × HS × OS × OS × OS) (fL_isAhead kx v14.2.1 x v14.2.2.1 v14.2.2.2.1 v14.2.2.2.2 v96 v97) (fun v98 =>
            some (v98.1, v98.2.1, v98.2.2.1, v98.2.2.2.1, v98.2.2.2.2))))
           else
            Option.bind (α := Int32) (fL_up (v10 >>> ((9 : Int32) &&& 31)) (v90 * v91)) (fun v94 =>
            Option.bind (α := Int32) (fL_isReached kx v14.2.1 x v14.2.2.2.2 v94) (fun v95 =>
            some (v95, v14.2.1, v14.2.2.1, v14.2.2.2.1, v14.2.2.2.2)))) (fun v100 =>
         if v100.1 = (0 : Int32) then
          some ((0 : Int32), kx, v100.2.1, v100.2.2.1, sn, v100.2.2.2.1, v100.2.2.2.2)
         else
          Option.bind (α := Int32 × OS × OS) (
           if (x2 - x2 / (11 : Int32) * (11 : Int32)) = (5 : Int32) then
            Option.bind (α := Int32 × OS × OS) (fX5_keep kx sn v100.2.2.2.2) (fun v104 =>
            some (v104.1, v104.2.1, v104.2.2))
           else
            Option.bind (α := Int32) (fX5_total kx v100.2.1 x v100.2.2.2.2 (5 : Int32)) (fun v103 =>
            some (v103, kx, sn))) (fun v105 =>
          Option.bind (α := Int32) (fX5_total v105.2.1 v100.2.1 x v100.2.2.2.2 (5 : Int32)) (fun v106 =>
          if v105.1 = v106 then
           fL_law_37 xs L x tr k (x2 + (1 : Int32)) v105.2.1 v100.2.1 v100.2.2.1 v105.2.2 v100.2.2.2.1 v100.2.2.2.2
          else
           some ((0 : Int32), v105.2.1, v100.2.1, v100.2.2.1, v105.2.2, v100.2.2.2.1, v100.2.2.2.2))))))
        else
         if ((v10 >>> ((8 : Int32) &&& 31)) &&& (1 : Int32)) = (0 : Int32) then
          Option.bind (α := Int32) (fX5_total kx v14.2.1 x v14.2.2.2.2 (10 : Int32)) (fun v127 =>
          Option.bind (α := Int32 × HS × OS) (fX5_undo kx v14.2.1 v14.2.2.2.2) (fun v128 =>
          if v128.1 = (v127 - (1 : Int32)) then
           Option.bind (α := Int64) (fL_told kx v128.2.1 x v128.2.2) (fun v130 =>
           if (lg_cmp v130 v12) = (0 : Int32) then
            Option.bind (α := Int32 × HS × OS × OS × OS) (fL_act kx v128.2.1 x v14.2.2.1 sn v14.2.2.2.1 v128.2.2 v10 v11) (fun v132 =>
            if v132.1 = v14.1 then
             Option.bind (α := Int64) (fL_told kx v132.2.1 x v132.2.2.2.2) (fun v134 =>
             if (lg_cmp v134 v15) = (0 : Int32) then
              Option.bind (α := Int32) (fX5_total kx v132.2.1 x v132.2.2.2.2 (0 : Int32)) (fun v136 =>
              Option.bind (α := Int32) (fX5_total kx v132.2.1 x v132.2.2.2.2 (1 : Int32)) (fun v137 =>
              Option.bind (α := Int32 × HS × OS × OS × OS) (
               if (x2 - x2 / (3 : Int32) * (3 : Int32)) = (0 : Int32) then
                Option.bind (α := Int32) (fL_holds kx v132.2.1 x v132.2.2.2.2) (fun v145 =>
                some (v145, v132.2.1, v132.2.2.1, v132.2.2.2.1, v132.2.2.2.2))
               else
                if (x2 - x2 / (3 : Int32) * (3 : Int32)) = (1 : Int32) then
                 Option.bind (α := Int32) (fL_up (v10 >>> ((9 : Int32) &&& 31)) ((v136 * v137) + (1 : Int32))) (fun v142 =>
                 Option.bind (α := Int32) (fL_up (v11 >>> ((9 : Int32) &&& 31)) ((v136 * v137) + (1 : Int32))) (fun v143 =>
                 Option.bind (α := Int32 × HS × OS × OS × OS) (fL_isAhead kx v132.2.1 x v132.2.2.1 v132.2.2.2.1 v132.2.2.2.2 v142 v143) (fun v144 =>
                 some (v144.1, v144.2.1, v144.2.2.1, v144.2.2.2.1, v144.2.2.2.2))))
                else
                 Option.bind (α := Int32) (fL_up (v10 >>> ((9 : Int32) &&& 31)) (v136 * v137)) (fun v140 =>
                 Option.bind (α := Int32) (fL_isReached kx v132.2.1 x v132.2.2.2.2 v140) (fun v141 =>
                 some (v141, v132.2.1, v132.2.2.1, v132.2.2.2.1, v132.2.2.2.2)))) (fun v146 =>
              if v146.1 = (0 : Int32) then
               some ((0 : Int32), kx, v146.2.1, v146.2.2.1, sn, v146.2.2.2.1, v146.2.2.2.2)
              else
               Option.bind (α := Int32 × OS × OS) (
                if (x2 - x2 / (11 : Int32) * (11 : Int32)) = (5 : Int32) then
                 Option.bind (α := Int32 × OS × OS) (fX5_keep kx sn v146.2.2.2.2) (fun v150 =>
                 some (v150.1, v150.2.1, v150.2.2))
                else
                 Option.bind (α := Int32) (fX5_total kx v146.2.1 x v146.2.2.2.2 (5 : Int32)) (fun v149 =>
                 some (v149, kx, sn))) (fun v151 =>
               Option.bind (α := Int32) (fX5_total v151.2.1 v146.2.1 x v146.2.2.2.2 (5 : Int32)) (fun v152 =>
               if v151.1 = v152 then
                fL_law_37 xs L x tr k (x2 + (1 : Int32)) v151.2.1 v146.2.1 v146.2.2.1 v151.2.2 v146.2.2.2.1 v146.2.2.2.2
               else
                some ((0 : Int32), v151.2.1, v146.2.1, v146.2.2.1, v151.2.2, v146.2.2.2.1, v146.2.2.2.2))))))
             else
              some ((0 : Int32), kx, v132.2.1, v132.2.2.1, sn, v132.2.2.2.1, v132.2.2.2.2))
            else
             some ((0 : Int32), kx, v132.2.1, v132.2.2.1, sn, v132.2.2.2.1, v132.2.2.2.2))
           else
            some ((0 : Int32), kx, v128.2.1, v14.2.2.1, sn, v14.2.2.2.1, v128.2.2))
          else
           some ((0 : Int32), kx, v128.2.1, v14.2.2.1, sn, v14.2.2.2.1, v128.2.2)))
         else
          Option.bind (α := Int32) (fX5_total kx v14.2.1 x v14.2.2.2.2 (0 : Int32)) (fun v109 =>
          Option.bind (α := Int32) (fX5_total kx v14.2.1 x v14.2.2.2.2 (1 : Int32)) (fun v110 =>
          Option.bind (α := Int32 × HS × OS × OS × OS) (
           if (x2 - x2 / (3 : Int32) * (3 : Int32)) = (0 : Int32) then
            Option.bind (α := Int32) (fL_holds kx v14.2.1 x v14.2.2.2.2) (fun v118 =>
            some (v118, v14.2.1, v14.2.2.1, v14.2.2.2.1, v14.2.2.2.2))
           else
            if (x2 - x2 / (3 : Int32) * (3 : Int32)) = (1 : Int32) then
             Option.bind (α := Int32) (fL_up (v10 >>> ((9 : Int32) &&& 31)) ((v109 * v110) + (1 : Int32))) (fun v115 =>
             Option.bind (α := Int32) (fL_up (v11 >>> ((9 : Int32) &&& 31)) ((v109 * v110) + (1 : Int32))) (fun v116 =>
             Option.bind (α := Int32 × HS × OS × OS × OS) (fL_isAhead kx v14.2.1 x v14.2.2.1 v14.2.2.2.1 v14.2.2.2.2 v115 v116) (fun v117 =>
             some (v117.1, v117.2.1, v117.2.2.1, v117.2.2.2.1, v117.2.2.2.2))))
            else
             Option.bind (α := Int32) (fL_up (v10 >>> ((9 : Int32) &&& 31)) (v109 * v110)) (fun v113 =>
             Option.bind (α := Int32) (fL_isReached kx v14.2.1 x v14.2.2.2.2 v113) (fun v114 =>
             some (v114, v14.2.1, v14.2.2.1, v14.2.2.2.1, v14.2.2.2.2)))) (fun v119 =>
          if v119.1 = (0 : Int32) then
           some ((0 : Int32), kx, v119.2.1, v119.2.2.1, sn, v119.2.2.2.1, v119.2.2.2.2)
          else
           Option.bind (α := Int32 × OS × OS) (
            if (x2 - x2 / (11 : Int32) * (11 : Int32)) = (5 : Int32) then
             Option.bind (α := Int32 × OS × OS) (fX5_keep kx sn v119.2.2.2.2) (fun v123 =>
             some (v123.1, v123.2.1, v123.2.2))
            else
             Option.bind (α := Int32) (fX5_total kx v119.2.1 x v119.2.2.2.2 (5 : Int32)) (fun v122 =>
             some (v122, kx, sn))) (fun v124 =>
           Option.bind (α := Int32) (fX5_total v124.2.1 v119.2.1 x v119.2.2.2.2 (5 : Int32)) (fun v125 =>
           if v124.1 = v125 then
            fL_law_37 xs L x tr k (x2 + (1 : Int32)) v124.2.1 v119.2.1 v119.2.2.1 v124.2.2 v119.2.2.2.1 v119.2.2.2.2
           else
            some ((0 : Int32), v124.2.1, v119.2.1, v119.2.2.1, v124.2.2, v119.2.2.2.1, v119.2.2.2.2))))))
       else
        some ((0 : Int32), kx, v14.2.1, v14.2.2.1, sn, v14.2.2.2.1, v14.2.2.2.2))
      else
       some ((0 : Int32), kx, v14.2.1, v14.2.2.1, sn, v14.2.2.2.1, v14.2.2.2.2)))))))) := rfl
def fL_law_8 (xs : Nat → Int32) (L : Nat) (kx : OS) (hi : HS) (x : OS) (o : OS) (sn : OS) (r : OS) (tr : OS) (n : OS) : Option (Int32 × OS × HS × OS × OS × OS × OS) :=
  Option.bind (α := Int32 × HS × OS) (fX5_undo kx hi n) (fun v1 =>
  if v1.1 = (-6 : Int32) then
   Option.bind (α := Int32 × HS × OS) (fX5_restore kx v1.2.1 sn v1.2.2) (fun v3 =>
   if v3.1 = (-6 : Int32) then
    Option.bind (α := Int32 × OS × OS) (fX5_keep kx sn v3.2.2) (fun v5 =>
    if v5.1 = (0 : Int32) then
     fL_law_37 xs L x tr FU (0 : Int32) v5.2.1 v3.2.1 o v5.2.2 r v3.2.2
    else
     some ((0 : Int32), v5.2.1, v3.2.1, o, v5.2.2, r, v3.2.2))
   else
    some ((0 : Int32), kx, v3.2.1, o, sn, r, v3.2.2))
  else
   some ((0 : Int32), kx, v1.2.1, o, sn, r, v1.2.2))
