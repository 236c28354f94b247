def f_copyOf (h0 : Nat) (x1 : Int32) (σ : mS) : Option (Nat × mS) := (σ.2 h0).bind fun e => (xI e).bind fun q =>
  if x1 < 0 ∨ q.1 < x1.toNatClampNeg ∨ 160 < q.1 then none else some (σ.1, (σ.1 + 1, va_up σ.2 σ.1 (some (.inl (0, x1.toNatClampNeg, .inl q.2)))))
def f_J7_fill_5 : Nat → Nat → Int32 → Int32 → Int32 → mS → Option mS
  | 0, _, _, _, _, _ => none
  | n + 1, h0, x1, x2, x3, σ =>
    if x3 ≤ x2 then
    some (σ)
    else
    (sI (σ) h0 x2 x1).bind fun t6 =>
    vl (x2 + (1 : Int32)) fun v7 =>
    f_J7_fill_5 n h0 x1 v7 x3 t6
def f_J7_fill (h0 : Nat) (x1 : Int32) (σ : mS) : Option mS :=
(aL (σ) h0).bind fun v8 =>
f_J7_fill_5 fU h0 x1 (0 : Int32) v8 (σ)
def f_X0_init (h0 : Nat) (h1 : Nat) (h2 : Nat) (σ : mS) : Option mS :=
vl (nI_ (σ) 10) fun t37 =>
vl (σ).1 fun r38 =>
(pR t37 h0 0 0 r38).bind fun t39 =>
vl (nI_ t39 6) fun t40 =>
vl t39.1 fun r41 =>
(pR t40 h0 0 1 r41).bind fun t42 =>
vl (nI_ t42 6) fun t43 =>
vl t42.1 fun r44 =>
(pR t43 h0 0 2 r44).bind fun t45 =>
vl (nI_ t45 6) fun t46 =>
vl t45.1 fun r47 =>
(pR t46 h0 0 3 r47).bind fun t48 =>
vl (nI_ t48 6) fun t49 =>
vl t48.1 fun r50 =>
(pR t49 h0 0 4 r50).bind fun t51 =>
vl (nI_ t51 6) fun t52 =>
vl t51.1 fun r53 =>
(pR t52 h0 0 5 r53).bind fun t54 =>
vl (nI_ t54 6) fun t55 =>
vl t54.1 fun r56 =>
(pR t55 h0 0 6 r56).bind fun t57 =>
vl (nI_ t57 8) fun t58 =>
vl t57.1 fun r59 =>
(pR t58 h0 0 7 r59).bind fun t60 =>
vl (nI_ t60 8) fun t61 =>
vl t60.1 fun r62 =>
(pR t61 h0 0 8 r62).bind fun t63 =>
vl (nI_ t63 8) fun t64 =>
vl t63.1 fun r65 =>
(pR t64 h0 0 9 r65).bind fun t66 =>
(pR t66 h0 0 14 h1).bind fun t67 =>
(pR t67 h0 0 10 h2).bind fun t68 =>
(gR t68 h0 0 1).bind fun r69 =>
(f_J7_fill r69 (50 : Int32) t68).bind fun q70 =>
(gR q70 h0 0 7).bind fun r71 =>
(f_J7_fill r71 (-1 : Int32) q70).bind fun q72 =>
some q72
def f_X0_become (h0 : Nat) (h1 : Nat) (σ : mS) : Option mS :=
(gR (σ) h1 0 0).bind fun r39 =>
(gR (σ) h0 0 0).bind fun r40 =>
(cP (σ) r39 (0 : Int32) r40 (0 : Int32) (10 : Int32)).bind fun t41 =>
(gR t41 h1 0 1).bind fun r42 =>
(gR t41 h0 0 1).bind fun r43 =>
(cP t41 r42 (0 : Int32) r43 (0 : Int32) (6 : Int32)).bind fun t44 =>
(gR t44 h1 0 2).bind fun r45 =>
(gR t44 h0 0 2).bind fun r46 =>
(cP t44 r45 (0 : Int32) r46 (0 : Int32) (6 : Int32)).bind fun t47 =>
(gR t47 h1 0 3).bind fun r48 =>
(gR t47 h0 0 3).bind fun r49 =>
(cP t47 r48 (0 : Int32) r49 (0 : Int32) (6 : Int32)).bind fun t50 =>
(gR t50 h1 0 4).bind fun r51 =>
(gR t50 h0 0 4).bind fun r52 =>
(cP t50 r51 (0 : Int32) r52 (0 : Int32) (6 : Int32)).bind fun t53 =>
(gR t53 h1 0 5).bind fun r54 =>
(gR t53 h0 0 5).bind fun r55 =>
(cP t53 r54 (0 : Int32) r55 (0 : Int32) (6 : Int32)).bind fun t56 =>
(gR t56 h1 0 6).bind fun r57 =>
(gR t56 h0 0 6).bind fun r58 =>
(cP t56 r57 (0 : Int32) r58 (0 : Int32) (6 : Int32)).bind fun t59 =>
(gR t59 h1 0 7).bind fun r60 =>
(gR t59 h0 0 7).bind fun r61 =>
(cP t59 r60 (0 : Int32) r61 (0 : Int32) (8 : Int32)).bind fun t62 =>
(gR t62 h1 0 8).bind fun r63 =>
(gR t62 h0 0 8).bind fun r64 =>
(cP t62 r63 (0 : Int32) r64 (0 : Int32) (8 : Int32)).bind fun t65 =>
(gR t65 h1 0 9).bind fun r66 =>
(gR t65 h0 0 9).bind fun r67 =>
(cP t65 r66 (0 : Int32) r67 (0 : Int32) (8 : Int32)).bind fun t68 =>
(gI t68 h1 0 11).bind fun v69 =>
(pI t68 h0 0 11 v69).bind fun t70 =>
(gI t70 h1 0 12).bind fun v71 =>
(pI t70 h0 0 12 v71).bind fun t72 =>
(gI t72 h1 0 13).bind fun v73 =>
(pI t72 h0 0 13 v73).bind fun t74 =>
(gR t74 h1 0 14).bind fun r75 =>
(pR t74 h0 0 14 r75).bind fun t76 =>
some t76
def f_X5_isBelow (x0 : Int32) (x1 : Int32) : Int32 :=
if x0 < 0 then
(0 : Int32)
else
if x1 ≤ x0 then
(0 : Int32)
else
(1 : Int32)
def f_X0_hasWitness (h0 : Nat) (x1 : Int32) (σ : mS) : Option Int32 :=
(gI (σ) h0 0 13).bind fun v2 =>
some (f_X5_isBelow x1 v2)
def f_X0_welcome (h0 : Nat) (x1 : Int32) (x2 : Int32) (x3 : Int32) (σ : mS) : Option (Int32 × mS) :=
(gI (σ) h0 0 13).bind fun v14 =>
(gR (σ) h0 0 2).bind fun r15 =>
(sI (σ) r15 v14 (x1 / (10 : Int32))).bind fun t16 =>
(gR t16 h0 0 3).bind fun r17 =>
(sI t16 r17 v14 (x1 - x1 / (10 : Int32) * (10 : Int32))).bind fun t18 =>
(gR t18 h0 0 4).bind fun r19 =>
(sI t18 r19 v14 x2).bind fun t20 =>
(gR t20 h0 0 5).bind fun r21 =>
(sI t20 r21 v14 x3).bind fun t22 =>
(gR t22 h0 0 6).bind fun r23 =>
(sI t22 r23 v14 (0 : Int32)).bind fun t24 =>
(gI t24 h0 0 13).bind fun v25 =>
(pI t24 h0 0 13 (v25 + (1 : Int32))).bind fun t26 =>
some (v14, t26)
def f_X0_isAdmitted (h0 : Nat) (x1 : Int32) (σ : mS) : Option Int32 :=
(gI (σ) h0 0 11).bind fun v3 =>
if ((v3 >>> (x1 &&& 31)) &&& (1 : Int32)) = (1 : Int32) then
some (1 : Int32)
else
some (0 : Int32)
def f_X0_weightOf_4 (σ : mS) : Nat → Nat → Int32 → Int32 → Int32 → Option Int32
  | 0, _, _, _, _ => none
  | n + 1, h0, x1, x2, x3 =>
    if (10 : Int32) ≤ x3 then
    some x2
    else
    if ((x1 >>> (x3 &&& 31)) &&& (1 : Int32)) = (1 : Int32) then
    (gR (σ) h0 0 0).bind fun r13 =>
    (aI (σ) r13 x3).bind fun v14 =>
    vl (x2 + v14) fun v15 =>
    vl (x3 + (1 : Int32)) fun v16 =>
    f_X0_weightOf_4 σ n h0 x1 v15 v16
    else
    vl (x2 + (0 : Int32)) fun v11 =>
    vl (x3 + (1 : Int32)) fun v12 =>
    f_X0_weightOf_4 σ n h0 x1 v11 v12
def f_X0_weightOf (h0 : Nat) (x1 : Int32) (σ : mS) : Option Int32 :=
f_X0_weightOf_4 σ fU h0 x1 (0 : Int32) (0 : Int32)
def f_X0_verdict (h0 : Nat) (σ : mS) : Option Int32 :=
(gI (σ) h0 0 11).bind fun v4 =>
if isO (σ) h0 0 = true then
(f_X0_weightOf h0 v4 (σ)).bind fun q6 =>
some q6 else none
def f_X0_lies (h0 : Nat) (x1 : Int32) (σ : mS) : Option Int32 :=
if (f_X5_isBelow x1 (8 : Int32)) = 0 then
some (0 : Int32)
else
(gR (σ) h0 0 7).bind fun r6 =>
(aI (σ) r6 x1).bind fun v7 =>
if v7 = (-1 : Int32) then
some (0 : Int32)
else
some (1 : Int32)
def f_X0_lying_4 (σ : mS) : Nat → Nat → Int32 → Int32 → Option Int32
  | 0, _, _, _ => none
  | n + 1, h0, x1, x2 =>
    if (8 : Int32) ≤ x2 then
    some x1
    else
    (gR (σ) h0 0 7).bind fun r9 =>
    (aI (σ) r9 x2).bind fun v10 =>
    vl (if v10 = (-1 : Int32) then (0 : Int32) else (1 : Int32)) fun v12 =>
    vl (x1 + v12) fun v13 =>
    vl (x2 + (1 : Int32)) fun v14 =>
    f_X0_lying_4 σ n h0 v13 v14
def f_X0_lying (h0 : Nat) (σ : mS) : Option Int32 :=
f_X0_lying_4 σ fU h0 (0 : Int32) (0 : Int32)
def f_X0_linensOf_4 (σ : mS) : Nat → Nat → Int32 → Int32 → Int32 → Option Int32
  | 0, _, _, _, _ => none
  | n + 1, h0, x1, x2, x3 =>
    if (8 : Int32) ≤ x3 then
    some x2
    else
    (gR (σ) h0 0 7).bind fun r9 =>
    (aI (σ) r9 x3).bind fun v10 =>
    vl (if v10 = x1 then ((1 : Int32) <<< (x3 &&& 31)) else (0 : Int32)) fun v12 =>
    vl (x2 ||| v12) fun v13 =>
    vl (x3 + (1 : Int32)) fun v14 =>
    f_X0_linensOf_4 σ n h0 x1 v13 v14
def f_X0_linensOf (h0 : Nat) (x1 : Int32) (σ : mS) : Option Int32 :=
f_X0_linensOf_4 σ fU h0 x1 (0 : Int32) (0 : Int32)
def f_J6_bitCount (x0 : Int32) : Int32 :=
vl (x0 - ((x0.toUInt32 >>> ((1 : Int32).toUInt32 &&& Int32.toUInt32 31)).toInt32 &&& (1431655765 : Int32))) fun v6 =>
vl ((v6 &&& (858993459 : Int32)) + ((v6.toUInt32 >>> ((2 : Int32).toUInt32 &&& Int32.toUInt32 31)).toInt32 &&& (858993459 : Int32))) fun v7 =>
vl ((v7 + (v7.toUInt32 >>> ((4 : Int32).toUInt32 &&& Int32.toUInt32 31)).toInt32) &&& (252645135 : Int32)) fun v8 =>
vl (v8 + (v8.toUInt32 >>> ((8 : Int32).toUInt32 &&& Int32.toUInt32 31)).toInt32) fun v9 =>
vl (v9 + (v9.toUInt32 >>> ((16 : Int32).toUInt32 &&& Int32.toUInt32 31)).toInt32) fun v10 =>
(v10 &&& (63 : Int32))
def f_X0_named (h0 : Nat) (x1 : Int32) (x2 : Int32) (σ : mS) : Option Int32 :=
if x1 = (-5 : Int32) then
(gI (σ) h0 0 11).bind fun v17 =>
some (f_J6_bitCount v17)
else if x1 = (-4 : Int32) then
if isO (σ) h0 0 = true then
(f_X0_lying h0 (σ)).bind fun q20 =>
some q20 else none
else if x1 = (-3 : Int32) then
(gI (σ) h0 0 12).bind fun v22 =>
some v22
else if x1 = (-2 : Int32) then
(gR (σ) h0 0 4).bind fun r24 =>
(aI (σ) r24 x2).bind fun v25 =>
some (f_J6_bitCount v25)
else if x1 = (-1 : Int32) then
(gR (σ) h0 0 5).bind fun r27 =>
(aI (σ) r27 x2).bind fun v28 =>
some v28
else 
(gR (σ) h0 0 3).bind fun r29 =>
(aI (σ) r29 x2).bind fun v30 =>
some v30
def f_X2_truth (x0 : Int32) : Int32 :=
if x0 = 0 then
(0 : Int32)
else
(1 : Int32)
def f_X2_joined (x0 : Int32) (x1 : Int32) (x2 : Int32) : Int32 :=
if x0 = (-14 : Int32) then
vl (if x1 = 0 then (0 : Int32) else if x2 = 0 then (0 : Int32) else (1 : Int32)) fun v20 =>
(f_X2_truth v20)
else if x0 = (-13 : Int32) then
vl (if x1 = x2 then (1 : Int32) else (0 : Int32)) fun v23 =>
(f_X2_truth v23)
else if x0 = (-12 : Int32) then
vl (if x2 ≤ x1 then (0 : Int32) else (1 : Int32)) fun v26 =>
(f_X2_truth v26)
else if x0 = (-11 : Int32) then
(x1 * x2)
else if x0 = (-10 : Int32) then
(x1 - x2)
else if x0 = (-9 : Int32) then
(x1 + x2)
else 
vl (if x1 = 0 then if x2 = 0 then (0 : Int32) else (1 : Int32) else (1 : Int32)) fun v32 =>
(f_X2_truth v32)
def f_X5_bounded (x0 : Int32) (x1 : Int32) (x2 : Int32) : Int32 :=
(if x1 < (if x0 < x2 then x0 else x2) then (if x0 < x2 then x0 else x2) else x1)
def f_X2_says_121 (k69 : Nat → Int32 → Nat → Int32 → Nat → Int32 → Int32 → Int32 → mS → Option (Int32 × mS)) (h0 : Nat) (x1 : Int32) (h2 : Nat) (x3 : Int32) (h4 : Nat) (x6 : Int32) (x7 : Int32) (x8 : Int32) (s0 : Nat) (s1 : Int32) (s2 : Int32) (σ : mS) : Option (Int32 × mS) :=
(sI (σ) s0 s1 s2).bind fun t44 =>
vl (x7 + (1 : Int32)) fun v45 =>
vl (x8 + (1 : Int32)) fun v46 =>
k69 h0 x1 h2 x3 h4 x6 v45 v46 t44
def f_X2_says_183 (k69 : Nat → Int32 → Nat → Int32 → Nat → Int32 → Int32 → Int32 → mS → Option (Int32 × mS)) (h0 : Nat) (x1 : Int32) (h2 : Nat) (x3 : Int32) (h4 : Nat) (x6 : Int32) (x7 : Int32) (x8 : Int32) (s0 : Nat) (s1 : Int32) (s2 : Int32) (σ : mS) : Option (Int32 × mS) :=
(sI (σ) s0 s1 s2).bind fun t47 =>
vl (x8 + (1 : Int32)) fun v48 =>
k69 h0 x1 h2 x3 h4 x6 x7 v48 t47
def f_X2_says_187 (k69 : Nat → Int32 → Nat → Int32 → Nat → Int32 → Int32 → Int32 → mS → Option (Int32 × mS)) (h0 : Nat) (x1 : Int32) (h2 : Nat) (x3 : Int32) (h4 : Nat) (x6 : Int32) (x7 : Int32) (x8 : Int32) (x9 : Int32) (σ : mS) : Option (Int32 × mS) :=
if x7 < (2 : Int32) then
vl (x8 + (1 : Int32)) fun v50 =>
k69 h0 x1 h2 x3 h4 x6 x7 v50 (σ)
else
(aI (σ) h4 (x7 - (2 : Int32))).bind fun v51 =>
(aI (σ) h4 (x7 - (1 : Int32))).bind fun v52 =>
(sI (σ) h4 (x7 - (2 : Int32)) (f_X2_joined x9 v51 v52)).bind fun t53 =>
vl (x7 + (-1 : Int32)) fun v54 =>
vl (x8 + (1 : Int32)) fun v55 =>
k69 h0 x1 h2 x3 h4 x6 v54 v55 t53
def f_X2_says_69 (k228 : Int32 → Nat → Int32 → mS → Option (Int32 × mS)) : Nat → Nat → Int32 → Nat → Int32 → Nat → Int32 → Int32 → Int32 → mS → Option (Int32 × mS)
  | 0, _, _, _, _, _, _, _, _, _ => none
  | n + 1, h0, x1, h2, x3, h4, x6, x7, x8, σ =>
    if x6 ≤ x8 then
    k228 x1 h4 x7 (σ)
    else
    (aL (σ) h4).bind fun v57 =>
    if v57 ≤ x7 then
    k228 x1 h4 x7 (σ)
    else
    (gR (σ) h0 1 1).bind fun r59 =>
    (aI (σ) r59 x8).bind fun v60 =>
    if v60 < (-6 : Int32) then
    if v60 < (-8 : Int32) then
    f_X2_says_187 (f_X2_says_69 k228 n) h0 x1 h2 x3 h4 x6 x7 x8 v60 (σ)
    else
    if x7 < (1 : Int32) then
    f_X2_says_187 (f_X2_says_69 k228 n) h0 x1 h2 x3 h4 x6 x7 x8 v60 (σ)
    else
    if v60 = (-7 : Int32) then
    (aI (σ) h4 (x7 - (1 : Int32))).bind fun v68 =>
    f_X2_says_183 (f_X2_says_69 k228 n) h0 x1 h2 x3 h4 x6 x7 x8 h4 (x7 - (1 : Int32)) (-v68) (σ)
    else
    (aI (σ) h4 (x7 - (1 : Int32))).bind fun v65 =>
    vl (if v65 = 0 then (1 : Int32) else (0 : Int32)) fun v67 =>
    f_X2_says_183 (f_X2_says_69 k228 n) h0 x1 h2 x3 h4 x6 x7 x8 h4 (x7 - (1 : Int32)) (f_X2_truth v67) (σ)
    else
    if v60 < 0 then
    if isO (σ) h2 0 = true then
    (f_X0_named h2 v60 x3 (σ)).bind fun q71 =>
    f_X2_says_121 (f_X2_says_69 k228 n) h0 x1 h2 x3 h4 x6 x7 x8 h4 x7 q71 (σ) else none
    else
    f_X2_says_121 (f_X2_says_69 k228 n) h0 x1 h2 x3 h4 x6 x7 x8 h4 x7 v60 (σ)
def f_X2_says_241 (x1 : Int32) (s0 : Int32) (σ : mS) : Option (Int32 × mS) :=
vl (if x1 = (2 : Int32) then (-99 : Int32) else (0 : Int32)) fun v73 =>
some ((f_X5_bounded s0 v73 (99 : Int32)), σ)
def f_X2_says_228 (x1 : Int32) (h4 : Nat) (x7 : Int32) (σ : mS) : Option (Int32 × mS) :=
if x7 ≤ 0 then
f_X2_says_241 x1 (0 : Int32) (σ)
else
(aI (σ) h4 (0 : Int32)).bind fun v75 =>
f_X2_says_241 x1 v75 (σ)
def f_X2_says_30 (h0 : Nat) (x1 : Int32) (h2 : Nat) (x3 : Int32) (h4 : Nat) (s0 : Int32) (σ : mS) : Option (Int32 × mS) :=
if x1 = 0 then
(gI (σ) h0 1 2).bind fun v81 =>
f_X2_says_69 (f_X2_says_228) fU h0 x1 h2 x3 h4 v81 (0 : Int32) s0 (σ)
else
if x1 = (1 : Int32) then
(gI (σ) h0 1 3).bind fun v80 =>
f_X2_says_69 (f_X2_says_228) fU h0 x1 h2 x3 h4 v80 (0 : Int32) s0 (σ)
else
(gR (σ) h0 1 1).bind fun r78 =>
(aL (σ) r78).bind fun v79 =>
f_X2_says_69 (f_X2_says_228) fU h0 x1 h2 x3 h4 v79 (0 : Int32) s0 (σ)
def f_X2_says (h0 : Nat) (x1 : Int32) (h2 : Nat) (x3 : Int32) (σ : mS) : Option (Int32 × mS) :=
(gR (σ) h2 0 10).bind fun r82 =>
if x1 = 0 then
f_X2_says_30 h0 x1 h2 x3 r82 (0 : Int32) (σ)
else
if x1 = (1 : Int32) then
(gI (σ) h0 1 2).bind fun v86 =>
f_X2_says_30 h0 x1 h2 x3 r82 v86 (σ)
else
(gI (σ) h0 1 3).bind fun v85 =>
f_X2_says_30 h0 x1 h2 x3 r82 v85 (σ)
def f_X1_ladyLooks (x0 : Int32) (x1 : Int32) (x2 : Int32) : Int32 :=
if x2 = (x1 - x1 / (6 : Int32) * (6 : Int32)) then
(99 : Int32)
else
x0
def f_X1_looksOf (x0 : Int32) (x1 : Int32) (x2 : Int32) (x3 : Int32) : Option Int32 :=
if x0 = (1 : Int32) then
some (f_X1_ladyLooks x1 x2 x3)
else if x0 = (2 : Int32) then
some (x1 - ((5 : Int32) * x2))
else if x0 = (3 : Int32) then
vl (if (x3 - x3 / (2 : Int32) * (2 : Int32)) = 0 then (2 : Int32) else (1 : Int32)) fun v13 =>
if v13 = 0 then none else
some ((f_X1_ladyLooks x1 x2 x3) / v13)
else if x0 = (4 : Int32) then
some (x1 - ((5 : Int32) * x2))
else if x0 = (5 : Int32) then
some (0 : Int32)
else 
some x1
def f_X0_looks (h0 : Nat) (x1 : Int32) (x2 : Int32) (σ : mS) : Option (Int32 × mS) :=
(gR (σ) h0 0 14).bind fun r9 =>
if isO (σ) r9 1 = true then
(f_X2_says r9 (0 : Int32) h0 x1 (σ)).bind fun q11 =>
(gR q11.2 h0 0 2).bind fun r12 =>
(aI q11.2 r12 x1).bind fun v13 =>
(gR q11.2 h0 0 3).bind fun r14 =>
(aI q11.2 r14 x1).bind fun v15 =>
(f_X1_looksOf v13 q11.1 v15 x2).bind fun q16 =>
some ((f_X5_bounded q16 (0 : Int32) (99 : Int32)), q11.2) else none
def f_X1_waitsOf (x0 : Int32) (x1 : Int32) (x2 : Int32) (x3 : Int32) : Int32 :=
if x0 = (1 : Int32) then
(x1 / (2 : Int32))
else if x0 = (2 : Int32) then
x1
else if x0 = (3 : Int32) then
if (x3 - x3 / (5 : Int32) * (5 : Int32)) = 0 then
(99 : Int32)
else
((x1 / (2 : Int32)) + x2)
else if x0 = (4 : Int32) then
(x1 * (2 : Int32))
else if x0 = (5 : Int32) then
((1 : Int32) + x2)
else 
x1
def f_X0_waits (h0 : Nat) (x1 : Int32) (σ : mS) : Option (Int32 × mS) :=
(gR (σ) h0 0 14).bind fun r9 =>
if isO (σ) r9 1 = true then
(f_X2_says r9 (1 : Int32) h0 x1 (σ)).bind fun q11 =>
(gR q11.2 h0 0 2).bind fun r12 =>
(aI q11.2 r12 x1).bind fun v13 =>
(gR q11.2 h0 0 3).bind fun r14 =>
(aI q11.2 r14 x1).bind fun v15 =>
(gI q11.2 h0 0 12).bind fun v16 =>
some ((f_X5_bounded (f_X1_waitsOf v13 q11.1 v15 v16) (1 : Int32) (99 : Int32)), q11.2) else none
def f_J9_floorMod (x0 : Int32) (x1 : Int32) : Option Int32 :=
if x1 = 0 then none else
vl (x0 - x0 / x1 * x1) fun v6 =>
if 0 ≤ (x0 ^^^ x1) then
some v6
else
if v6 = 0 then
some v6
else
some (v6 + x1)
def f_X1_dropsOf (x0 : Int32) (x1 : Int32) (x2 : Int32) (x3 : Int32) : Option Int32 :=
if (1 : Int32) ≤ x3 then
(f_J9_floorMod x1 x3).bind fun q7 =>
if x0 = (2 : Int32) then
some ((x3 - (1 : Int32)) - q7)
else if x0 = (4 : Int32) then
if x3 = 0 then none else
some (if ((x3 - (1 : Int32)) - q7) < (x2 - x2 / x3 * x3) then (x2 - x2 / x3 * x3) else ((x3 - (1 : Int32)) - q7))
else 
some q7
else
some (0 : Int32)
def f_X0_drops_46 : Nat → Nat → Int32 → Int32 → Int32 → mS → Option (Int32 × mS)
  | 0, _, _, _, _, _ => none
  | n + 1, h0, x1, x3, x4, σ =>
    if (10 : Int32) ≤ x4 then
    some ((-1 : Int32), σ)
    else
    (gR (σ) h0 0 4).bind fun r22 =>
    (aI (σ) r22 x1).bind fun v23 =>
    if ((v23 >>> (x4 &&& 31)) &&& (1 : Int32)) = (1 : Int32) then
    if x3 = 0 then
    some (x4, σ)
    else
    vl (x3 + (-1 : Int32)) fun v27 =>
    vl (x4 + (1 : Int32)) fun v28 =>
    f_X0_drops_46 n h0 x1 v27 v28 (σ)
    else
    vl (x4 + (1 : Int32)) fun v25 =>
    f_X0_drops_46 n h0 x1 x3 v25 (σ)
def f_X0_drops (h0 : Nat) (x1 : Int32) (σ : mS) : Option (Int32 × mS) :=
(gR (σ) h0 0 4).bind fun r29 =>
(aI (σ) r29 x1).bind fun v30 =>
vl (f_J6_bitCount v30) fun v31 =>
if v31 = 0 then
some ((-1 : Int32), σ)
else
(gR (σ) h0 0 2).bind fun r33 =>
(aI (σ) r33 x1).bind fun v34 =>
(gR (σ) h0 0 14).bind fun r35 =>
if isO (σ) r35 1 = true then
(f_X2_says r35 (2 : Int32) h0 x1 (σ)).bind fun q37 =>
(gR q37.2 h0 0 3).bind fun r38 =>
(aI q37.2 r38 x1).bind fun v39 =>
(f_X1_dropsOf v34 q37.1 v39 v31).bind fun q40 =>
f_X0_drops_46 fU h0 x1 q40 (0 : Int32) q37.2 else none
def f_X0_stoops (h0 : Nat) (x1 : Int32) (x2 : Int32) (σ : mS) : Option (Int32 × mS) :=
(gR (σ) h0 0 1).bind fun r6 =>
(aI (σ) r6 x1).bind fun v7 =>
if isO (σ) h0 0 = true then
(f_X0_looks h0 x2 x1 (σ)).bind fun q9 =>
if (v7 + q9.1) < (100 : Int32) then
some ((0 : Int32), q9.2)
else
some ((1 : Int32), q9.2) else none
def f_X0_stooping_4 : Nat → Nat → Int32 → Int32 → Int32 → mS → Option (Int32 × mS)
  | 0, _, _, _, _, _ => none
  | n + 1, h0, x1, x2, x3, σ =>
    if (6 : Int32) ≤ x3 then
    some (x2, σ)
    else
    if isO (σ) h0 0 = true then
    (f_X0_stoops h0 x3 x1 (σ)).bind fun q10 =>
    vl (if q10.1 = 0 then (0 : Int32) else ((1 : Int32) <<< (x3 &&& 31))) fun v12 =>
    vl (x2 ||| v12) fun v13 =>
    vl (x3 + (1 : Int32)) fun v14 =>
    f_X0_stooping_4 n h0 x1 v13 v14 q10.2 else none
def f_X0_stooping (h0 : Nat) (x1 : Int32) (σ : mS) : Option (Int32 × mS) :=
f_X0_stooping_4 fU h0 x1 (0 : Int32) (0 : Int32) (σ)
def f_X0_canLetFall (h0 : Nat) (x1 : Int32) (σ : mS) : Option Int32 :=
(gR (σ) h0 0 4).bind fun r7 =>
(aI (σ) r7 x1).bind fun v8 =>
if v8 = 0 then
some (0 : Int32)
else
if isO (σ) h0 0 = true then
(f_X0_lying h0 (σ)).bind fun q11 =>
if (8 : Int32) ≤ q11 then
some (0 : Int32)
else
some (1 : Int32) else none
def f_X0_letFall_15 : Nat → Nat → Int32 → Int32 → Int32 → Int32 → mS → Option (Int32 × mS)
  | 0, _, _, _, _, _, _ => none
  | n + 1, h0, x1, x2, x3, x4, σ =>
    if (8 : Int32) ≤ x4 then
    some ((-1 : Int32), σ)
    else
    if x2 = (-1 : Int32) then
    some ((-1 : Int32), σ)
    else
    (gR (σ) h0 0 7).bind fun r19 =>
    (aI (σ) r19 x4).bind fun v20 =>
    if v20 = (-1 : Int32) then
    (gR (σ) h0 0 7).bind fun r23 =>
    (sI (σ) r23 x4 x1).bind fun t24 =>
    (gR t24 h0 0 8).bind fun r25 =>
    (sI t24 r25 x4 x2).bind fun t26 =>
    (gR t26 h0 0 9).bind fun r27 =>
    (sI t26 r27 x4 x3).bind fun t28 =>
    some (x4, t28)
    else
    vl (x4 + (1 : Int32)) fun v22 =>
    f_X0_letFall_15 n h0 x1 x2 x3 v22 (σ)
def f_X0_letFall (h0 : Nat) (x1 : Int32) (σ : mS) : Option (Int32 × mS) :=
if isO (σ) h0 0 = true then
(f_X0_drops h0 x1 (σ)).bind fun q30 =>
if isO q30.2 h0 0 = true then
(f_X0_waits h0 x1 q30.2).bind fun q32 =>
f_X0_letFall_15 fU h0 x1 q30.1 q32.1 (0 : Int32) q32.2 else none else none
def f_X0_fade (h0 : Nat) (x1 : Int32) (x2 : Int32) (σ : mS) : Option mS :=
(gR (σ) h0 0 9).bind fun r13 =>
(aI (σ) r13 x1).bind fun v14 =>
(sI (σ) r13 x1 (v14 - (1 : Int32))).bind fun t15 =>
(gR t15 h0 0 9).bind fun r16 =>
(aI t15 r16 x1).bind fun v17 =>
if v17 = 0 then
(gR t15 h0 0 7).bind fun r19 =>
(sI t15 r19 x1 (-1 : Int32)).bind fun t20 =>
(gR t20 h0 0 6).bind fun r21 =>
(gR t20 h0 0 6).bind fun r22 =>
(aI t20 r22 x2).bind fun v23 =>
(sI t20 r21 x2 (if (v23 + (1 : Int32)) < (99 : Int32) then (v23 + (1 : Int32)) else (99 : Int32))).bind fun t24 =>
some t24
else
some t15
def f_X0_passHours_105 (k21 : Nat → Int32 → Int32 → Int32 → Int32 → Int32 → mS → Option (Int32 × mS)) (h0 : Nat) (x1 : Int32) (x2 : Int32) (x3 : Int32) (x4 : Int32) (x5 : Int32) (x6 : Int32) (σ : mS) : Option (Int32 × mS) :=
if x6 = (-1 : Int32) then
vl (x5 + (1 : Int32)) fun v32 =>
k21 h0 x1 x2 x3 x4 v32 (σ)
else
if isO (σ) h0 0 = true then
(f_X0_fade h0 x5 x6 (σ)).bind fun q34 =>
vl (x5 + (1 : Int32)) fun v35 =>
k21 h0 x1 x2 x3 x4 v35 q34 else none
def f_X0_passHours_21 (k4 : Nat → Int32 → Int32 → Int32 → mS → Option (Int32 × mS)) : Nat → Nat → Int32 → Int32 → Int32 → Int32 → Int32 → mS → Option (Int32 × mS)
  | 0, _, _, _, _, _, _, _ => none
  | n + 1, h0, x1, x2, x3, x4, x5, σ =>
    if (8 : Int32) ≤ x5 then
    (gI (σ) h0 0 12).bind fun v37 =>
    (pI (σ) h0 0 12 (v37 + (1 : Int32))).bind fun t38 =>
    vl (x3 + (1 : Int32)) fun v39 =>
    k4 h0 x1 x2 v39 t38
    else
    (gR (σ) h0 0 7).bind fun r40 =>
    (aI (σ) r40 x5).bind fun v41 =>
    if v41 = (-1 : Int32) then
    f_X0_passHours_105 (f_X0_passHours_21 k4 n) h0 x1 x2 x3 x4 x5 v41 (σ)
    else
    (gR (σ) h0 0 1).bind fun r43 =>
    (aI (σ) r43 x4).bind fun v44 =>
    if isO (σ) h0 0 = true then
    (f_X0_looks h0 v41 x4 (σ)).bind fun q46 =>
    if (v44 + q46.1) < (100 : Int32) then
    f_X0_passHours_105 (f_X0_passHours_21 k4 n) h0 x1 x2 x3 x4 x5 v41 q46.2
    else
    (gR q46.2 h0 0 8).bind fun r48 =>
    (aI q46.2 r48 x5).bind fun v49 =>
    vl (x2 ||| ((1 : Int32) <<< (v49 &&& 31))) fun v50 =>
    (gI q46.2 h0 0 11).bind fun v51 =>
    (gR q46.2 h0 0 8).bind fun r52 =>
    (aI q46.2 r52 x5).bind fun v53 =>
    (pI q46.2 h0 0 11 (v51 ||| ((1 : Int32) <<< (v53 &&& 31)))).bind fun t54 =>
    (gR t54 h0 0 7).bind fun r55 =>
    (sI t54 r55 x5 (-1 : Int32)).bind fun t56 =>
    vl (x5 + (1 : Int32)) fun v57 =>
    f_X0_passHours_21 k4 n h0 x1 v50 x3 x4 v57 t56 else none
def f_X0_passHours_4 : Nat → Nat → Int32 → Int32 → Int32 → mS → Option (Int32 × mS)
  | 0, _, _, _, _, _ => none
  | n + 1, h0, x1, x2, x3, σ =>
    if x1 ≤ x3 then
    some (x2, σ)
    else
    (gI (σ) h0 0 12).bind fun v59 =>
    vl (v59 - v59 / (6 : Int32) * (6 : Int32)) fun v60 =>
    f_X0_passHours_21 (f_X0_passHours_4 n) fU h0 x1 x2 x3 v60 (0 : Int32) (σ)
def f_X0_passHours (h0 : Nat) (x1 : Int32) (σ : mS) : Option (Int32 × mS) :=
f_X0_passHours_4 fU h0 x1 (0 : Int32) (0 : Int32) (σ)
def f_X1_isOne (x0 : Int32) (x1 : Int32) : Int32 :=
vl (if x0 = (3 : Int32) then (1 : Int32) else if x0 = (4 : Int32) then (2 : Int32) else (0 : Int32)) fun v9 =>
if x0 = x1 then
(1 : Int32)
else
if v9 = x1 then
(1 : Int32)
else
if x1 = 0 then
(1 : Int32)
else
(0 : Int32)
def f_X2_init (h0 : Nat) (x1 : Int32) (h2 : Nat) (x3 : Int32) (x4 : Int32) (σ : mS) : Option mS :=
(pI (σ) h0 1 0 x1).bind fun t5 =>
(pR t5 h0 1 1 h2).bind fun t6 =>
(pI t6 h0 1 2 x3).bind fun t7 =>
(pI t7 h0 1 3 x4).bind fun t8 =>
some t8
def f_X3_init (h0 : Nat) (σ : mS) : Option mS :=
vl (nI_ (σ) 40) fun t5 =>
vl (σ).1 fun r6 =>
(pR t5 h0 2 0 r6).bind fun t7 =>
(pI t7 h0 2 1 (-1 : Int32)).bind fun t8 =>
some t8
def f_X3_isMissing (h0 : Nat) (σ : mS) : Option Int32 :=
(gI (σ) h0 2 1).bind fun v3 =>
if v3 = (-1 : Int32) then
some (1 : Int32)
else
some (0 : Int32)
def f_X3_begin (h0 : Nat) (x1 : Int32) (x2 : Int32) (σ : mS) : Option mS :=
(pI (σ) h0 2 1 x1).bind fun t5 =>
(pI t5 h0 2 2 x2).bind fun t6 =>
(gR t6 h0 2 0).bind fun r7 =>
(f_J7_fill r7 (0 : Int32) t6).bind fun q8 =>
some q8
def f_X3_become_31 (s0 : Nat) (s1 : Int32) (s2 : Int32) (σ : mS) : Option mS :=
(sI (σ) s0 s1 s2).bind fun t8 =>
some t8
def f_X3_become (h0 : Nat) (x1 : Int32) (x2 : Int32) (σ : mS) : Option mS :=
(gR (σ) h0 2 0).bind fun r9 =>
(gI (σ) h0 2 1).bind fun v10 =>
if v10 = 0 then
f_X3_become_31 r9 x1 x2.toInt8.toInt32 (σ)
else
(gI (σ) h0 2 1).bind fun v12 =>
vl (if v12 = (1 : Int32) then x2.toInt16.toInt32 else x2) fun v14 =>
f_X3_become_31 r9 x1 v14 (σ)
def f_X3_has (h0 : Nat) (x1 : Int32) (x2 : Int32) (σ : mS) : Option Int32 :=
if x1 < 0 then
some (0 : Int32)
else
if x2 < 0 then
some (0 : Int32)
else
(gI (σ) h0 2 2).bind fun v7 =>
if (v7 - x2) < x1 then
some (0 : Int32)
else
some (1 : Int32)
def bK (k : Nat) (i : Int32) : Option Int32 := if i < 0 ∨ ([8, 65] : List Nat).getD k 0 ≤ i.toNatClampNeg then none else some ((mTb k).getD i.toNatClampNeg 0)
def f_J3_checkIndex (x0 : Int32) (x1 : Int32) : Option Int32 :=
if x0 < 0 then
none
else
if x0 < x1 then
some x0
else
none
def f_J0_checkIndex (x0 : Int32) (x1 : Int32) : Option Unit :=
(f_J3_checkIndex x0 x1).bind fun q2 =>
some ()
def f_J1_canEncode (x0 : Int32) : Int32 :=
if x0 < 0 then
(0 : Int32)
else
if (255 : Int32) < x0 then
(0 : Int32)
else
(1 : Int32)
def f_J0_coder_k0 : Int32 :=
(0 : Int32)
theorem e_f_J0_coder_k0 : f_J0_coder_k0 = (0 : Int32) := by decide
def f_J0_coder_k1 : Int32 :=
(0 : Int32)
theorem e_f_J0_coder_k1 : f_J0_coder_k1 = (0 : Int32) := by decide
def f_J0_isLatin1_k0 : Int32 :=
(1 : Int32)
theorem e_f_J0_isLatin1_k0 : f_J0_isLatin1_k0 = (1 : Int32) := by decide
def f_J0_isLatin1_k1 : Int32 :=
(1 : Int32)
theorem e_f_J0_isLatin1_k1 : f_J0_isLatin1_k1 = (1 : Int32) := by decide
def f_J0_length_k0 : Int32 :=
((8 : Int32) >>> ((0 : Int32) &&& 31))
theorem e_f_J0_length_k0 : f_J0_length_k0 = (8 : Int32) := by decide
def f_J0_length_k1 : Int32 :=
((65 : Int32) >>> ((0 : Int32) &&& 31))
theorem e_f_J0_length_k1 : f_J0_length_k1 = (65 : Int32) := by decide
def f_J1_charAt_k1 (x1 : Int32) : Option Int32 :=
(f_J0_checkIndex x1 (65 : Int32)).bind fun q3 =>
(bK 1 x1).bind fun v4 =>
some (((v4 &&& (255 : Int32)).toUInt32 % 65536).toInt32)
def f_J0_charAt_k1 (x1 : Int32) : Option Int32 :=
(f_J1_charAt_k1 x1).bind fun q5 =>
if (q5.toUInt32 % 65536).toInt32 = q5 then some q5 else none
def f_J1_indexOfChar_k0_7 : Nat → Int32 → Int32 → Int32 → Option Int32
  | 0, _, _, _ => none
  | n + 1, x3, x4, x5 =>
    if x3 ≤ x5 then
    some (-1 : Int32)
    else
    (bK 0 x5).bind fun v6 =>
    if v6 = x4 then
    some x5
    else
    vl (x5 + (1 : Int32)) fun v8 =>
    f_J1_indexOfChar_k0_7 n x3 x4 v8
def f_J1_indexOfChar_k0 (x1 : Int32) (x2 : Int32) (x3 : Int32) : Option Int32 :=
f_J1_indexOfChar_k0_7 fU x3 x1.toInt8.toInt32 x2
def f_J1_indexOf_k0 (x1 : Int32) (x2 : Int32) (x3 : Int32) : Option Int32 :=
if (f_J1_canEncode x1) = 0 then
some (-1 : Int32)
else
vl (if x2 < (0 : Int32) then (0 : Int32) else x2) fun v7 =>
vl (if (8 : Int32) < x3 then (8 : Int32) else x3) fun v8 =>
if v7 < v8 then
(f_J1_indexOfChar_k0 x1 v7 v8).bind fun q10 =>
some q10
else
some (-1 : Int32)
def f_J0_indexOf2_k0 (x1 : Int32) (x2 : Int32) : Option Int32 :=
(f_J1_indexOf_k0 x1 x2 (8 : Int32)).bind fun q4 =>
some q4
def f_J0_indexOf_k0 (x1 : Int32) : Option Int32 :=
(f_J0_indexOf2_k0 x1 (0 : Int32)).bind fun q2 =>
some q2
def f_X4_init (h0 : Nat) (σ : mS) : Option mS :=
vl (nI_ (σ) 160) fun t10 =>
vl (σ).1 fun r11 =>
(pR t10 h0 3 0 r11).bind fun t12 =>
vl (nI_ t12 160) fun t13 =>
vl t12.1 fun r14 =>
(pR t13 h0 3 1 r14).bind fun t15 =>
vl (nI_ t15 3) fun t16 =>
vl t15.1 fun r17 =>
(pR t16 h0 3 2 r17).bind fun t18 =>
some t18
def f_X4_append (h0 : Nat) (x1 : Int32) (σ : mS) : Option mS :=
(gI (σ) h0 3 3).bind fun v10 =>
(gR (σ) h0 3 0).bind fun r11 =>
(aL (σ) r11).bind fun v12 =>
if v12 ≤ v10 then
some (σ)
else
(gR (σ) h0 3 0).bind fun r14 =>
(gI (σ) h0 3 3).bind fun v15 =>
(sI (σ) r14 v15 x1).bind fun t16 =>
(gI t16 h0 3 3).bind fun v17 =>
(pI t16 h0 3 3 (v17 + (1 : Int32))).bind fun t18 =>
some t18
def f_X4_isLetter (x0 : Int32) : Int32 :=
if x0 < (97 : Int32) then
(0 : Int32)
else
if (122 : Int32) < x0 then
(0 : Int32)
else
(1 : Int32)
def f_X4_wordNumber_51 (σ : mS) (k11 : Nat → Int32 → Int32 → Int32 → Int32 → Int32 → Int32 → Option Int32) (h0 : Nat) (x1 : Int32) (x2 : Int32) (x3 : Int32) (x6 : Int32) : Option Int32 :=
vl (x3 + (1 : Int32)) fun v19 =>
vl (x6 + (1 : Int32)) fun v20 =>
k11 h0 x1 x2 v19 (0 : Int32) (0 : Int32) v20
def f_X4_wordNumber_11 (σ : mS) : Nat → Nat → Int32 → Int32 → Int32 → Int32 → Int32 → Int32 → Option Int32
  | 0, _, _, _, _, _, _, _ => none
  | n + 1, h0, x1, x2, x3, x4, x5, x6 =>
    if (65 : Int32) ≤ x6 then
    some (-1 : Int32)
    else
    (f_J0_charAt_k1 x6).bind fun q22 =>
    if q22 = (32 : Int32) then
    if x4 = x2 then
    if x5 = x2 then
    some x3
    else
    f_X4_wordNumber_51 σ (f_X4_wordNumber_11 σ n) h0 x1 x2 x3 x6
    else
    f_X4_wordNumber_51 σ (f_X4_wordNumber_11 σ n) h0 x1 x2 x3 x6
    else
    if x2 ≤ x5 then
    vl (x4 + (0 : Int32)) fun v25 =>
    vl (x5 + (1 : Int32)) fun v26 =>
    vl (x6 + (1 : Int32)) fun v27 =>
    f_X4_wordNumber_11 σ n h0 x1 x2 x3 v25 v26 v27
    else
    (gR (σ) h0 3 0).bind fun r28 =>
    (aI (σ) r28 (x1 + x5)).bind fun v29 =>
    vl (if v29 = q22 then (1 : Int32) else (0 : Int32)) fun v31 =>
    vl (x4 + v31) fun v32 =>
    vl (x5 + (1 : Int32)) fun v33 =>
    vl (x6 + (1 : Int32)) fun v34 =>
    f_X4_wordNumber_11 σ n h0 x1 x2 x3 v32 v33 v34
def f_X4_wordNumber (h0 : Nat) (x1 : Int32) (x2 : Int32) (σ : mS) : Option Int32 :=
f_X4_wordNumber_11 σ fU h0 x1 x2 (0 : Int32) (0 : Int32) (0 : Int32) (0 : Int32)
def f_X4_readWord_0 (k39 : Nat → mS → Option mS) : Nat → Nat → mS → Option mS
  | 0, _, _ => none
  | n + 1, h0, σ =>
    (gI (σ) h0 3 4).bind fun v21 =>
    (gI (σ) h0 3 3).bind fun v22 =>
    if v22 ≤ v21 then
    k39 h0 (σ)
    else
    (gR (σ) h0 3 0).bind fun r24 =>
    (gI (σ) h0 3 4).bind fun v25 =>
    (aI (σ) r24 v25).bind fun v26 =>
    if (f_X4_isLetter v26) = 0 then
    k39 h0 (σ)
    else
    (gI (σ) h0 3 4).bind fun v28 =>
    (pI (σ) h0 3 4 (v28 + (1 : Int32))).bind fun t29 =>
    f_X4_readWord_0 k39 n h0 t29
def f_X4_readWord (h0 : Nat) (σ : mS) : Option mS :=
f_X4_readWord_0 (fun h0 σ => (gI (σ) h0 3 6).bind fun v30 =>
(gI (σ) h0 3 4).bind fun v31 =>
(gI (σ) h0 3 6).bind fun v32 =>
if isO (σ) h0 3 = true then
(f_X4_wordNumber h0 v30 (v31 - v32) (σ)).bind fun q34 =>
if q34 = (-1 : Int32) then
(pI (σ) h0 3 5 (1 : Int32)).bind fun t40 =>
some t40
else
if (6 : Int32) ≤ q34 then
(pI (σ) h0 3 5 (3 : Int32)).bind fun t37 =>
(pI t37 h0 3 7 ((-1 : Int32) - (q34 - (6 : Int32)))).bind fun t38 =>
some t38
else
(pI (σ) h0 3 5 ((4 : Int32) + q34)).bind fun t39 =>
some t39 else none) fU h0 (σ)
def f_X4_isDigit (x0 : Int32) : Int32 :=
if x0 < (48 : Int32) then
(0 : Int32)
else
if (57 : Int32) < x0 then
(0 : Int32)
else
(1 : Int32)
def f_X4_readNumber_66 (k7 : Nat → Int32 → mS → Option mS) (h0 : Nat) (x1 : Int32) (s0 : Nat) (s1 : Int32) (σ : mS) : Option mS :=
(pI (σ) s0 3 7 s1).bind fun t22 =>
vl (x1 + (1 : Int32)) fun v23 =>
(gI t22 h0 3 4).bind fun v24 =>
(pI t22 h0 3 4 (v24 + (1 : Int32))).bind fun t25 =>
k7 h0 v23 t25
def f_X4_readNumber_7 (k85 : Nat → Int32 → mS → Option mS) : Nat → Nat → Int32 → mS → Option mS
  | 0, _, _, _ => none
  | n + 1, h0, x1, σ =>
    (gI (σ) h0 3 4).bind fun v26 =>
    (gI (σ) h0 3 3).bind fun v27 =>
    if v27 ≤ v26 then
    k85 h0 x1 (σ)
    else
    (gR (σ) h0 3 0).bind fun r29 =>
    (gI (σ) h0 3 4).bind fun v30 =>
    (aI (σ) r29 v30).bind fun v31 =>
    if (f_X4_isDigit v31) = 0 then
    k85 h0 x1 (σ)
    else
    if (4 : Int32) ≤ x1 then
    (gI (σ) h0 3 7).bind fun v34 =>
    f_X4_readNumber_66 (f_X4_readNumber_7 k85 n) h0 x1 h0 v34 (σ)
    else
    (gI (σ) h0 3 7).bind fun v35 =>
    (gR (σ) h0 3 0).bind fun r36 =>
    (gI (σ) h0 3 4).bind fun v37 =>
    (aI (σ) r36 v37).bind fun v38 =>
    f_X4_readNumber_66 (f_X4_readNumber_7 k85 n) h0 x1 h0 (((v35 * (10 : Int32)) + v38) - (48 : Int32)) (σ)
def f_X4_readNumber (h0 : Nat) (σ : mS) : Option mS :=
(pI (σ) h0 3 7 (0 : Int32)).bind fun t39 =>
f_X4_readNumber_7 (fun h0 x1 σ => vl (if x1 ≤ (4 : Int32) then (2 : Int32) else (1 : Int32)) fun v41 =>
(pI (σ) h0 3 5 v41).bind fun t42 =>
some t42) fU h0 (0 : Int32) t39
def f_X4_advance_39 (k0 : Nat → mS → Option mS) (h0 : Nat) (σ : mS) : Option mS :=
(gI (σ) h0 3 4).bind fun v43 =>
(pI (σ) h0 3 4 (v43 + (1 : Int32))).bind fun t44 =>
k0 h0 t44
def f_X4_advance_0 (k52 : Nat → mS → Option mS) : Nat → Nat → mS → Option mS
  | 0, _, _ => none
  | n + 1, h0, σ =>
    (gI (σ) h0 3 4).bind fun v45 =>
    (gI (σ) h0 3 3).bind fun v46 =>
    if v46 ≤ v45 then
    k52 h0 (σ)
    else
    (gR (σ) h0 3 0).bind fun r48 =>
    (gI (σ) h0 3 4).bind fun v49 =>
    (aI (σ) r48 v49).bind fun v50 =>
    if v50 = (32 : Int32) then
    f_X4_advance_39 (f_X4_advance_0 k52 n) h0 (σ)
    else
    (gR (σ) h0 3 0).bind fun r52 =>
    (gI (σ) h0 3 4).bind fun v53 =>
    (aI (σ) r52 v53).bind fun v54 =>
    if v54 = (10 : Int32) then
    f_X4_advance_39 (f_X4_advance_0 k52 n) h0 (σ)
    else
    k52 h0 (σ)
def f_X4_advance_155 (h0 : Nat) (s0 : Nat) (s1 : Int32) (σ : mS) : Option mS :=
(pI (σ) s0 3 5 s1).bind fun t56 =>
(gI t56 h0 3 4).bind fun v57 =>
(pI t56 h0 3 4 (v57 + (1 : Int32))).bind fun t58 =>
some t58
def f_X4_advance (h0 : Nat) (σ : mS) : Option mS :=
f_X4_advance_0 (fun h0 σ => (gI (σ) h0 3 4).bind fun v59 =>
(pI (σ) h0 3 6 v59).bind fun t60 =>
(gI t60 h0 3 4).bind fun v61 =>
(gI t60 h0 3 3).bind fun v62 =>
if v61 < v62 then
(gR t60 h0 3 0).bind fun r64 =>
(gI t60 h0 3 4).bind fun v65 =>
(aI t60 r64 v65).bind fun v66 =>
if (f_X4_isLetter v66) = 0 then
(gR t60 h0 3 0).bind fun r68 =>
(gI t60 h0 3 4).bind fun v69 =>
(aI t60 r68 v69).bind fun v70 =>
if (f_X4_isDigit v70) = 0 then
(gR t60 h0 3 0).bind fun r72 =>
(gI t60 h0 3 4).bind fun v73 =>
(aI t60 r72 v73).bind fun v74 =>
(f_J0_indexOf_k0 ((v74.toUInt32 % 65536).toInt32)).bind fun q75 =>
if q75 < 0 then
f_X4_advance_155 h0 h0 (1 : Int32) t60
else
(gR t60 h0 3 0).bind fun r77 =>
(gI t60 h0 3 4).bind fun v78 =>
(aI t60 r77 v78).bind fun v79 =>
f_X4_advance_155 h0 h0 v79 t60
else
if isO t60 h0 3 = true then
(f_X4_readNumber h0 t60).bind fun q81 =>
some q81 else none
else
if isO t60 h0 3 = true then
(f_X4_readWord h0 t60).bind fun q83 =>
some q83 else none
else
(pI t60 h0 3 5 (0 : Int32)).bind fun t84 =>
some t84) fU h0 (σ)
def f_X4_isTaken (h0 : Nat) (x1 : Int32) (σ : mS) : Option (Int32 × mS) :=
(gI (σ) h0 3 5).bind fun v5 =>
if v5 = x1 then
if isO (σ) h0 3 = true then
(f_X4_advance h0 (σ)).bind fun q8 =>
some ((1 : Int32), q8) else none
else
some ((0 : Int32), σ)
def f_X4_isNoted_2 : Nat → Nat → Int32 → Int32 → Int32 → mS → Option (Int32 × mS)
  | 0, _, _, _, _, _ => none
  | n + 1, h0, x1, x2, x3, σ =>
    if x2 ≤ x3 then
    some ((1 : Int32), σ)
    else
    (gI (σ) h0 3 8).bind fun v13 =>
    (gR (σ) h0 3 1).bind fun r14 =>
    (aL (σ) r14).bind fun v15 =>
    if v13 < v15 then
    (gR (σ) h0 3 1).bind fun r17 =>
    (gI (σ) h0 3 8).bind fun v18 =>
    (sI (σ) r17 v18 x1).bind fun t19 =>
    (gI t19 h0 3 8).bind fun v20 =>
    (pI t19 h0 3 8 (v20 + (1 : Int32))).bind fun t21 =>
    vl (x3 + (1 : Int32)) fun v22 =>
    f_X4_isNoted_2 n h0 x1 x2 v22 t21
    else
    some ((0 : Int32), σ)
def f_X4_isNoted (h0 : Nat) (x1 : Int32) (x2 : Int32) (σ : mS) : Option (Int32 × mS) :=
f_X4_isNoted_2 fU h0 x1 x2 (0 : Int32) (σ)
def f_X4_isUnsigned_40 (E : Nat → Int32 → mS → Option (Int32 × mS)) (h0 : Nat) (σ : mS) : Option (Int32 × mS) :=
(gI (σ) h0 3 7).bind fun v23 =>
if isO (σ) h0 3 = true then
(f_X4_isNoted h0 v23 (1 : Int32) (σ)).bind fun q25 =>
if q25.1 = 0 then
some ((0 : Int32), q25.2)
else
(gI q25.2 h0 3 5).bind fun v27 =>
if isO q25.2 h0 3 = true then
(f_X4_isTaken h0 v27 q25.2).bind fun q29 =>
if q29.1 = 0 then
some ((0 : Int32), q29.2)
else
some ((1 : Int32), q29.2) else none else none
def f_X4_isUnsigned (E : Nat → Int32 → mS → Option (Int32 × mS)) (h0 : Nat) (x1 : Int32) (σ : mS) : Option (Int32 × mS) :=
(gI (σ) h0 3 5).bind fun v31 =>
if v31 = (2 : Int32) then
f_X4_isUnsigned_40 E h0 (σ)
else if v31 = (3 : Int32) then
f_X4_isUnsigned_40 E h0 (σ)
else if v31 = (40 : Int32) then
if (5 : Int32) ≤ x1 then
some ((0 : Int32), σ)
else
if isO (σ) h0 3 = true then
(f_X4_isTaken h0 (40 : Int32) (σ)).bind fun q37 =>
if q37.1 = 0 then
some ((0 : Int32), q37.2)
else
if isO q37.2 h0 3 = true then
(E h0 (x1 + (1 : Int32)) q37.2).bind fun q40 =>
if q40.1 = 0 then
some ((0 : Int32), q40.2)
else
if isO q40.2 h0 3 = true then
(f_X4_isTaken h0 (41 : Int32) q40.2).bind fun q43 =>
if q43.1 = 0 then
some ((0 : Int32), q43.2)
else
some ((1 : Int32), q43.2) else none else none else none
else 
some ((0 : Int32), σ)
def f_X4_isOne_2 (E : Nat → Int32 → mS → Option (Int32 × mS)) (k26 : Nat → Int32 → Int32 → mS → Option (Int32 × mS)) : Nat → Nat → Int32 → Int32 → mS → Option (Int32 × mS)
  | 0, _, _, _, _ => none
  | n + 1, h0, x1, x2, σ =>
    if (5 : Int32) ≤ x2 then
    k26 h0 x1 x2 (σ)
    else
    (gI (σ) h0 3 5).bind fun v14 =>
    if v14 = (45 : Int32) then
    if isO (σ) h0 3 = true then
    (f_X4_advance h0 (σ)).bind fun q17 =>
    vl (x2 + (1 : Int32)) fun v18 =>
    f_X4_isOne_2 E k26 n h0 x1 v18 q17 else none
    else
    k26 h0 x1 x2 (σ)
def f_X4_isOne (E : Nat → Int32 → mS → Option (Int32 × mS)) (h0 : Nat) (x1 : Int32) (σ : mS) : Option (Int32 × mS) :=
f_X4_isOne_2 E (fun h0 x1 x2 σ => if isO (σ) h0 3 = true then
(f_X4_isUnsigned E h0 x2 (σ)).bind fun q20 =>
if q20.1 = 0 then
some ((0 : Int32), q20.2)
else
if isO q20.2 h0 3 = true then
(f_X4_isNoted h0 (-7 : Int32) (x2 - x1) q20.2).bind fun q23 =>
if q23.1 = 0 then
some ((0 : Int32), q23.2)
else
some ((1 : Int32), q23.2) else none else none) fU h0 x1 x1 (σ)
def f_X4_isTerm_8 (E : Nat → Int32 → mS → Option (Int32 × mS)) : Nat → Nat → Int32 → Int32 → Int32 → mS → Option (Int32 × mS)
  | 0, _, _, _, _, _ => none
  | n + 1, h0, x1, x2, x3, σ =>
    if (160 : Int32) ≤ x3 then
    if x2 &&& 1 = x2 then some (x2, σ) else none
    else
    if x2 = 0 then
    if x2 &&& 1 = x2 then some (x2, σ) else none
    else
    (gI (σ) h0 3 5).bind fun v25 =>
    if v25 = (42 : Int32) then
    if isO (σ) h0 3 = true then
    (f_X4_advance h0 (σ)).bind fun q29 =>
    if isO q29 h0 3 = true then
    (f_X4_isOne E h0 x1 q29).bind fun q31 =>
    if q31.1 = 0 then
    vl (x3 + (1 : Int32)) fun v33 =>
    f_X4_isTerm_8 E n h0 x1 (0 : Int32) v33 q31.2
    else
    if isO q31.2 h0 3 = true then
    (f_X4_isNoted h0 (-11 : Int32) (1 : Int32) q31.2).bind fun q35 =>
    vl (if q35.1 = 0 then (0 : Int32) else (1 : Int32)) fun v37 =>
    vl (x3 + (1 : Int32)) fun v38 =>
    f_X4_isTerm_8 E n h0 x1 v37 v38 q35.2 else none else none else none
    else
    if x2 &&& 1 = x2 then some (x2, σ) else none
def f_X4_isTerm (E : Nat → Int32 → mS → Option (Int32 × mS)) (h0 : Nat) (x1 : Int32) (σ : mS) : Option (Int32 × mS) :=
if isO (σ) h0 3 = true then
(f_X4_isOne E h0 x1 (σ)).bind fun q40 =>
f_X4_isTerm_8 E fU h0 x1 q40.1 (0 : Int32) q40.2 else none
def f_X4_isSum_37 (E : Nat → Int32 → mS → Option (Int32 × mS)) (k8 : Nat → Int32 → Int32 → Int32 → mS → Option (Int32 × mS)) (h0 : Nat) (x1 : Int32) (x3 : Int32) (σ : mS) : Option (Int32 × mS) :=
(gI (σ) h0 3 5).bind fun v26 =>
vl (if v26 = (43 : Int32) then (-9 : Int32) else (-10 : Int32)) fun v28 =>
if isO (σ) h0 3 = true then
(f_X4_advance h0 (σ)).bind fun q30 =>
if isO q30 h0 3 = true then
(f_X4_isTerm E h0 x1 q30).bind fun q32 =>
if q32.1 = 0 then
vl (x3 + (1 : Int32)) fun v34 =>
k8 h0 x1 (0 : Int32) v34 q32.2
else
if isO q32.2 h0 3 = true then
(f_X4_isNoted h0 v28 (1 : Int32) q32.2).bind fun q36 =>
vl (if q36.1 = 0 then (0 : Int32) else (1 : Int32)) fun v38 =>
vl (x3 + (1 : Int32)) fun v39 =>
k8 h0 x1 v38 v39 q36.2 else none else none else none
def f_X4_isSum_8 (E : Nat → Int32 → mS → Option (Int32 × mS)) : Nat → Nat → Int32 → Int32 → Int32 → mS → Option (Int32 × mS)
  | 0, _, _, _, _, _ => none
  | n + 1, h0, x1, x2, x3, σ =>
    if (160 : Int32) ≤ x3 then
    if x2 &&& 1 = x2 then some (x2, σ) else none
    else
    if x2 = 0 then
    if x2 &&& 1 = x2 then some (x2, σ) else none
    else
    (gI (σ) h0 3 5).bind fun v44 =>
    if v44 = (43 : Int32) then
    f_X4_isSum_37 E (f_X4_isSum_8 E n) h0 x1 x3 (σ)
    else
    (gI (σ) h0 3 5).bind fun v46 =>
    if v46 = (45 : Int32) then
    f_X4_isSum_37 E (f_X4_isSum_8 E n) h0 x1 x3 (σ)
    else
    if x2 &&& 1 = x2 then some (x2, σ) else none
def f_X4_isSum (E : Nat → Int32 → mS → Option (Int32 × mS)) (h0 : Nat) (x1 : Int32) (σ : mS) : Option (Int32 × mS) :=
if isO (σ) h0 3 = true then
(f_X4_isTerm E h0 x1 (σ)).bind fun q50 =>
f_X4_isSum_8 E fU h0 x1 q50.1 (0 : Int32) q50.2 else none
def f_X4_isComparison_28 (E : Nat → Int32 → mS → Option (Int32 × mS)) (h0 : Nat) (x1 : Int32) (σ : mS) : Option (Int32 × mS) :=
(gI (σ) h0 3 5).bind fun v23 =>
vl (if v23 = (60 : Int32) then (-12 : Int32) else (-13 : Int32)) fun v25 =>
if isO (σ) h0 3 = true then
(f_X4_advance h0 (σ)).bind fun q27 =>
if isO q27 h0 3 = true then
(f_X4_isSum E h0 x1 q27).bind fun q29 =>
if q29.1 = 0 then
some ((0 : Int32), q29.2)
else
if isO q29.2 h0 3 = true then
(f_X4_isNoted h0 v25 (1 : Int32) q29.2).bind fun q32 =>
vl (if q32.1 = 0 then (0 : Int32) else (1 : Int32)) fun v34 =>
if v34 &&& 1 = v34 then some (v34, q32.2) else none else none else none else none
def f_X4_isComparison (E : Nat → Int32 → mS → Option (Int32 × mS)) (h0 : Nat) (x1 : Int32) (σ : mS) : Option (Int32 × mS) :=
if isO (σ) h0 3 = true then
(f_X4_isSum E h0 x1 (σ)).bind fun q37 =>
if q37.1 = 0 then
if q37.1 &&& 1 = q37.1 then some (q37.1, q37.2) else none
else
(gI q37.2 h0 3 5).bind fun v40 =>
if v40 = (60 : Int32) then
f_X4_isComparison_28 E h0 x1 q37.2
else
(gI q37.2 h0 3 5).bind fun v42 =>
if v42 = (61 : Int32) then
f_X4_isComparison_28 E h0 x1 q37.2
else
if q37.1 &&& 1 = q37.1 then some (q37.1, q37.2) else none else none
def f_X4_isNot_2 (E : Nat → Int32 → mS → Option (Int32 × mS)) (k26 : Nat → Int32 → Int32 → mS → Option (Int32 × mS)) : Nat → Nat → Int32 → Int32 → mS → Option (Int32 × mS)
  | 0, _, _, _, _ => none
  | n + 1, h0, x1, x2, σ =>
    if (5 : Int32) ≤ x2 then
    k26 h0 x1 x2 (σ)
    else
    (gI (σ) h0 3 5).bind fun v14 =>
    if v14 = (9 : Int32) then
    if isO (σ) h0 3 = true then
    (f_X4_advance h0 (σ)).bind fun q17 =>
    vl (x2 + (1 : Int32)) fun v18 =>
    f_X4_isNot_2 E k26 n h0 x1 v18 q17 else none
    else
    k26 h0 x1 x2 (σ)
def f_X4_isNot (E : Nat → Int32 → mS → Option (Int32 × mS)) (h0 : Nat) (x1 : Int32) (σ : mS) : Option (Int32 × mS) :=
f_X4_isNot_2 E (fun h0 x1 x2 σ => if isO (σ) h0 3 = true then
(f_X4_isComparison E h0 x2 (σ)).bind fun q20 =>
if q20.1 = 0 then
some ((0 : Int32), q20.2)
else
if isO q20.2 h0 3 = true then
(f_X4_isNoted h0 (-8 : Int32) (x2 - x1) q20.2).bind fun q23 =>
if q23.1 = 0 then
some ((0 : Int32), q23.2)
else
some ((1 : Int32), q23.2) else none else none) fU h0 x1 x1 (σ)
def f_X4_isBoth_8 (E : Nat → Int32 → mS → Option (Int32 × mS)) : Nat → Nat → Int32 → Int32 → Int32 → mS → Option (Int32 × mS)
  | 0, _, _, _, _, _ => none
  | n + 1, h0, x1, x2, x3, σ =>
    if (160 : Int32) ≤ x3 then
    if x2 &&& 1 = x2 then some (x2, σ) else none
    else
    if x2 = 0 then
    if x2 &&& 1 = x2 then some (x2, σ) else none
    else
    (gI (σ) h0 3 5).bind fun v25 =>
    if v25 = (7 : Int32) then
    if isO (σ) h0 3 = true then
    (f_X4_advance h0 (σ)).bind fun q29 =>
    if isO q29 h0 3 = true then
    (f_X4_isNot E h0 x1 q29).bind fun q31 =>
    if q31.1 = 0 then
    vl (x3 + (1 : Int32)) fun v33 =>
    f_X4_isBoth_8 E n h0 x1 (0 : Int32) v33 q31.2
    else
    if isO q31.2 h0 3 = true then
    (f_X4_isNoted h0 (-14 : Int32) (1 : Int32) q31.2).bind fun q35 =>
    vl (if q35.1 = 0 then (0 : Int32) else (1 : Int32)) fun v37 =>
    vl (x3 + (1 : Int32)) fun v38 =>
    f_X4_isBoth_8 E n h0 x1 v37 v38 q35.2 else none else none else none
    else
    if x2 &&& 1 = x2 then some (x2, σ) else none
def f_X4_isBoth (E : Nat → Int32 → mS → Option (Int32 × mS)) (h0 : Nat) (x1 : Int32) (σ : mS) : Option (Int32 × mS) :=
if isO (σ) h0 3 = true then
(f_X4_isNot E h0 x1 (σ)).bind fun q40 =>
f_X4_isBoth_8 E fU h0 x1 q40.1 (0 : Int32) q40.2 else none
def f_X4_isEither_8 (E : Nat → Int32 → mS → Option (Int32 × mS)) : Nat → Nat → Int32 → Int32 → Int32 → mS → Option (Int32 × mS)
  | 0, _, _, _, _, _ => none
  | n + 1, h0, x1, x2, x3, σ =>
    if (160 : Int32) ≤ x3 then
    if x2 &&& 1 = x2 then some (x2, σ) else none
    else
    if x2 = 0 then
    if x2 &&& 1 = x2 then some (x2, σ) else none
    else
    (gI (σ) h0 3 5).bind fun v25 =>
    if v25 = (8 : Int32) then
    if isO (σ) h0 3 = true then
    (f_X4_advance h0 (σ)).bind fun q29 =>
    if isO q29 h0 3 = true then
    (f_X4_isBoth E h0 x1 q29).bind fun q31 =>
    if q31.1 = 0 then
    vl (x3 + (1 : Int32)) fun v33 =>
    f_X4_isEither_8 E n h0 x1 (0 : Int32) v33 q31.2
    else
    if isO q31.2 h0 3 = true then
    (f_X4_isNoted h0 (-15 : Int32) (1 : Int32) q31.2).bind fun q35 =>
    vl (if q35.1 = 0 then (0 : Int32) else (1 : Int32)) fun v37 =>
    vl (x3 + (1 : Int32)) fun v38 =>
    f_X4_isEither_8 E n h0 x1 v37 v38 q35.2 else none else none else none
    else
    if x2 &&& 1 = x2 then some (x2, σ) else none
def f_X4_isEitherB (E : Nat → Int32 → mS → Option (Int32 × mS)) (h0 : Nat) (x1 : Int32) (σ : mS) : Option (Int32 × mS) :=
if isO (σ) h0 3 = true then
(f_X4_isBoth E h0 x1 (σ)).bind fun q40 =>
f_X4_isEither_8 E fU h0 x1 q40.1 (0 : Int32) q40.2 else none
def f_X4_isEither : Nat → Nat → Int32 → mS → Option (Int32 × mS)
  | 0 => fun _ _ _ => none
  | d + 1 => f_X4_isEitherB (f_X4_isEither d)
def f_X4_fault_18 (k76 : Nat → Int32 → mS → Option (Int32 × mS)) : Nat → Nat → Int32 → Int32 → mS → Option (Int32 × mS)
  | 0, _, _, _, _ => none
  | n + 1, h0, x1, x2, σ =>
    if (3 : Int32) ≤ x2 then
    k76 h0 x1 (σ)
    else
    if x1 = 0 then
    k76 h0 x1 (σ)
    else
    (gR (σ) h0 3 2).bind fun r29 =>
    (gI (σ) h0 3 8).bind fun v30 =>
    (sI (σ) r29 x2 v30).bind fun t31 =>
    if isO t31 h0 3 = true then
    (f_X4_isTaken h0 ((4 : Int32) + x2) t31).bind fun q33 =>
    if q33.1 = 0 then
    vl (x2 + (1 : Int32)) fun v35 =>
    f_X4_fault_18 k76 n h0 (0 : Int32) v35 q33.2
    else
    if isO q33.2 h0 3 = true then
    (f_X4_isEither 8 h0 (0 : Int32) q33.2).bind fun q37 =>
    if q37.1 = 0 then
    vl (x2 + (1 : Int32)) fun v39 =>
    f_X4_fault_18 k76 n h0 (0 : Int32) v39 q37.2
    else
    if isO q37.2 h0 3 = true then
    (f_X4_isTaken h0 (59 : Int32) q37.2).bind fun q41 =>
    vl (if q41.1 = 0 then (0 : Int32) else (1 : Int32)) fun v43 =>
    vl (x2 + (1 : Int32)) fun v44 =>
    f_X4_fault_18 k76 n h0 v43 v44 q41.2 else none else none else none
def f_X4_fault_91 (h0 : Nat) (σ : mS) : Option (Int32 × mS) :=
(gI (σ) h0 3 6).bind fun v45 =>
some (v45, σ)
def f_X4_fault (h0 : Nat) (σ : mS) : Option (Int32 × mS) :=
(pI (σ) h0 3 4 (0 : Int32)).bind fun t46 =>
(pI t46 h0 3 8 (0 : Int32)).bind fun t47 =>
if isO t47 h0 3 = true then
(f_X4_advance h0 t47).bind fun q49 =>
f_X4_fault_18 (fun h0 x1 σ => if x1 = 0 then
f_X4_fault_91 h0 (σ)
else
(gI (σ) h0 3 5).bind fun v51 =>
if v51 = 0 then
some ((-1 : Int32), σ)
else
f_X4_fault_91 h0 (σ)) fU h0 (1 : Int32) (0 : Int32) q49 else none
def f_X4_lawRead (h0 : Nat) (x1 : Int32) (σ : mS) : Option (Nat × mS) :=
vl (nO (σ) 1 df_X2) fun t11 =>
vl (σ).1 fun r12 =>
(gR t11 h0 3 1).bind fun r13 =>
(gI t11 h0 3 8).bind fun v14 =>
(f_copyOf r13 v14 t11).bind fun q15 =>
(gR q15.2 h0 3 2).bind fun r16 =>
(aI q15.2 r16 (1 : Int32)).bind fun v17 =>
(gR q15.2 h0 3 2).bind fun r18 =>
(aI q15.2 r18 (2 : Int32)).bind fun v19 =>
(f_X2_init r12 x1 q15.1 v17 v19 q15.2).bind fun q20 =>
some (r12, q20)
def f_X5_init (h0 : Nat) (σ : mS) : Option mS :=
vl (nR_ (σ) 1 6) fun t101 =>
vl (σ).1 fun r102 =>
(pR t101 h0 4 0 r102).bind fun t103 =>
vl (nO t103 3 df_X4) fun t104 =>
vl t103.1 fun r105 =>
(f_X4_init r105 t104).bind fun q106 =>
(pR q106 h0 4 1 r105).bind fun t107 =>
vl (nR_ t107 2 4) fun t108 =>
vl t107.1 fun r109 =>
(pR t108 h0 4 2 r109).bind fun t110 =>
vl (nR_ t110 3 4) fun t111 =>
vl t110.1 fun r112 =>
(pR t111 h0 4 6 r112).bind fun t113 =>
vl (nO t113 1 df_X2) fun t114 =>
vl t113.1 fun r115 =>
vl (nI_ t114 3) fun t116 =>
vl t114.1 fun r117 =>
(sI t116 r117 (0 : Int32) (-1 : Int32)).bind fun t118 =>
(sI t118 r117 (1 : Int32) (6 : Int32)).bind fun t119 =>
(sI t119 r117 (2 : Int32) (-3 : Int32)).bind fun t120 =>
(f_X2_init r115 (0 : Int32) r117 (1 : Int32) (2 : Int32) t120).bind fun q121 =>
(gR q121 h0 4 0).bind fun r122 =>
if isO q121 r115 1 = true then (sR q121 r122 1 (0 : Int32) r115).bind fun t123 =>
(pI t123 h0 4 7 (1 : Int32)).bind fun t124 =>
vl (nI_ t124 160) fun t125 =>
vl t124.1 fun r126 =>
vl (nO t125 0 df_X0) fun t127 =>
vl t125.1 fun r128 =>
(f_X0_init r128 r115 r126 t127).bind fun q129 =>
(pR q129 h0 4 3 r128).bind fun t130 =>
vl (nO t130 0 df_X0) fun t131 =>
vl t130.1 fun r132 =>
(f_X0_init r132 r115 r126 t131).bind fun q133 =>
(pR q133 h0 4 4 r132).bind fun t134 =>
vl (nO t134 0 df_X0) fun t135 =>
vl t134.1 fun r136 =>
(f_X0_init r136 r115 r126 t135).bind fun q137 =>
(pR q137 h0 4 5 r136).bind fun t138 =>
(gR t138 h0 4 6).bind fun r139 =>
(gR t138 h0 4 3).bind fun r140 =>
if isO t138 r140 0 = true then (sR t138 r139 3 (0 : Int32) r140).bind fun t141 =>
(gR t141 h0 4 6).bind fun r142 =>
(rL t141 r142 3).bind fun v143 =>
if v143 ≤ (1 : Int32) then none else
(gR t141 h0 4 6).bind fun r145 =>
vl (nO t141 0 df_X0) fun t146 =>
vl t141.1 fun r147 =>
(f_X0_init r147 r115 r126 t146).bind fun q148 =>
if isO q148 r147 0 = true then (sR q148 r145 3 (1 : Int32) r147).bind fun t149 =>
vl ((1 : Int32) + (1 : Int32)) fun v150 =>
(gR t149 h0 4 6).bind fun r151 =>
(rL t149 r151 3).bind fun v152 =>
if v152 ≤ v150 then none else
(gR t149 h0 4 6).bind fun r154 =>
vl (nO t149 0 df_X0) fun t155 =>
vl t149.1 fun r156 =>
(f_X0_init r156 r115 r126 t155).bind fun q157 =>
if isO q157 r156 0 = true then (sR q157 r154 3 v150 r156).bind fun t158 =>
vl (v150 + (1 : Int32)) fun v159 =>
(gR t158 h0 4 6).bind fun r160 =>
(rL t158 r160 3).bind fun v161 =>
if v161 ≤ v159 then none else
(gR t158 h0 4 6).bind fun r163 =>
vl (nO t158 0 df_X0) fun t164 =>
vl t158.1 fun r165 =>
(f_X0_init r165 r115 r126 t164).bind fun q166 =>
if isO q166 r165 0 = true then (sR q166 r163 3 v159 r165).bind fun t167 =>
vl (v159 + (1 : Int32)) fun v168 =>
(gR t167 h0 4 6).bind fun r169 =>
(rL t167 r169 3).bind fun v170 =>
if v170 ≤ v168 then
(gR t167 h0 4 2).bind fun r173 =>
vl (nO t167 2 df_X3) fun t174 =>
vl t167.1 fun r175 =>
(f_X3_init r175 t174).bind fun q176 =>
if isO q176 r175 2 = true then (sR q176 r173 2 (0 : Int32) r175).bind fun t177 =>
vl ((0 : Int32) + (1 : Int32)) fun v178 =>
if (4 : Int32) ≤ v178 then none else
(gR t177 h0 4 2).bind fun r180 =>
vl (nO t177 2 df_X3) fun t181 =>
vl t177.1 fun r182 =>
(f_X3_init r182 t181).bind fun q183 =>
if isO q183 r182 2 = true then (sR q183 r180 2 v178 r182).bind fun t184 =>
vl (v178 + (1 : Int32)) fun v185 =>
if (4 : Int32) ≤ v185 then none else
(gR t184 h0 4 2).bind fun r187 =>
vl (nO t184 2 df_X3) fun t188 =>
vl t184.1 fun r189 =>
(f_X3_init r189 t188).bind fun q190 =>
if isO q190 r189 2 = true then (sR q190 r187 2 v185 r189).bind fun t191 =>
vl (v185 + (1 : Int32)) fun v192 =>
if (4 : Int32) ≤ v192 then none else
(gR t191 h0 4 2).bind fun r194 =>
vl (nO t191 2 df_X3) fun t195 =>
vl t191.1 fun r196 =>
(f_X3_init r196 t195).bind fun q197 =>
if isO q197 r196 2 = true then (sR q197 r194 2 v192 r196).bind fun t198 =>
vl (v192 + (1 : Int32)) fun v199 =>
if (4 : Int32) ≤ v199 then
some t198 else none else none else none else none else none else none else none else none else none else none else none
def f_X5_count (h0 : Nat) (x1 : Int32) (σ : mS) : Option Int32 :=
if x1 = (0 : Int32) then
(gR (σ) h0 4 3).bind fun r21 =>
(gI (σ) r21 0 13).bind fun v22 =>
some v22
else if x1 = (1 : Int32) then
(gR (σ) h0 4 3).bind fun r24 =>
(gI (σ) r24 0 12).bind fun v25 =>
some v25
else if x1 = (2 : Int32) then
(gR (σ) h0 4 3).bind fun r27 =>
if isO (σ) r27 0 = true then
(f_X0_lying r27 (σ)).bind fun q29 =>
some q29 else none
else if x1 = (3 : Int32) then
(gI (σ) h0 4 7).bind fun v31 =>
some v31
else if x1 = (4 : Int32) then
(gR (σ) h0 4 3).bind fun r33 =>
(gR (σ) r33 0 14).bind fun r34 =>
(gI (σ) r34 1 0).bind fun v35 =>
some v35
else if x1 = (5 : Int32) then
(gR (σ) h0 4 1).bind fun r37 =>
(gI (σ) r37 3 3).bind fun v38 =>
some v38
else 
some (-2 : Int32)
def f_X5_isOfCourt (x0 : Int32) (x1 : Int32) : Int32 :=
if x0 = (0 : Int32) then
(f_X5_isBelow x1 (10 : Int32))
else if x0 = (1 : Int32) then
(f_X5_isBelow x1 (6 : Int32))
else 
if x0 = (2 : Int32) then
(1 : Int32)
else
if x0 = (3 : Int32) then
(1 : Int32)
else
(0 : Int32)
def f_X5_mostOfCourt (x0 : Int32) : Int32 :=
if x0 = (2 : Int32) then
(999 : Int32)
else if x0 = (3 : Int32) then
(1023 : Int32)
else 
(99 : Int32)
def f_X5_replaced (h0 : Nat) (x1 : Int32) (x2 : Int32) (σ : mS) : Option (Int32 × mS) :=
(aI (σ) h0 x1).bind fun v3 =>
(sI (σ) h0 x1 x2).bind fun t4 =>
some (v3, t4)
def f_X5_court_64 (x2 : Int32) (x3 : Int32) (s0 : Nat) (σ : mS) : Option (Int32 × mS) :=
(f_X5_replaced s0 x2 x3 (σ)).bind fun q23 =>
some (q23.1, q23.2)
def f_X5_court_92 (h0 : Nat) (x1 : Int32) (x3 : Int32) (s0 : Int32) (σ : mS) : Option (Int32 × mS) :=
if x1 = (2 : Int32) then
(gR (σ) h0 4 3).bind fun r27 =>
(pI (σ) r27 0 12 x3).bind fun t28 =>
some (s0, t28)
else
(gR (σ) h0 4 3).bind fun r25 =>
(pI (σ) r25 0 11 x3).bind fun t26 =>
some (s0, t26)
def f_X5_court (h0 : Nat) (x1 : Int32) (x2 : Int32) (x3 : Int32) (σ : mS) : Option (Int32 × mS) :=
if (f_X5_isOfCourt x1 x2) = 0 then
some ((-5000 : Int32), σ)
else
vl (if x1 = 0 then (-99 : Int32) else (0 : Int32)) fun v31 =>
if x3 < v31 then
some ((-7000 : Int32), σ)
else
if x3 ≤ (f_X5_mostOfCourt x1) then
if (2 : Int32) ≤ x1 then
if x1 = (2 : Int32) then
(gR (σ) h0 4 3).bind fun r38 =>
(gI (σ) r38 0 12).bind fun v39 =>
f_X5_court_92 h0 x1 x3 v39 (σ)
else
(gR (σ) h0 4 3).bind fun r36 =>
(gI (σ) r36 0 11).bind fun v37 =>
f_X5_court_92 h0 x1 x3 v37 (σ)
else
if x1 = 0 then
(gR (σ) h0 4 3).bind fun r43 =>
(gR (σ) r43 0 0).bind fun r44 =>
f_X5_court_64 x2 x3 r44 (σ)
else
(gR (σ) h0 4 3).bind fun r41 =>
(gR (σ) r41 0 1).bind fun r42 =>
f_X5_court_64 x2 x3 r42 (σ)
else
some ((-7000 : Int32), σ)
def f_X5_bench (h0 : Nat) (x1 : Int32) (x2 : Int32) (σ : mS) : Option Int32 :=
if x1 = (0 : Int32) then
if (f_X5_isOfCourt (0 : Int32) x2) = 0 then
some (-5000 : Int32)
else
(gR (σ) h0 4 3).bind fun r23 =>
(gR (σ) r23 0 0).bind fun r24 =>
(aI (σ) r24 x2).bind fun v25 =>
some v25
else if x1 = (1 : Int32) then
if (f_X5_isOfCourt (1 : Int32) x2) = 0 then
some (-5000 : Int32)
else
(gR (σ) h0 4 3).bind fun r28 =>
(gR (σ) r28 0 1).bind fun r29 =>
(aI (σ) r29 x2).bind fun v30 =>
some v30
else if x1 = (2 : Int32) then
(gR (σ) h0 4 3).bind fun r32 =>
(gI (σ) r32 0 11).bind fun v33 =>
some v33
else if x1 = (3 : Int32) then
(gR (σ) h0 4 3).bind fun r35 =>
if isO (σ) r35 0 = true then
(f_X0_verdict r35 (σ)).bind fun q37 =>
some q37 else none
else if x1 = (4 : Int32) then
(gR (σ) h0 4 3).bind fun r39 =>
(gI (σ) r39 0 12).bind fun v40 =>
some (v40 - v40 / (6 : Int32) * (6 : Int32))
else 
some (-5000 : Int32)
def f_X5_isByte (x0 : Int32) : Int32 :=
(f_X5_isBelow x0 (256 : Int32))
def f_X5_feed_80 : Nat → Nat → Int32 → Int32 → Int32 → Int32 → Int32 → Int32 → mS → Option (Int32 × mS)
  | 0, _, _, _, _, _, _, _, _ => none
  | n + 1, h0, x1, x3, x4, x5, x6, x7, σ =>
    if x1 ≤ x7 then
    (gR (σ) h0 4 1).bind fun r26 =>
    (gI (σ) r26 3 3).bind fun v27 =>
    some (v27, σ)
    else
    (gR (σ) h0 4 1).bind fun r28 =>
    vl (if x7 = (1 : Int32) then x3 else if x7 = (2 : Int32) then x4 else if x7 = (3 : Int32) then x5 else x6) fun v32 =>
    if isO (σ) r28 3 = true then
    (f_X4_append r28 v32 (σ)).bind fun q34 =>
    vl (x7 + (1 : Int32)) fun v35 =>
    f_X5_feed_80 n h0 x1 x3 x4 x5 x6 v35 q34 else none
def f_X5_feed (h0 : Nat) (x1 : Int32) (x2 : Int32) (x3 : Int32) (x4 : Int32) (x5 : Int32) (x6 : Int32) (σ : mS) : Option (Int32 × mS) :=
if x1 < (1 : Int32) then
some ((-2 : Int32), σ)
else
if (5 : Int32) < x1 then
some ((-2 : Int32), σ)
else
if (f_X5_isByte x2) = 0 then
some ((-2 : Int32), σ)
else
if (f_X5_isByte x3) = 0 then
some ((-2 : Int32), σ)
else
if (f_X5_isByte x4) = 0 then
some ((-2 : Int32), σ)
else
if (f_X5_isByte x5) = 0 then
some ((-2 : Int32), σ)
else
if (f_X5_isByte x6) = 0 then
some ((-2 : Int32), σ)
else
(gR (σ) h0 4 1).bind fun r43 =>
(gI (σ) r43 3 3).bind fun v44 =>
if (v44 + x1) ≤ (160 : Int32) then
(gR (σ) h0 4 1).bind fun r46 =>
if isO (σ) r46 3 = true then
(f_X4_append r46 x2 (σ)).bind fun q48 =>
f_X5_feed_80 fU h0 x1 x3 x4 x5 x6 (1 : Int32) q48 else none
else
some ((-4 : Int32), σ)
def f_X5_text (h0 : Nat) (σ : mS) : Option (Int32 × mS) :=
(gI (σ) h0 4 7).bind fun v17 =>
if v17 < (6 : Int32) then
(gR (σ) h0 4 1).bind fun r19 =>
if isO (σ) r19 3 = true then
(f_X4_fault r19 (σ)).bind fun q21 =>
(gR q21.2 h0 4 1).bind fun r22 =>
(pI q21.2 r22 3 3 (0 : Int32)).bind fun t23 =>
if q21.1 = (-1 : Int32) then
(gI t23 h0 4 7).bind fun v25 =>
(gR t23 h0 4 0).bind fun r26 =>
(gR t23 h0 4 1).bind fun r27 =>
if isO t23 r27 3 = true then
(f_X4_lawRead r27 v25 t23).bind fun q29 =>
if isO q29.2 q29.1 1 = true then (sR q29.2 r26 1 v25 q29.1).bind fun t30 =>
(gI t30 h0 4 7).bind fun v31 =>
(pI t30 h0 4 7 (v31 + (1 : Int32))).bind fun t32 =>
some (v25, t32) else none else none
else
some (((-100 : Int32) - q21.1), t23) else none
else
some ((-4 : Int32), σ)
def f_X5_force (h0 : Nat) (x1 : Int32) (σ : mS) : Option (Int32 × mS) :=
(gI (σ) h0 4 7).bind fun v10 =>
if (f_X5_isBelow x1 v10) = 0 then
some ((-2 : Int32), σ)
else
(gR (σ) h0 4 3).bind fun r12 =>
(gR (σ) r12 0 14).bind fun r13 =>
(gI (σ) r13 1 0).bind fun v14 =>
(gR (σ) h0 4 3).bind fun r15 =>
(gR (σ) h0 4 0).bind fun r16 =>
(aR (σ) r16 1 x1).bind fun r17 =>
(pR (σ) r15 0 14 r17).bind fun t18 =>
some (v14, t18)
def f_X5_asks (h0 : Nat) (x1 : Int32) (x2 : Int32) (σ : mS) : Option (Int32 × mS) :=
if (f_X5_isBelow x1 (3 : Int32)) = 0 then
some ((-1000 : Int32), σ)
else
(gR (σ) h0 4 3).bind fun r12 =>
if isO (σ) r12 0 = true then
(f_X0_hasWitness r12 x2 (σ)).bind fun q14 =>
if q14 = 0 then
some ((-1000 : Int32), σ)
else
(gR (σ) h0 4 3).bind fun r16 =>
(gR (σ) r16 0 14).bind fun r17 =>
(gR (σ) h0 4 3).bind fun r18 =>
if isO (σ) r17 1 = true then
(f_X2_says r17 x1 r18 x2 (σ)).bind fun q20 =>
some (q20.1, q20.2) else none else none
def f_X5_witness (h0 : Nat) (x1 : Int32) (x2 : Int32) (x3 : Int32) (σ : mS) : Option (Int32 × mS) :=
if (f_X5_isBelow x1 (60 : Int32)) = 0 then
some ((-2 : Int32), σ)
else
if (f_X5_isBelow x2 (1024 : Int32)) = 0 then
some ((-2 : Int32), σ)
else
if (f_X5_isBelow x3 (100 : Int32)) = 0 then
some ((-2 : Int32), σ)
else
(gR (σ) h0 4 3).bind fun r13 =>
(gI (σ) r13 0 13).bind fun v14 =>
if v14 < (6 : Int32) then
(gR (σ) h0 4 3).bind fun r16 =>
if isO (σ) r16 0 = true then
(f_X0_welcome r16 x1 x2 x3 (σ)).bind fun q18 =>
some (q18.1, q18.2) else none
else
some ((-4 : Int32), σ)
def f_X5_put_65 (x1 : Int32) (x3 : Int32) (s0 : Nat) (σ : mS) : Option (Int32 × mS) :=
(f_X5_replaced s0 x1 x3 (σ)).bind fun q15 =>
some (q15.1, q15.2)
def f_X5_put (h0 : Nat) (x1 : Int32) (x2 : Int32) (x3 : Int32) (σ : mS) : Option (Int32 × mS) :=
(gR (σ) h0 4 3).bind fun r16 =>
if isO (σ) r16 0 = true then
(f_X0_hasWitness r16 x1 (σ)).bind fun q18 =>
if q18 = 0 then
some ((-5 : Int32), σ)
else
if (f_X5_isBelow x2 (2 : Int32)) = 0 then
some ((-7 : Int32), σ)
else
vl (if x2 = 0 then (1024 : Int32) else (100 : Int32)) fun v22 =>
if (f_X5_isBelow x3 v22) = 0 then
some ((-7 : Int32), σ)
else
if x2 = 0 then
(gR (σ) h0 4 3).bind fun r27 =>
(gR (σ) r27 0 4).bind fun r28 =>
f_X5_put_65 x1 x3 r28 (σ)
else
(gR (σ) h0 4 3).bind fun r25 =>
(gR (σ) r25 0 5).bind fun r26 =>
f_X5_put_65 x1 x3 r26 (σ) else none
def f_X5_told (h0 : Nat) (x1 : Int32) (x2 : Int32) (σ : mS) : Option (Int32 × mS) :=
(gR (σ) h0 4 3).bind fun r41 =>
if isO (σ) r41 0 = true then
(f_X0_hasWitness r41 x1 (σ)).bind fun q43 =>
if q43 = 0 then
some ((-5 : Int32), σ)
else
if x2 = (0 : Int32) then
(gR (σ) h0 4 3).bind fun r46 =>
(gR (σ) r46 0 4).bind fun r47 =>
(aI (σ) r47 x1).bind fun v48 =>
some (v48, σ)
else if x2 = (1 : Int32) then
(gR (σ) h0 4 3).bind fun r50 =>
(gR (σ) r50 0 5).bind fun r51 =>
(aI (σ) r51 x1).bind fun v52 =>
some (v52, σ)
else if x2 = (2 : Int32) then
(gR (σ) h0 4 3).bind fun r54 =>
(gR (σ) r54 0 6).bind fun r55 =>
(aI (σ) r55 x1).bind fun v56 =>
some (v56, σ)
else if x2 = (3 : Int32) then
(gR (σ) h0 4 3).bind fun r58 =>
(gR (σ) r58 0 2).bind fun r59 =>
(aI (σ) r59 x1).bind fun v60 =>
some (v60, σ)
else if x2 = (4 : Int32) then
(gR (σ) h0 4 3).bind fun r62 =>
(gR (σ) r62 0 3).bind fun r63 =>
(aI (σ) r63 x1).bind fun v64 =>
some (v64, σ)
else if x2 = (5 : Int32) then
(gR (σ) h0 4 3).bind fun r66 =>
if isO (σ) r66 0 = true then
(f_X0_drops r66 x1 (σ)).bind fun q68 =>
some (q68.1, q68.2) else none
else if x2 = (6 : Int32) then
(gR (σ) h0 4 3).bind fun r70 =>
if isO (σ) r70 0 = true then
(f_X0_waits r70 x1 (σ)).bind fun q72 =>
some (q72.1, q72.2) else none
else if x2 = (7 : Int32) then
(gR (σ) h0 4 3).bind fun r74 =>
if isO (σ) r74 0 = true then
(f_X0_linensOf r74 x1 (σ)).bind fun q76 =>
some (q76, σ) else none
else if x2 = (8 : Int32) then
(gR (σ) h0 4 3).bind fun r78 =>
if isO (σ) r78 0 = true then
(f_X0_stooping r78 x1 (σ)).bind fun q80 =>
some (q80.1, q80.2) else none
else 
some ((-7 : Int32), σ) else none
def f_X5_regard (h0 : Nat) (x1 : Int32) (x2 : Int32) (x3 : Int32) (σ : mS) : Option (Int32 × mS) :=
(gR (σ) h0 4 3).bind fun r15 =>
if isO (σ) r15 0 = true then
(f_X0_hasWitness r15 x1 (σ)).bind fun q17 =>
if q17 = 0 then
some ((-5 : Int32), σ)
else
if (f_X5_isBelow x2 (6 : Int32)) = 0 then
some ((-5 : Int32), σ)
else
if x3 = (0 : Int32) then
(gR (σ) h0 4 3).bind fun r21 =>
if isO (σ) r21 0 = true then
(f_X0_looks r21 x1 x2 (σ)).bind fun q23 =>
some (q23.1, q23.2) else none
else if x3 = (1 : Int32) then
(gR (σ) h0 4 3).bind fun r25 =>
if isO (σ) r25 0 = true then
(f_X0_stoops r25 x2 x1 (σ)).bind fun q27 =>
if q27.1 = 0 then
some ((0 : Int32), q27.2)
else
some ((1 : Int32), q27.2) else none
else 
some ((-7 : Int32), σ) else none
def f_X5_linen (h0 : Nat) (x1 : Int32) (x2 : Int32) (σ : mS) : Option Int32 :=
(gR (σ) h0 4 3).bind fun r17 =>
if isO (σ) r17 0 = true then
(f_X0_lies r17 x1 (σ)).bind fun q19 =>
if q19 = 0 then
some (-6 : Int32)
else
if x2 = (0 : Int32) then
(gR (σ) h0 4 3).bind fun r22 =>
(gR (σ) r22 0 7).bind fun r23 =>
(aI (σ) r23 x1).bind fun v24 =>
some v24
else if x2 = (1 : Int32) then
(gR (σ) h0 4 3).bind fun r26 =>
(gR (σ) r26 0 8).bind fun r27 =>
(aI (σ) r27 x1).bind fun v28 =>
some v28
else if x2 = (2 : Int32) then
(gR (σ) h0 4 3).bind fun r30 =>
(gR (σ) r30 0 9).bind fun r31 =>
(aI (σ) r31 x1).bind fun v32 =>
some v32
else 
some (-7 : Int32) else none
def f_X5_drop (h0 : Nat) (x1 : Int32) (σ : mS) : Option (Int32 × mS) :=
(gR (σ) h0 4 3).bind fun r16 =>
if isO (σ) r16 0 = true then
(f_X0_hasWitness r16 x1 (σ)).bind fun q18 =>
if q18 = 0 then
some ((-5 : Int32), σ)
else
(gR (σ) h0 4 3).bind fun r20 =>
(gR (σ) r20 0 4).bind fun r21 =>
(aI (σ) r21 x1).bind fun v22 =>
if v22 = 0 then
some ((-1 : Int32), σ)
else
(gR (σ) h0 4 3).bind fun r24 =>
if isO (σ) r24 0 = true then
(f_X0_canLetFall r24 x1 (σ)).bind fun q26 =>
if q26 = 0 then
some ((-4 : Int32), σ)
else
(gR (σ) h0 4 3).bind fun r28 =>
if isO (σ) r28 0 = true then
(f_X0_letFall r28 x1 (σ)).bind fun q30 =>
some (q30.1, q30.2) else none else none else none
def f_X5_hour (h0 : Nat) (σ : mS) : Option (Int32 × mS) :=
(gR (σ) h0 4 3).bind fun r7 =>
(gI (σ) r7 0 12).bind fun v8 =>
if v8 < (999 : Int32) then
(gR (σ) h0 4 3).bind fun r10 =>
if isO (σ) r10 0 = true then
(f_X0_passHours r10 (1 : Int32) (σ)).bind fun q12 =>
some (q12.1, q12.2) else none
else
some ((-3 : Int32), σ)
def f_X5_burn (h0 : Nat) (x1 : Int32) (σ : mS) : Option (Int32 × mS) :=
(gR (σ) h0 4 3).bind fun r11 =>
if isO (σ) r11 0 = true then
(f_X0_lies r11 x1 (σ)).bind fun q13 =>
if q13 = 0 then
some ((-6 : Int32), σ)
else
(gR (σ) h0 4 3).bind fun r15 =>
(gR (σ) r15 0 7).bind fun r16 =>
(sI (σ) r16 x1 (-1 : Int32)).bind fun t17 =>
(gR t17 h0 4 3).bind fun r18 =>
(gR t17 r18 0 8).bind fun r19 =>
(aI t17 r19 x1).bind fun v20 =>
some (v20, t17) else none
def f_X5_run_51 (h0 : Nat) (x1 : Int32) (x2 : Int32) (x3 : Int32) (σ : mS) : Option (Int32 × mS) :=
(gR (σ) h0 4 5).bind fun r32 =>
(gR (σ) h0 4 3).bind fun r33 =>
if isO (σ) r32 0 = true then
(f_X0_become r32 r33 (σ)).bind fun q35 =>
(gR q35 h0 4 5).bind fun r36 =>
if isO q35 r36 0 = true then
(f_X0_passHours r36 x1 q35).bind fun q38 =>
if x2 = (0 : Int32) then
(gR q38.2 h0 4 5).bind fun r40 =>
(gI q38.2 r40 0 11).bind fun v41 =>
some (v41, q38.2)
else if x2 = (1 : Int32) then
(gR q38.2 h0 4 5).bind fun r43 =>
if isO q38.2 r43 0 = true then
(f_X0_verdict r43 q38.2).bind fun q45 =>
some (q45, q38.2) else none
else if x2 = (2 : Int32) then
(gR q38.2 h0 4 5).bind fun r47 =>
if isO q38.2 r47 0 = true then
(f_X0_lying r47 q38.2).bind fun q49 =>
some (q49, q38.2) else none
else 
if x3 = 0 then
some ((-5000 : Int32), q38.2)
else
(gR q38.2 h0 4 5).bind fun r51 =>
(gR q38.2 r51 0 6).bind fun r52 =>
(aI q38.2 r52 (x2 - (10 : Int32))).bind fun v53 =>
some (v53, q38.2) else none else none
def f_X5_run_25 (h0 : Nat) (x1 : Int32) (x2 : Int32) (s0 : Int32) (σ : mS) : Option (Int32 × mS) :=
if (f_X5_isBelow x1 (41 : Int32)) = 0 then
some ((-5000 : Int32), σ)
else
if (f_X5_isBelow x2 (3 : Int32)) = 0 then
if s0 = 0 then
some ((-5000 : Int32), σ)
else
f_X5_run_51 h0 x1 x2 s0 (σ)
else
f_X5_run_51 h0 x1 x2 s0 (σ)
def f_X5_run (h0 : Nat) (x1 : Int32) (x2 : Int32) (σ : mS) : Option (Int32 × mS) :=
if x2 < (10 : Int32) then
f_X5_run_25 h0 x1 x2 (0 : Int32) (σ)
else
(gR (σ) h0 4 3).bind fun r58 =>
if isO (σ) r58 0 = true then
(f_X0_hasWitness r58 (x2 - (10 : Int32)) (σ)).bind fun q60 =>
vl (if q60 = 0 then (0 : Int32) else (1 : Int32)) fun v62 =>
f_X5_run_25 h0 x1 x2 v62 (σ) else none
def f_X5_when_67 (k30 : Nat → Int32 → Int32 → mS → Option (Int32 × mS)) (h0 : Nat) (x1 : Int32) (x2 : Int32) (σ : mS) : Option (Int32 × mS) :=
(gR (σ) h0 4 5).bind fun r21 =>
if isO (σ) r21 0 = true then
(f_X0_passHours r21 (1 : Int32) (σ)).bind fun q23 =>
vl (x2 + (1 : Int32)) fun v24 =>
k30 h0 x1 v24 q23.2 else none
def f_X5_when_30 : Nat → Nat → Int32 → Int32 → mS → Option (Int32 × mS)
  | 0, _, _, _, _ => none
  | n + 1, h0, x1, x2, σ =>
    if (60 : Int32) < x2 then
    some ((-1 : Int32), σ)
    else
    if x1 = (-1 : Int32) then
    (gR (σ) h0 4 5).bind fun r31 =>
    if isO (σ) r31 0 = true then
    (f_X0_lying r31 (σ)).bind fun q33 =>
    if q33 = 0 then
    some (x2, σ)
    else
    f_X5_when_67 (f_X5_when_30 n) h0 x1 x2 (σ) else none
    else
    (gR (σ) h0 4 5).bind fun r27 =>
    if isO (σ) r27 0 = true then
    (f_X0_isAdmitted r27 x1 (σ)).bind fun q29 =>
    if q29 = 0 then
    f_X5_when_67 (f_X5_when_30 n) h0 x1 x2 (σ)
    else
    some (x2, σ) else none
def f_X5_when_17 (h0 : Nat) (x1 : Int32) (σ : mS) : Option (Int32 × mS) :=
(gR (σ) h0 4 5).bind fun r35 =>
(gR (σ) h0 4 3).bind fun r36 =>
if isO (σ) r35 0 = true then
(f_X0_become r35 r36 (σ)).bind fun q38 =>
f_X5_when_30 fU h0 x1 (0 : Int32) q38 else none
def f_X5_when (h0 : Nat) (x1 : Int32) (σ : mS) : Option (Int32 × mS) :=
if x1 = (-1 : Int32) then
f_X5_when_17 h0 x1 (σ)
else
if (f_X5_isBelow x1 (10 : Int32)) = 0 then
some ((-7 : Int32), σ)
else
f_X5_when_17 h0 x1 (σ)
def f_X5_fate_38 (k70 : Nat → Int32 → Int32 → Int32 → mS → Option (Int32 × mS)) : Nat → Nat → Int32 → Int32 → Int32 → mS → Option (Int32 × mS)
  | 0, _, _, _, _, _ => none
  | n + 1, h0, x1, x2, x3, σ =>
    if (99 : Int32) ≤ x3 then
    k70 h0 x1 x2 x3 (σ)
    else
    (gR (σ) h0 4 5).bind fun r27 =>
    if isO (σ) r27 0 = true then
    (f_X0_lies r27 x1 (σ)).bind fun q29 =>
    if q29 = 0 then
    k70 h0 x1 x2 x3 (σ)
    else
    (gR (σ) h0 4 5).bind fun r31 =>
    if isO (σ) r31 0 = true then
    (f_X0_passHours r31 (1 : Int32) (σ)).bind fun q33 =>
    vl (x3 + (1 : Int32)) fun v34 =>
    f_X5_fate_38 k70 n h0 x1 x2 v34 q33.2 else none else none
def f_X5_fate (h0 : Nat) (x1 : Int32) (x2 : Int32) (σ : mS) : Option (Int32 × mS) :=
(gR (σ) h0 4 3).bind fun r35 =>
if isO (σ) r35 0 = true then
(f_X0_lies r35 x1 (σ)).bind fun q37 =>
if q37 = 0 then
some ((-6 : Int32), σ)
else
if (f_X5_isBelow x2 (2 : Int32)) = 0 then
some ((-7 : Int32), σ)
else
(gR (σ) h0 4 5).bind fun r40 =>
(gR (σ) h0 4 3).bind fun r41 =>
if isO (σ) r40 0 = true then
(f_X0_become r40 r41 (σ)).bind fun q43 =>
f_X5_fate_38 (fun h0 x1 x2 x3 σ => if x2 = (1 : Int32) then
some (x3, σ)
else
(gR (σ) h0 4 5).bind fun r45 =>
(gR (σ) r45 0 9).bind fun r46 =>
(aI (σ) r46 x1).bind fun v47 =>
if v47 = 0 then
some ((-1 : Int32), σ)
else
(gR (σ) h0 4 5).bind fun r49 =>
(gI (σ) r49 0 12).bind fun v50 =>
some (((v50 - (1 : Int32)) - (v50 - (1 : Int32)) / (6 : Int32) * (6 : Int32)), σ)) fU h0 x1 x2 (0 : Int32) q43 else none else none
def f_X5_advise_55 : Nat → Nat → Int32 → Int32 → Int32 → Int32 → Int32 → mS → Option (Int32 × mS)
  | 0, _, _, _, _, _, _, _ => none
  | n + 1, h0, x1, x2, x3, x4, x5, σ =>
    (gR (σ) h0 4 3).bind fun r39 =>
    (gI (σ) r39 0 13).bind fun v40 =>
    if v40 ≤ x5 then
    if x2 = 0 then
    some (x3, σ)
    else
    some (x4, σ)
    else
    (gR (σ) h0 4 3).bind fun r43 =>
    if isO (σ) r43 0 = true then
    (f_X0_canLetFall r43 x5 (σ)).bind fun q45 =>
    if q45 = 0 then
    vl (x5 + (1 : Int32)) fun v47 =>
    f_X5_advise_55 n h0 x1 x2 x3 x4 v47 (σ)
    else
    (gR (σ) h0 4 5).bind fun r48 =>
    (gR (σ) h0 4 3).bind fun r49 =>
    if isO (σ) r48 0 = true then
    (f_X0_become r48 r49 (σ)).bind fun q51 =>
    (gR q51 h0 4 5).bind fun r52 =>
    if isO q51 r52 0 = true then
    (f_X0_letFall r52 x5 q51).bind fun q54 =>
    (gR q54.2 h0 4 5).bind fun r55 =>
    if isO q54.2 r55 0 = true then
    (f_X0_passHours r55 x1 q54.2).bind fun q57 =>
    (gR q57.2 h0 4 5).bind fun r58 =>
    if isO q57.2 r58 0 = true then
    (f_X0_verdict r58 q57.2).bind fun q60 =>
    vl (if q60 ≤ x4 then x3 else x5) fun v62 =>
    vl (if q60 < x4 then x4 else q60) fun v63 =>
    vl (x5 + (1 : Int32)) fun v64 =>
    f_X5_advise_55 n h0 x1 x2 v62 v63 v64 q57.2 else none else none else none else none else none
def f_X5_advise (h0 : Nat) (x1 : Int32) (x2 : Int32) (σ : mS) : Option (Int32 × mS) :=
if (f_X5_isBelow x1 (41 : Int32)) = 0 then
some ((-5000 : Int32), σ)
else
if (f_X5_isBelow x2 (2 : Int32)) = 0 then
some ((-5000 : Int32), σ)
else
(gR (σ) h0 4 5).bind fun r67 =>
(gR (σ) h0 4 3).bind fun r68 =>
if isO (σ) r67 0 = true then
(f_X0_become r67 r68 (σ)).bind fun q70 =>
(gR q70 h0 4 5).bind fun r71 =>
if isO q70 r71 0 = true then
(f_X0_passHours r71 x1 q70).bind fun q73 =>
(gR q73.2 h0 4 5).bind fun r74 =>
if isO q73.2 r74 0 = true then
(f_X0_verdict r74 q73.2).bind fun q76 =>
f_X5_advise_55 fU h0 x1 x2 (-1 : Int32) q76 (0 : Int32) q73.2 else none else none else none
def f_X5_turn_35 (σ : mS) : Nat → Nat → Int32 → Int32 → Int32 → Int32 → Int32 → Option Int32
  | 0, _, _, _, _, _, _ => none
  | n + 1, h0, x1, x2, x3, x4, x5 =>
    if (1023 : Int32) < x5 then
    if x1 = 0 then
    some x3
    else
    some x4
    else
    vl (f_J6_bitCount x5) fun v31 =>
    (gR (σ) h0 4 3).bind fun r32 =>
    (gI (σ) r32 0 11).bind fun v33 =>
    vl (if (x5 &&& v33) = 0 then if x4 = (-1 : Int32) then (1 : Int32) else if x4 ≤ v31 then (0 : Int32) else (1 : Int32) else (0 : Int32)) fun v37 =>
    if v37 = 0 then
    vl (x5 + (1 : Int32)) fun v39 =>
    f_X5_turn_35 σ n h0 x1 x2 x3 x4 v39
    else
    (gR (σ) h0 4 3).bind fun r40 =>
    (gR (σ) h0 4 3).bind fun r41 =>
    (gI (σ) r41 0 11).bind fun v42 =>
    if isO (σ) r40 0 = true then
    (f_X0_weightOf r40 (v42 ||| x5) (σ)).bind fun q44 =>
    vl (if q44 ≤ 0 then (0 : Int32) else (1 : Int32)) fun v46 =>
    vl (if v46 = x2 then x3 else x5) fun v48 =>
    vl (if v46 = x2 then x4 else v31) fun v49 =>
    vl (x5 + (1 : Int32)) fun v50 =>
    f_X5_turn_35 σ n h0 x1 x2 v48 v49 v50 else none
def f_X5_turn (h0 : Nat) (x1 : Int32) (σ : mS) : Option Int32 :=
if (f_X5_isBelow x1 (2 : Int32)) = 0 then
some (-2 : Int32)
else
(gR (σ) h0 4 3).bind fun r52 =>
if isO (σ) r52 0 = true then
(f_X0_verdict r52 (σ)).bind fun q54 =>
vl (if q54 ≤ 0 then (0 : Int32) else (1 : Int32)) fun v56 =>
f_X5_turn_35 σ fU h0 x1 v56 (-1 : Int32) (-1 : Int32) (1 : Int32) else none
def f_X5_gallant_57 : Nat → Nat → Int32 → Int32 → Int32 → Int32 → Int32 → mS → Option (Int32 × mS)
  | 0, _, _, _, _, _, _, _ => none
  | n + 1, h0, x1, x2, x3, x4, x5, σ =>
    if (6 : Int32) ≤ x5 then
    if x2 = 0 then
    some (x3, σ)
    else
    some (x4, σ)
    else
    (gR (σ) h0 4 5).bind fun r34 =>
    (gR (σ) h0 4 3).bind fun r35 =>
    if isO (σ) r34 0 = true then
    (f_X0_become r34 r35 (σ)).bind fun q37 =>
    (gR q37 h0 4 5).bind fun r38 =>
    (gR q37 r38 0 1).bind fun r39 =>
    (sI q37 r39 x5 (99 : Int32)).bind fun t40 =>
    (gR t40 h0 4 5).bind fun r41 =>
    if isO t40 r41 0 = true then
    (f_X0_passHours r41 x1 t40).bind fun q43 =>
    (gR q43.2 h0 4 5).bind fun r44 =>
    (gI q43.2 r44 0 11).bind fun v45 =>
    vl (f_J6_bitCount v45) fun v46 =>
    vl (if v46 ≤ x4 then x3 else x5) fun v48 =>
    vl (if v46 < x4 then x4 else v46) fun v49 =>
    vl (x5 + (1 : Int32)) fun v50 =>
    f_X5_gallant_57 n h0 x1 x2 v48 v49 v50 q43.2 else none else none
def f_X5_gallant (h0 : Nat) (x1 : Int32) (x2 : Int32) (σ : mS) : Option (Int32 × mS) :=
if (f_X5_isBelow x1 (41 : Int32)) = 0 then
some ((-2 : Int32), σ)
else
if (f_X5_isBelow x2 (2 : Int32)) = 0 then
some ((-2 : Int32), σ)
else
(gR (σ) h0 4 5).bind fun r53 =>
(gR (σ) h0 4 3).bind fun r54 =>
if isO (σ) r53 0 = true then
(f_X0_become r53 r54 (σ)).bind fun q56 =>
(gR q56 h0 4 5).bind fun r57 =>
if isO q56 r57 0 = true then
(f_X0_passHours r57 x1 q56).bind fun q59 =>
(gR q59.2 h0 4 5).bind fun r60 =>
(gI q59.2 r60 0 11).bind fun v61 =>
vl (f_J6_bitCount v61) fun v62 =>
f_X5_gallant_57 fU h0 x1 x2 (-1 : Int32) v62 (0 : Int32) q59.2 else none else none
def f_X5_tryLongerRows_33 (E : Nat → Int32 → Int32 → Int32 → Int32 → mS → Option mS) : Nat → Nat → Int32 → Int32 → Int32 → Int32 → Nat → Nat → Int32 → mS → Option mS
  | 0, _, _, _, _, _, _, _, _, _ => none
  | n + 1, h0, x1, x2, x3, x4, h5, h6, x7, σ =>
    (gI (σ) h5 0 13).bind fun v25 =>
    if v25 ≤ x7 then
    some (σ)
    else
    if ((x3 >>> (x7 &&& 31)) &&& (1 : Int32)) = 0 then
    if isO (σ) h5 0 = true then
    (f_X0_canLetFall h5 x7 (σ)).bind fun q30 =>
    if q30 = 0 then
    vl (x7 + (1 : Int32)) fun v32 =>
    f_X5_tryLongerRows_33 E n h0 x1 x2 x3 x4 h5 h6 v32 (σ)
    else
    if isO (σ) h6 0 = true then
    (f_X0_become h6 h5 (σ)).bind fun q34 =>
    if isO q34 h6 0 = true then
    (f_X0_letFall h6 x7 q34).bind fun q36 =>
    if isO q36.2 h6 0 = true then
    (f_X0_passHours h6 (1 : Int32) q36.2).bind fun q38 =>
    if isO q38.2 h0 4 = true then
    (E h0 (x1 + (1 : Int32)) x2 (x3 ||| ((1 : Int32) <<< (x7 &&& 31))) (((x4 * (10 : Int32)) + x7) + (1 : Int32)) q38.2).bind fun q40 =>
    vl (x7 + (1 : Int32)) fun v41 =>
    f_X5_tryLongerRows_33 E n h0 x1 x2 x3 x4 h5 h6 v41 q40 else none else none else none else none else none
    else
    vl (x7 + (1 : Int32)) fun v28 =>
    f_X5_tryLongerRows_33 E n h0 x1 x2 x3 x4 h5 h6 v28 (σ)
def f_X5_tryLongerRows (E : Nat → Int32 → Int32 → Int32 → Int32 → mS → Option mS) (h0 : Nat) (x1 : Int32) (x2 : Int32) (x3 : Int32) (x4 : Int32) (σ : mS) : Option mS :=
(gR (σ) h0 4 6).bind fun r42 =>
(rL (σ) r42 3).bind fun v43 =>
if (x1 + (1 : Int32)) < v43 then
(gR (σ) h0 4 6).bind fun r45 =>
(aR (σ) r45 3 x1).bind fun r46 =>
(gR (σ) h0 4 6).bind fun r47 =>
(aR (σ) r47 3 (x1 + (1 : Int32))).bind fun r48 =>
f_X5_tryLongerRows_33 E fU h0 x1 x2 x3 x4 r46 r48 (0 : Int32) (σ)
else
some (σ)
def f_X5_tryRow_53 (E : Nat → Int32 → Int32 → Int32 → Int32 → mS → Option mS) (h0 : Nat) (x1 : Int32) (x2 : Int32) (x3 : Int32) (x4 : Int32) (σ : mS) : Option mS :=
if x2 ≤ x1 then
some (σ)
else
if isO (σ) h0 4 = true then
(f_X5_tryLongerRows E h0 x1 x2 x3 x4 (σ)).bind fun q21 =>
some q21 else none
def f_X5_tryRowB (E : Nat → Int32 → Int32 → Int32 → Int32 → mS → Option mS) (h0 : Nat) (x1 : Int32) (x2 : Int32) (x3 : Int32) (x4 : Int32) (σ : mS) : Option mS :=
(gR (σ) h0 4 5).bind fun r22 =>
(gR (σ) h0 4 6).bind fun r23 =>
(aR (σ) r23 3 x1).bind fun r24 =>
if isO (σ) r22 0 = true then
(f_X0_become r22 r24 (σ)).bind fun q26 =>
(gR q26 h0 4 5).bind fun r27 =>
if isO q26 r27 0 = true then
(f_X0_passHours r27 (12 : Int32) q26).bind fun q29 =>
(gR q29.2 h0 4 5).bind fun r30 =>
if isO q29.2 r30 0 = true then
(f_X0_verdict r30 q29.2).bind fun q32 =>
(gI q29.2 h0 4 10).bind fun v33 =>
if q32 ≤ v33 then
f_X5_tryRow_53 E h0 x1 x2 x3 x4 q29.2
else
(pI q29.2 h0 4 10 q32).bind fun t35 =>
(pI t35 h0 4 9 x4).bind fun t36 =>
f_X5_tryRow_53 E h0 x1 x2 x3 x4 t36 else none else none else none
def f_X5_tryRow : Nat → Nat → Int32 → Int32 → Int32 → Int32 → mS → Option mS
  | 0 => fun _ _ _ _ _ _ => none
  | d + 1 => f_X5_tryRowB (f_X5_tryRow d)
def f_X5_cast (h0 : Nat) (x1 : Int32) (x2 : Int32) (σ : mS) : Option (Int32 × mS) :=
if (f_X5_isBelow x1 (4 : Int32)) = 0 then
some ((-5000 : Int32), σ)
else
if (f_X5_isBelow x2 (2 : Int32)) = 0 then
some ((-5000 : Int32), σ)
else
(pI (σ) h0 4 9 (0 : Int32)).bind fun t12 =>
(pI t12 h0 4 10 (-2147483648 : Int32)).bind fun t13 =>
if isO t13 h0 4 = true then
(f_X5_tryRow 5 h0 (0 : Int32) x1 (0 : Int32) (0 : Int32) t13).bind fun q15 =>
if x2 = 0 then
(gI q15 h0 4 9).bind fun v18 =>
some (v18, q15)
else
(gI q15 h0 4 10).bind fun v17 =>
some (v17, q15) else none
def f_X5_commonDivisor_7 : Nat → Int32 → Int32 → Int32 → Option Int32
  | 0, _, _, _ => none
  | n + 1, x2, x3, x4 =>
    if (64 : Int32) ≤ x4 then
    some x2
    else
    if x3 = 0 then
    some x2
    else
    if x3 = 0 then none else
    vl (x2 - x2 / x3 * x3) fun v9 =>
    vl (x4 + (1 : Int32)) fun v10 =>
    f_X5_commonDivisor_7 n x3 v9 v10
def f_X5_commonDivisor (x0 : Int32) (x1 : Int32) : Option Int32 :=
f_X5_commonDivisor_7 fU x0 x1 (0 : Int32)
def f_X5_lowest (x0 : Int32) (x1 : Int32) (x2 : Int32) : Option Int64 :=
(f_X5_commonDivisor (if 0 ≤ x0 then x0 else 0 - x0) x1).bind fun q7 =>
if (f_X5_isBelow x2 (2 : Int32)) = 0 then
some (-4611686018427387904 : Int64)
else
if 0 < q7 then
vl (if x2 = 0 then x0 else x1) fun v11 =>
if q7 = 0 then none else
some ((v11 / q7).toInt64)
else
some (-4611686018427387904 : Int64)
def f_X5_mean (h0 : Nat) (x1 : Int32) (σ : mS) : Option Int64 :=
(gR (σ) h0 4 3).bind fun r9 =>
(gI (σ) r9 0 11).bind fun v10 =>
vl (f_J6_bitCount v10) fun v11 =>
if v11 = 0 then
some (-4611686018427387904 : Int64)
else
(gR (σ) h0 4 3).bind fun r13 =>
if isO (σ) r13 0 = true then
(f_X0_verdict r13 (σ)).bind fun q15 =>
(f_X5_lowest q15 v11 x1).bind fun q16 =>
some q16 else none
def f_X5_refusalOfTale (h0 : Nat) (x1 : Int32) (σ : mS) : Option Int32 :=
if (f_X5_isBelow x1 (4 : Int32)) = 0 then
some (-2 : Int32)
else
(gR (σ) h0 4 2).bind fun r12 =>
(aR (σ) r12 2 x1).bind fun r13 =>
if isO (σ) r13 2 = true then
(f_X3_isMissing r13 (σ)).bind fun q15 =>
if q15 = 0 then
(gR (σ) h0 4 2).bind fun r17 =>
(aR (σ) r17 2 x1).bind fun r18 =>
(gI (σ) r18 2 2).bind fun v19 =>
if v19 ≤ (20 : Int32) then
some (0 : Int32)
else
some (-2 : Int32)
else
some (-11 : Int32) else none
def f_X5_firstOtherwise_9 : Nat → Nat → Nat → Int32 → mS → Option (Int32 × mS)
  | 0, _, _, _, _ => none
  | n + 1, h0, h2, x3, σ =>
    (gI (σ) h2 2 2).bind fun v14 =>
    if v14 ≤ x3 then
    some ((-1 : Int32), σ)
    else
    (gR (σ) h0 4 5).bind fun r16 =>
    if isO (σ) r16 0 = true then
    (f_X0_passHours r16 (1 : Int32) (σ)).bind fun q18 =>
    (gR q18.2 h0 4 5).bind fun r19 =>
    (gI q18.2 r19 0 11).bind fun v20 =>
    (gR q18.2 h2 2 0).bind fun r21 =>
    (aI q18.2 r21 x3).bind fun v22 =>
    if (f_J6_bitCount v20) = v22 then
    vl (x3 + (1 : Int32)) fun v24 =>
    f_X5_firstOtherwise_9 n h0 h2 v24 q18.2
    else
    some (x3, q18.2) else none
def f_X5_firstOtherwise (h0 : Nat) (x1 : Int32) (σ : mS) : Option (Int32 × mS) :=
(gR (σ) h0 4 2).bind fun r25 =>
(aR (σ) r25 2 x1).bind fun r26 =>
f_X5_firstOtherwise_9 fU h0 r26 (0 : Int32) (σ)
def f_X5_judge (h0 : Nat) (x1 : Int32) (σ : mS) : Option (Int32 × mS) :=
if isO (σ) h0 4 = true then
(f_X5_refusalOfTale h0 x1 (σ)).bind fun q11 =>
if q11 = 0 then
(gR (σ) h0 4 5).bind fun r13 =>
(gR (σ) h0 4 3).bind fun r14 =>
if isO (σ) r13 0 = true then
(f_X0_become r13 r14 (σ)).bind fun q16 =>
if isO q16 h0 4 = true then
(f_X5_firstOtherwise h0 x1 q16).bind fun q18 =>
some (q18.1, q18.2) else none else none
else
some (q11, σ) else none
def f_X5_refusalOfFitting (h0 : Nat) (x1 : Int32) (x2 : Int32) (x3 : Int32) (σ : mS) : Option Int32 :=
if isO (σ) h0 4 = true then
(f_X5_refusalOfTale h0 x1 (σ)).bind fun q7 =>
if q7 = 0 then
if x2 = 0 then
some (-5 : Int32)
else
if (f_X5_isBelow x3 (2 : Int32)) = 0 then
some (-7 : Int32)
else
some (0 : Int32)
else
some q7 else none
def f_X5_kinds_78 (k30 : Nat → Int32 → Int32 → Int32 → Int32 → Int32 → mS → Option (Int32 × mS)) (h0 : Nat) (x1 : Int32) (x2 : Int32) (x3 : Int32) (x5 : Int32) (x6 : Int32) (s0 : Nat) (σ : mS) : Option (Int32 × mS) :=
(sI (σ) s0 x2 x6).bind fun t26 =>
if isO t26 h0 4 = true then
(f_X5_firstOtherwise h0 x1 t26).bind fun q28 =>
vl (if q28.1 = (-1 : Int32) then ((1 : Int32) <<< (x6 &&& 31)) else (0 : Int32)) fun v30 =>
vl (x5 ||| v30) fun v31 =>
vl (x6 + (1 : Int32)) fun v32 =>
k30 h0 x1 x2 x3 v31 v32 q28.2 else none
def f_X5_kinds_30 : Nat → Nat → Int32 → Int32 → Int32 → Int32 → Int32 → mS → Option (Int32 × mS)
  | 0, _, _, _, _, _, _, _ => none
  | n + 1, h0, x1, x2, x3, x5, x6, σ =>
    vl (if x3 = 0 then (6 : Int32) else (10 : Int32)) fun v34 =>
    if v34 ≤ x6 then
    some (x5, σ)
    else
    (gR (σ) h0 4 5).bind fun r36 =>
    (gR (σ) h0 4 3).bind fun r37 =>
    if isO (σ) r36 0 = true then
    (f_X0_become r36 r37 (σ)).bind fun q39 =>
    if x3 = 0 then
    (gR q39 h0 4 5).bind fun r43 =>
    (gR q39 r43 0 2).bind fun r44 =>
    f_X5_kinds_78 (f_X5_kinds_30 n) h0 x1 x2 x3 x5 x6 r44 q39
    else
    (gR q39 h0 4 5).bind fun r41 =>
    (gR q39 r41 0 3).bind fun r42 =>
    f_X5_kinds_78 (f_X5_kinds_30 n) h0 x1 x2 x3 x5 x6 r42 q39 else none
def f_X5_kinds (h0 : Nat) (x1 : Int32) (x2 : Int32) (x3 : Int32) (σ : mS) : Option (Int32 × mS) :=
(gR (σ) h0 4 3).bind fun r45 =>
if isO (σ) r45 0 = true then
(f_X0_hasWitness r45 x2 (σ)).bind fun q47 =>
if isO (σ) h0 4 = true then
(f_X5_refusalOfFitting h0 x1 q47 x3 (σ)).bind fun q49 =>
if q49 = 0 then
f_X5_kinds_30 fU h0 x1 x2 x3 (0 : Int32) (0 : Int32) (σ)
else
some (q49, σ) else none else none
def f_X5_fitting_9 : Nat → Nat → Int32 → Nat → Int32 → Int32 → Int32 → Int32 → Int32 → mS → Option (Int32 × mS)
  | 0, _, _, _, _, _, _, _, _, _ => none
  | n + 1, h0, x1, h2, x3, x4, x5, x6, x7, σ =>
    if (99 : Int32) < x7 then
    if x4 = 0 then
    some (x5, σ)
    else
    some (x6, σ)
    else
    (gR (σ) h0 4 5).bind fun r17 =>
    (gR (σ) h0 4 3).bind fun r18 =>
    if isO (σ) r17 0 = true then
    (f_X0_become r17 r18 (σ)).bind fun q20 =>
    (sI q20 h2 x3 x7).bind fun t21 =>
    if isO t21 h0 4 = true then
    (f_X5_firstOtherwise h0 x1 t21).bind fun q23 =>
    vl (if q23.1 = (-1 : Int32) then if x6 = (-1 : Int32) then (x5 + (1 : Int32)) else (x5 + (1 : Int32)) else x5) fun v26 =>
    vl (if q23.1 = (-1 : Int32) then if x6 = (-1 : Int32) then x7 else x6 else x6) fun v27 =>
    vl (x7 + (1 : Int32)) fun v28 =>
    f_X5_fitting_9 n h0 x1 h2 x3 x4 v26 v27 v28 q23.2 else none else none
def f_X5_fitting (h0 : Nat) (x1 : Int32) (h2 : Nat) (x3 : Int32) (x4 : Int32) (σ : mS) : Option (Int32 × mS) :=
f_X5_fitting_9 fU h0 x1 h2 x3 x4 (0 : Int32) (-1 : Int32) (0 : Int32) (σ)
def f_X5_faces (h0 : Nat) (x1 : Int32) (x2 : Int32) (x3 : Int32) (σ : mS) : Option (Int32 × mS) :=
(gR (σ) h0 4 3).bind fun r11 =>
if isO (σ) r11 0 = true then
(f_X0_hasWitness r11 x2 (σ)).bind fun q13 =>
if isO (σ) h0 4 = true then
(f_X5_refusalOfFitting h0 x1 q13 x3 (σ)).bind fun q15 =>
if q15 = 0 then
(gR (σ) h0 4 5).bind fun r17 =>
(gR (σ) r17 0 5).bind fun r18 =>
if isO (σ) h0 4 = true then
(f_X5_fitting h0 x1 r18 x2 x3 (σ)).bind fun q20 =>
some (q20.1, q20.2) else none
else
some (q15, σ) else none else none
def f_X5_keens (h0 : Nat) (x1 : Int32) (x2 : Int32) (x3 : Int32) (σ : mS) : Option (Int32 × mS) :=
if isO (σ) h0 4 = true then
(f_X5_refusalOfFitting h0 x1 (f_X5_isBelow x2 (6 : Int32)) x3 (σ)).bind fun q9 =>
if q9 = 0 then
(gR (σ) h0 4 5).bind fun r11 =>
(gR (σ) r11 0 1).bind fun r12 =>
if isO (σ) h0 4 = true then
(f_X5_fitting h0 x1 r12 x2 x3 (σ)).bind fun q14 =>
some (q14.1, q14.2) else none
else
some (q9, σ) else none
def f_X5_burnt_17 : Nat → Nat → Int32 → Int32 → Int32 → mS → Option (Int32 × mS)
  | 0, _, _, _, _, _ => none
  | n + 1, h0, x1, x3, x4, σ =>
    if (8 : Int32) ≤ x4 then
    some (x3, σ)
    else
    (gR (σ) h0 4 3).bind fun r24 =>
    if isO (σ) r24 0 = true then
    (f_X0_lies r24 x4 (σ)).bind fun q26 =>
    if q26 = 0 then
    vl (x4 + (1 : Int32)) fun v28 =>
    f_X5_burnt_17 n h0 x1 x3 v28 (σ)
    else
    (gR (σ) h0 4 5).bind fun r29 =>
    (gR (σ) h0 4 3).bind fun r30 =>
    if isO (σ) r29 0 = true then
    (f_X0_become r29 r30 (σ)).bind fun q32 =>
    (gR q32 h0 4 5).bind fun r33 =>
    (gR q32 r33 0 7).bind fun r34 =>
    (sI q32 r34 x4 (-1 : Int32)).bind fun t35 =>
    if isO t35 h0 4 = true then
    (f_X5_firstOtherwise h0 x1 t35).bind fun q37 =>
    vl (if q37.1 = (-1 : Int32) then ((1 : Int32) <<< (x4 &&& 31)) else (0 : Int32)) fun v39 =>
    vl (x3 ||| v39) fun v40 =>
    vl (x4 + (1 : Int32)) fun v41 =>
    f_X5_burnt_17 n h0 x1 v40 v41 q37.2 else none else none else none
def f_X5_burnt (h0 : Nat) (x1 : Int32) (σ : mS) : Option (Int32 × mS) :=
if isO (σ) h0 4 = true then
(f_X5_refusalOfTale h0 x1 (σ)).bind fun q43 =>
if q43 = 0 then
f_X5_burnt_17 fU h0 x1 (0 : Int32) (0 : Int32) (σ)
else
some (q43, σ) else none
def f_X5_laws_17 : Nat → Nat → Int32 → Int32 → Int32 → mS → Option (Int32 × mS)
  | 0, _, _, _, _, _ => none
  | n + 1, h0, x1, x3, x4, σ =>
    (gI (σ) h0 4 7).bind fun v20 =>
    if v20 ≤ x4 then
    some (x3, σ)
    else
    (gR (σ) h0 4 5).bind fun r22 =>
    (gR (σ) h0 4 3).bind fun r23 =>
    if isO (σ) r22 0 = true then
    (f_X0_become r22 r23 (σ)).bind fun q25 =>
    (gR q25 h0 4 5).bind fun r26 =>
    (gR q25 h0 4 0).bind fun r27 =>
    (aR q25 r27 1 x4).bind fun r28 =>
    (pR q25 r26 0 14 r28).bind fun t29 =>
    if isO t29 h0 4 = true then
    (f_X5_firstOtherwise h0 x1 t29).bind fun q31 =>
    vl (if q31.1 = (-1 : Int32) then ((1 : Int32) <<< (x4 &&& 31)) else (0 : Int32)) fun v33 =>
    vl (x3 ||| v33) fun v34 =>
    vl (x4 + (1 : Int32)) fun v35 =>
    f_X5_laws_17 n h0 x1 v34 v35 q31.2 else none else none
def f_X5_laws (h0 : Nat) (x1 : Int32) (σ : mS) : Option (Int32 × mS) :=
if isO (σ) h0 4 = true then
(f_X5_refusalOfTale h0 x1 (σ)).bind fun q37 =>
if q37 = 0 then
f_X5_laws_17 fU h0 x1 (0 : Int32) (0 : Int32) (σ)
else
some (q37, σ) else none
def f_X5_film_50 : Nat → Nat → Int32 → Nat → Int32 → mS → Option (Int32 × mS)
  | 0, _, _, _, _, _ => none
  | n + 1, h0, x2, h3, x4, σ =>
    if x2 ≤ x4 then
    some (x2, σ)
    else
    (gR (σ) h0 4 5).bind fun r21 =>
    if isO (σ) r21 0 = true then
    (f_X0_passHours r21 (1 : Int32) (σ)).bind fun q23 =>
    (gR q23.2 h0 4 5).bind fun r24 =>
    (gI q23.2 r24 0 11).bind fun v25 =>
    if isO q23.2 h3 2 = true then
    (f_X3_become h3 x4 (f_J6_bitCount v25) q23.2).bind fun q27 =>
    vl (x4 + (1 : Int32)) fun v28 =>
    f_X5_film_50 n h0 x2 h3 v28 q27 else none else none
def f_X5_film (h0 : Nat) (x1 : Int32) (x2 : Int32) (σ : mS) : Option (Int32 × mS) :=
if (f_X5_isBelow x1 (4 : Int32)) = 0 then
some ((-2 : Int32), σ)
else
if (f_X5_isBelow x2 (21 : Int32)) = 0 then
some ((-7 : Int32), σ)
else
(gR (σ) h0 4 2).bind fun r31 =>
(aR (σ) r31 2 x1).bind fun r32 =>
if isO (σ) r32 2 = true then
(f_X3_begin r32 (0 : Int32) x2 (σ)).bind fun q34 =>
(gR q34 h0 4 5).bind fun r35 =>
(gR q34 h0 4 3).bind fun r36 =>
if isO q34 r35 0 = true then
(f_X0_become r35 r36 q34).bind fun q38 =>
f_X5_film_50 fU h0 x2 r32 (0 : Int32) q38 else none else none
def f_X5_holdAssizes_78 (k19 : Nat → Int64 → Int32 → mS → Option mS) (h0 : Nat) (x2 : Int64) (x4 : Int32) (σ : mS) : Option mS :=
(gR (σ) h0 4 5).bind fun r24 =>
if isO (σ) r24 0 = true then
(f_X0_passHours r24 (1 : Int32) (σ)).bind fun q26 =>
vl (x4 + (1 : Int32)) fun v27 =>
k19 h0 x2 v27 q26.2 else none
def f_X5_holdAssizes_19 : Nat → Nat → Int64 → Int32 → mS → Option mS
  | 0, _, _, _, _ => none
  | n + 1, h0, x2, x4, σ =>
    if (10 : Int32) ≤ x4 then
    some (σ)
    else
    vl ((x2 * (48271 : Int64)) - (x2 * (48271 : Int64)) / (2147483647 : Int64) * (2147483647 : Int64)) fun v29 =>
    vl ((v29 - v29 / (8 : Int64) * (8 : Int64)).toInt32) fun v30 =>
    (gR (σ) h0 4 5).bind fun r31 =>
    if isO (σ) r31 0 = true then
    (f_X0_hasWitness r31 v30 (σ)).bind fun q33 =>
    if q33 = 0 then
    f_X5_holdAssizes_78 (f_X5_holdAssizes_19 n) h0 v29 x4 (σ)
    else
    (gR (σ) h0 4 5).bind fun r35 =>
    if isO (σ) r35 0 = true then
    (f_X0_canLetFall r35 v30 (σ)).bind fun q37 =>
    if q37 = 0 then
    f_X5_holdAssizes_78 (f_X5_holdAssizes_19 n) h0 v29 x4 (σ)
    else
    (gR (σ) h0 4 5).bind fun r39 =>
    if isO (σ) r39 0 = true then
    (f_X0_letFall r39 v30 (σ)).bind fun q41 =>
    f_X5_holdAssizes_78 (f_X5_holdAssizes_19 n) h0 v29 x4 q41.2 else none else none else none
def f_X5_holdAssizes (h0 : Nat) (x1 : Int32) (σ : mS) : Option mS :=
(gR (σ) h0 4 5).bind fun r42 =>
(gR (σ) h0 4 3).bind fun r43 =>
if isO (σ) r42 0 = true then
(f_X0_become r42 r43 (σ)).bind fun q45 =>
vl (x1.toInt64 + (1 : Int64)) fun v46 =>
f_X5_holdAssizes_19 fU h0 v46 (0 : Int32) q45 else none
def f_X5_drawn (h0 : Nat) (x1 : Int32) (x2 : Int32) (σ : mS) : Option (Int32 × mS) :=
if (f_X5_isBelow x1 (100000 : Int32)) = 0 then
some ((-5000 : Int32), σ)
else
if (f_X5_isBelow x2 (2 : Int32)) = 0 then
some ((-5000 : Int32), σ)
else
if isO (σ) h0 4 = true then
(f_X5_holdAssizes h0 x1 (σ)).bind fun q14 =>
if x2 = 0 then
(gR q14 h0 4 5).bind fun r18 =>
if isO q14 r18 0 = true then
(f_X0_verdict r18 q14).bind fun q20 =>
some (q20, q14) else none
else
(gR q14 h0 4 5).bind fun r16 =>
(gI q14 r16 0 11).bind fun v17 =>
some (v17, q14) else none
def f_X5_odds_57 : Nat → Nat → Int32 → Int32 → Int32 → Int32 → Int32 → Int32 → mS → Option (Int64 × mS)
  | 0, _, _, _, _, _, _, _, _ => none
  | n + 1, h0, x1, x2, x3, x4, x6, x7, σ =>
    if x2 ≤ x7 then
    (f_X5_lowest x6 x2 x4).bind fun q20 =>
    some (q20, σ)
    else
    if isO (σ) h0 4 = true then
    (f_X5_holdAssizes h0 (x1 + x7) (σ)).bind fun q22 =>
    (gR q22 h0 4 5).bind fun r23 =>
    if isO q22 r23 0 = true then
    (f_X0_verdict r23 q22).bind fun q25 =>
    vl (if q25 < x3 then (0 : Int32) else (1 : Int32)) fun v27 =>
    vl (x6 + v27) fun v28 =>
    vl (x7 + (1 : Int32)) fun v29 =>
    f_X5_odds_57 n h0 x1 x2 x3 x4 v28 v29 q22 else none else none
def f_X5_odds (h0 : Nat) (x1 : Int32) (x2 : Int32) (x3 : Int32) (x4 : Int32) (σ : mS) : Option (Int64 × mS) :=
vl (if (f_X5_isBelow x1 (100000 : Int32)) = 0 then (0 : Int32) else if x2 < (1 : Int32) then (0 : Int32) else if (40 : Int32) < x2 then (0 : Int32) else (1 : Int32)) fun v33 =>
if v33 = 0 then
some ((-4611686018427387904 : Int64), σ)
else
if x3 < (-999 : Int32) then
some ((-4611686018427387904 : Int64), σ)
else
if x3 ≤ (999 : Int32) then
f_X5_odds_57 fU h0 x1 x2 x3 x4 (0 : Int32) (0 : Int32) (σ)
else
some ((-4611686018427387904 : Int64), σ)
def f_X5_image (h0 : Nat) (σ : mS) : Option (Int32 × mS) :=
(gR (σ) h0 4 4).bind fun r8 =>
(gR (σ) h0 4 3).bind fun r9 =>
if isO (σ) r8 0 = true then
(f_X0_become r8 r9 (σ)).bind fun q11 =>
(pI q11 h0 4 8 (1 : Int32)).bind fun t12 =>
(gR t12 h0 4 3).bind fun r13 =>
(gI t12 r13 0 13).bind fun v14 =>
some (v14, t12) else none
def f_X5_back (h0 : Nat) (σ : mS) : Option (Int32 × mS) :=
(gI (σ) h0 4 8).bind fun v9 =>
if v9 = 0 then
some ((-3 : Int32), σ)
else
(gR (σ) h0 4 3).bind fun r11 =>
(gR (σ) h0 4 4).bind fun r12 =>
if isO (σ) r11 0 = true then
(f_X0_become r11 r12 (σ)).bind fun q14 =>
(gR q14 h0 4 3).bind fun r15 =>
(gI q14 r15 0 13).bind fun v16 =>
some (v16, q14) else none
def f_X5_sheet_47 (h0 : Nat) (x1 : Int32) (x2 : Int32) (x3 : Int32) (σ : mS) : Option (Int32 × mS) :=
(gR (σ) h0 4 2).bind fun r14 =>
(aR (σ) r14 2 x1).bind fun r15 =>
vl (if x2 = (-1 : Int32) then (0 : Int32) else x3) fun v17 =>
if isO (σ) r15 2 = true then
(f_X3_begin r15 x2 v17 (σ)).bind fun q19 =>
some ((1 : Int32), q19) else none
def f_X5_sheet_35 (h0 : Nat) (x1 : Int32) (x2 : Int32) (x3 : Int32) (σ : mS) : Option (Int32 × mS) :=
if x2 = (-1 : Int32) then
f_X5_sheet_47 h0 x1 x2 x3 (σ)
else
if 0 ≤ x3 then
f_X5_sheet_47 h0 x1 x2 x3 (σ)
else
some ((-14 : Int32), σ)
def f_X5_sheet (h0 : Nat) (x1 : Int32) (x2 : Int32) (x3 : Int32) (σ : mS) : Option (Int32 × mS) :=
if (f_X5_isBelow x1 (4 : Int32)) = 0 then
some ((-2 : Int32), σ)
else
if x2 < (-1 : Int32) then
some ((-2 : Int32), σ)
else
if x2 ≤ (2 : Int32) then
if x2 = (-1 : Int32) then
f_X5_sheet_35 h0 x1 x2 x3 (σ)
else
if x3 ≤ (40 : Int32) then
f_X5_sheet_35 h0 x1 x2 x3 (σ)
else
some ((-2 : Int32), σ)
else
some ((-2 : Int32), σ)
def f_X5_cell (h0 : Nat) (x1 : Int32) (x2 : Int32) (x3 : Int32) (σ : mS) : Option (Int32 × mS) :=
if (f_X5_isBelow x1 (4 : Int32)) = 0 then
some ((-2 : Int32), σ)
else
(gR (σ) h0 4 2).bind fun r16 =>
(aR (σ) r16 2 x1).bind fun r17 =>
if isO (σ) r17 2 = true then
(f_X3_isMissing r17 (σ)).bind fun q19 =>
if q19 = 0 then
(gR (σ) h0 4 2).bind fun r21 =>
(aR (σ) r21 2 x1).bind fun r22 =>
(gI (σ) r22 2 2).bind fun v23 =>
if (f_X5_isBelow x2 v23) = 0 then
some ((-12 : Int32), σ)
else
(gR (σ) h0 4 2).bind fun r25 =>
(aR (σ) r25 2 x1).bind fun r26 =>
if isO (σ) r26 2 = true then
(f_X3_become r26 x2 x3 (σ)).bind fun q28 =>
some ((1 : Int32), q28) else none
else
some ((-11 : Int32), σ) else none
def f_X5_copy (h0 : Nat) (x1 : Int32) (x2 : Int32) (x3 : Int32) (x4 : Int32) (x5 : Int32) (σ : mS) : Option (Int32 × mS) :=
if (f_X5_isBelow x1 (4 : Int32)) = 0 then
some ((-2 : Int32), σ)
else
if (f_X5_isBelow x3 (4 : Int32)) = 0 then
some ((-2 : Int32), σ)
else
(gR (σ) h0 4 2).bind fun r27 =>
(aR (σ) r27 2 x1).bind fun r28 =>
(gR (σ) h0 4 2).bind fun r29 =>
(aR (σ) r29 2 x3).bind fun r30 =>
if isO (σ) r28 2 = true then
(f_X3_isMissing r28 (σ)).bind fun q32 =>
if q32 = 0 then
if isO (σ) r30 2 = true then
(f_X3_isMissing r30 (σ)).bind fun q35 =>
if q35 = 0 then
(gI (σ) r28 2 1).bind fun v37 =>
(gI (σ) r30 2 1).bind fun v38 =>
if v37 = v38 then
if isO (σ) r28 2 = true then
(f_X3_has r28 x2 x5 (σ)).bind fun q41 =>
if q41 = 0 then
some ((-12 : Int32), σ)
else
if isO (σ) r30 2 = true then
(f_X3_has r30 x4 x5 (σ)).bind fun q44 =>
if q44 = 0 then
some ((-12 : Int32), σ)
else
(gR (σ) r28 2 0).bind fun r46 =>
(gR (σ) r30 2 0).bind fun r47 =>
(cP (σ) r46 x2 r47 x4 x5).bind fun t48 =>
some (x5, t48) else none else none
else
some ((-13 : Int32), σ)
else
some ((-11 : Int32), σ) else none
else
some ((-11 : Int32), σ) else none
def f_X5_witnessesBy_66 : Nat → Nat → Int32 → Int32 → Nat → Int32 → Int32 → mS → Option (Int32 × mS)
  | 0, _, _, _, _, _, _, _ => none
  | n + 1, h0, x3, x4, h5, x6, x7, σ =>
    if x4 ≤ x7 then
    some (x6, σ)
    else
    vl (x3 + ((3 : Int32) * x7)) fun v29 =>
    if isO (σ) h5 2 = true then
    (f_X3_has h5 v29 (3 : Int32) (σ)).bind fun q31 =>
    if q31 = 0 then
    some ((-12 : Int32), σ)
    else
    (gR (σ) h5 2 0).bind fun r33 =>
    (aI (σ) r33 v29).bind fun v34 =>
    (gR (σ) h5 2 0).bind fun r35 =>
    (aI (σ) r35 (v29 + (1 : Int32))).bind fun v36 =>
    (gR (σ) h5 2 0).bind fun r37 =>
    (aI (σ) r37 (v29 + (2 : Int32))).bind fun v38 =>
    if isO (σ) h0 4 = true then
    (f_X5_witness h0 v34 v36 v38 (σ)).bind fun q40 =>
    vl (if q40.1 < 0 then (0 : Int32) else (1 : Int32)) fun v42 =>
    vl (x6 + v42) fun v43 =>
    vl (x7 + (1 : Int32)) fun v44 =>
    f_X5_witnessesBy_66 n h0 x3 x4 h5 v43 v44 q40.2 else none else none
def f_X5_witnessesBy (h0 : Nat) (x1 : Int32) (x2 : Int32) (x3 : Int32) (x4 : Int32) (σ : mS) : Option (Int32 × mS) :=
if (f_X5_isBelow x1 (4 : Int32)) = 0 then
some ((-2 : Int32), σ)
else
if (f_X5_isBelow x2 (3 : Int32)) = 0 then
some ((-2 : Int32), σ)
else
if (f_X5_isBelow x4 (7 : Int32)) = 0 then
some ((-2 : Int32), σ)
else
(gR (σ) h0 4 2).bind fun r48 =>
(aR (σ) r48 2 x1).bind fun r49 =>
if isO (σ) r49 2 = true then
(f_X3_isMissing r49 (σ)).bind fun q51 =>
if q51 = 0 then
(gI (σ) r49 2 1).bind fun v53 =>
if v53 = x2 then
f_X5_witnessesBy_66 fU h0 x3 x4 r49 (0 : Int32) (0 : Int32) (σ)
else
some ((-13 : Int32), σ)
else
some ((-11 : Int32), σ) else none
def f_X5_taken_71 (σ : mS) (h0 : Nat) (x1 : Int32) (x2 : Int32) (x3 : Int32) : Option Int32 :=
if x3 = 0 then
if x2 = (6 : Int32) then
(gR (σ) h0 4 3).bind fun r25 =>
(gR (σ) r25 0 8).bind fun r26 =>
(aI (σ) r26 (x1 - (6 : Int32))).bind fun v27 =>
some v27
else
some (-13 : Int32)
else
(gR (σ) h0 4 3).bind fun r28 =>
(gR (σ) r28 0 2).bind fun r29 =>
(aI (σ) r29 x1).bind fun v30 =>
if (f_X1_isOne v30 x2) = 0 then
some (-13 : Int32)
else
some x1
def f_X5_taken (h0 : Nat) (x1 : Int32) (x2 : Int32) (σ : mS) : Option Int32 :=
if (f_X5_isBelow x2 (7 : Int32)) = 0 then
some (-2 : Int32)
else
if (f_X5_isBelow x1 (14 : Int32)) = 0 then
some (-12 : Int32)
else
vl (if (6 : Int32) ≤ x1 then (0 : Int32) else (1 : Int32)) fun v35 =>
if v35 = 0 then
(gR (σ) h0 4 3).bind fun r37 =>
if isO (σ) r37 0 = true then
(f_X0_lies r37 (x1 - (6 : Int32)) (σ)).bind fun q39 =>
if q39 = 0 then
some (-11 : Int32)
else
f_X5_taken_71 σ h0 x1 x2 v35 else none
else
(gR (σ) h0 4 3).bind fun r41 =>
if isO (σ) r41 0 = true then
(f_X0_hasWitness r41 x1 (σ)).bind fun q43 =>
if q43 = 0 then
some (-11 : Int32)
else
f_X5_taken_71 σ h0 x1 x2 v35 else none
def f_X6_in (x0 : Int32) (x1 : Int32) (x2 : Int32) : Int32 :=
if x0 < x1 then
(0 : Int32)
else
if x2 < x0 then
(0 : Int32)
else
(1 : Int32)
def f_X6_within (x0 : Int32) (x1 : Int32) (x2 : Int32) : Int32 :=
if x1 ≤ x0 then
if x0 ≤ x2 then
x0
else
x2
else
x1
def f_X6_onesOf_4 : Nat → Int32 → Int32 → Int32 → Option Int32
  | 0, _, _, _ => none
  | n + 1, x0, x1, x2 =>
    if (10 : Int32) ≤ x2 then
    some x1
    else
    vl (x1 + ((x0 >>> (x2 &&& 31)) &&& (1 : Int32))) fun v5 =>
    vl (x2 + (1 : Int32)) fun v6 =>
    f_X6_onesOf_4 n x0 v5 v6
def f_X6_onesOf (x0 : Int32) : Option Int32 :=
f_X6_onesOf_4 fU x0 (0 : Int32) (0 : Int32)
def f_X6_nthOf_4 : Nat → Int32 → Int32 → Int32 → Int32 → Option Int32
  | 0, _, _, _, _ => none
  | n + 1, x0, x1, x2, x3 =>
    if (10 : Int32) ≤ x3 then
    some (-1 : Int32)
    else
    if ((x0 >>> (x3 &&& 31)) &&& (1 : Int32)) = (1 : Int32) then
    if x2 = x1 then
    some x3
    else
    vl (x2 + (1 : Int32)) fun v11 =>
    vl (x3 + (1 : Int32)) fun v12 =>
    f_X6_nthOf_4 n x0 x1 v11 v12
    else
    vl (x3 + (1 : Int32)) fun v9 =>
    f_X6_nthOf_4 n x0 x1 x2 v9
def f_X6_nthOf (x0 : Int32) (x1 : Int32) : Option Int32 :=
f_X6_nthOf_4 fU x0 x1 (0 : Int32) (0 : Int32)
def f_X6_isOne (h0 : Nat) (x1 : Int32) (σ : mS) : Option Int32 :=
(gI (σ) h0 5 0).bind fun v2 =>
some (f_X6_in x1 (0 : Int32) (v2 - (1 : Int32)))
def f_X6_isLinen (h0 : Nat) (x1 : Int32) (σ : mS) : Option Int32 :=
if (f_X6_in x1 (0 : Int32) (7 : Int32)) = 0 then
some (0 : Int32)
else
(gR (σ) h0 5 4).bind fun r6 =>
(aI (σ) r6 ((3 : Int32) * (f_X6_within x1 (0 : Int32) (7 : Int32)))).bind fun v7 =>
if v7 = (-1 : Int32) then
some (0 : Int32)
else
some (1 : Int32)
def f_X6_lying_4 (σ : mS) : Nat → Nat → Int32 → Int32 → Option Int32
  | 0, _, _, _ => none
  | n + 1, h0, x1, x2 =>
    if (8 : Int32) ≤ x2 then
    some x1
    else
    if isO (σ) h0 5 = true then
    (f_X6_isLinen h0 x2 (σ)).bind fun q10 =>
    vl (if q10 = 0 then (0 : Int32) else (1 : Int32)) fun v12 =>
    vl (x1 + v12) fun v13 =>
    vl (x2 + (1 : Int32)) fun v14 =>
    f_X6_lying_4 σ n h0 v13 v14 else none
def f_X6_lying (h0 : Nat) (σ : mS) : Option Int32 :=
f_X6_lying_4 σ fU h0 (0 : Int32) (0 : Int32)
def f_X6_verdictOf_4 (σ : mS) : Nat → Nat → Int32 → Int32 → Int32 → Option Int32
  | 0, _, _, _, _ => none
  | n + 1, h0, x1, x2, x3 =>
    if (10 : Int32) ≤ x3 then
    some x2
    else
    if ((x1 >>> (x3 &&& 31)) &&& (1 : Int32)) = (1 : Int32) then
    (gR (σ) h0 5 5).bind fun r13 =>
    (aI (σ) r13 x3).bind fun v14 =>
    vl (x2 + v14) fun v15 =>
    vl (x3 + (1 : Int32)) fun v16 =>
    f_X6_verdictOf_4 σ n h0 x1 v15 v16
    else
    vl (x2 + (0 : Int32)) fun v11 =>
    vl (x3 + (1 : Int32)) fun v12 =>
    f_X6_verdictOf_4 σ n h0 x1 v11 v12
def f_X6_verdictOf (h0 : Nat) (x1 : Int32) (σ : mS) : Option Int32 :=
f_X6_verdictOf_4 σ fU h0 x1 (0 : Int32) (0 : Int32)
def f_X6_count (h0 : Nat) (x1 : Int32) (σ : mS) : Option Int32 :=
if x1 = (0 : Int32) then
(gI (σ) h0 5 0).bind fun v15 =>
some v15
else if x1 = (1 : Int32) then
(gI (σ) h0 5 8).bind fun v17 =>
some v17
else if x1 = (2 : Int32) then
if isO (σ) h0 5 = true then
(f_X6_lying h0 (σ)).bind fun q20 =>
some q20 else none
else if x1 = (3 : Int32) then
(gI (σ) h0 5 13).bind fun v22 =>
some v22
else if x1 = (4 : Int32) then
(gI (σ) h0 5 14).bind fun v24 =>
some v24
else if x1 = (5 : Int32) then
(gI (σ) h0 5 10).bind fun v26 =>
some v26
else 
some (-2 : Int32)
def f_X6_isThere (x0 : Int32) (x1 : Int32) : Int32 :=
if x0 = 0 then
(f_X6_in x1 (0 : Int32) (9 : Int32))
else
if x0 = (1 : Int32) then
if (f_X6_in x1 (0 : Int32) (5 : Int32)) = 0 then
(0 : Int32)
else
(1 : Int32)
else
(1 : Int32)
def f_X6_court (h0 : Nat) (x1 : Int32) (x2 : Int32) (x3 : Int32) (σ : mS) : Option (Int32 × mS) :=
if (f_X6_in x1 (0 : Int32) (3 : Int32)) = 0 then
some ((-5000 : Int32), σ)
else
if (f_X6_isThere x1 x2) = 0 then
some ((-5000 : Int32), σ)
else
vl (if (2 : Int32) ≤ x1 then if x1 = (2 : Int32) then (999 : Int32) else (1023 : Int32) else (99 : Int32)) fun v28 =>
vl (if x1 = 0 then (-99 : Int32) else (0 : Int32)) fun v30 =>
if (f_X6_in x3 v30 v28) = 0 then
some ((-7000 : Int32), σ)
else
if x1 = (0 : Int32) then
(gR (σ) h0 5 5).bind fun r33 =>
(aI (σ) r33 x2).bind fun v34 =>
(gR (σ) h0 5 5).bind fun r35 =>
(sI (σ) r35 x2 x3).bind fun t36 =>
some (v34, t36)
else if x1 = (1 : Int32) then
(gR (σ) h0 5 6).bind fun r38 =>
(aI (σ) r38 x2).bind fun v39 =>
(gR (σ) h0 5 6).bind fun r40 =>
(sI (σ) r40 x2 x3).bind fun t41 =>
some (v39, t41)
else if x1 = (2 : Int32) then
(gI (σ) h0 5 8).bind fun v43 =>
(pI (σ) h0 5 8 x3).bind fun t44 =>
some (v43, t44)
else 
(gI (σ) h0 5 7).bind fun v45 =>
(pI (σ) h0 5 7 x3).bind fun t46 =>
some (v45, t46)
def f_X6_bench (h0 : Nat) (x1 : Int32) (x2 : Int32) (σ : mS) : Option Int32 :=
if (f_X6_in x1 (0 : Int32) (4 : Int32)) = 0 then
some (-5000 : Int32)
else
if (f_X6_isThere x1 x2) = 0 then
some (-5000 : Int32)
else
if x1 = (0 : Int32) then
(gR (σ) h0 5 5).bind fun r19 =>
(aI (σ) r19 x2).bind fun v20 =>
some v20
else if x1 = (1 : Int32) then
(gR (σ) h0 5 6).bind fun r22 =>
(aI (σ) r22 x2).bind fun v23 =>
some v23
else if x1 = (2 : Int32) then
(gI (σ) h0 5 7).bind fun v25 =>
some v25
else if x1 = (3 : Int32) then
(gI (σ) h0 5 7).bind fun v27 =>
if isO (σ) h0 5 = true then
(f_X6_verdictOf h0 v27 (σ)).bind fun q29 =>
some q29 else none
else 
(gI (σ) h0 5 8).bind fun v30 =>
some (v30 - v30 / (6 : Int32) * (6 : Int32))
def f_X6_isByte (x0 : Int32) : Int32 :=
(f_X6_in x0 (0 : Int32) (255 : Int32))
def f_X6_feed_68 : Nat → Nat → Int32 → Int32 → Int32 → Int32 → Int32 → Int32 → Int32 → mS → Option (Int32 × mS)
  | 0, _, _, _, _, _, _, _, _, _ => none
  | n + 1, h0, x1, x2, x3, x4, x5, x6, x7, σ =>
    if x1 ≤ x7 then
    (gI (σ) h0 5 10).bind fun v23 =>
    some (v23, σ)
    else
    (gR (σ) h0 5 9).bind fun r24 =>
    (gI (σ) h0 5 10).bind fun v25 =>
    vl (if x7 = 0 then x2 else if x7 = (1 : Int32) then x3 else if x7 = (2 : Int32) then x4 else if x7 = (3 : Int32) then x5 else x6) fun v30 =>
    (sI (σ) r24 v25 v30).bind fun t31 =>
    (gI t31 h0 5 10).bind fun v32 =>
    (pI t31 h0 5 10 (v32 + (1 : Int32))).bind fun t33 =>
    vl (x7 + (1 : Int32)) fun v34 =>
    f_X6_feed_68 n h0 x1 x2 x3 x4 x5 x6 v34 t33
def f_X6_feed (h0 : Nat) (x1 : Int32) (x2 : Int32) (x3 : Int32) (x4 : Int32) (x5 : Int32) (x6 : Int32) (σ : mS) : Option (Int32 × mS) :=
if (f_X6_in x1 (1 : Int32) (5 : Int32)) = 0 then
some ((-2 : Int32), σ)
else
if (f_X6_isByte x2) = 0 then
some ((-2 : Int32), σ)
else
if (f_X6_isByte x3) = 0 then
some ((-2 : Int32), σ)
else
if (f_X6_isByte x4) = 0 then
some ((-2 : Int32), σ)
else
if (f_X6_isByte x5) = 0 then
some ((-2 : Int32), σ)
else
if (f_X6_isByte x6) = 0 then
some ((-2 : Int32), σ)
else
(gI (σ) h0 5 10).bind fun v41 =>
if (v41 + x1) ≤ (160 : Int32) then
f_X6_feed_68 fU h0 x1 x2 x3 x4 x5 x6 (0 : Int32) (σ)
else
some ((-4 : Int32), σ)
def f_X6_wordFrom_72 (σ : mS) (k26 : Nat → Int32 → Int32 → Int32 → Int32 → Int32 → Option Int32) (h0 : Nat) (x1 : Int32) (x2 : Int32) (x3 : Int32) (x5 : Int32) (s0 : Int32) (s1 : Int32) : Option Int32 :=
vl (if s0 = s1 then (1 : Int32) else (0 : Int32)) fun v17 =>
vl (x5 + (1 : Int32)) fun v18 =>
k26 h0 x1 x2 x3 v17 v18
def f_X6_wordFrom_26 (σ : mS) (k88 : Nat → Int32 → Int32 → Int32 → Int32 → Option Int32) : Nat → Nat → Int32 → Int32 → Int32 → Int32 → Int32 → Option Int32
  | 0, _, _, _, _, _, _ => none
  | n + 1, h0, x1, x2, x3, x4, x5 =>
    if (8 : Int32) ≤ x5 then
    k88 h0 x1 x2 x3 x4
    else
    if x4 = 0 then
    k88 h0 x1 x2 x3 x4
    else
    (gR (σ) h0 5 26).bind fun r21 =>
    (aI (σ) r21 (((8 : Int32) * x3) + x5)).bind fun v22 =>
    if x2 ≤ (x1 + x5) then
    f_X6_wordFrom_72 σ (f_X6_wordFrom_26 σ k88 n) h0 x1 x2 x3 x5 v22 (32 : Int32)
    else
    (gR (σ) h0 5 9).bind fun r24 =>
    (aI (σ) r24 (x1 + x5)).bind fun v25 =>
    f_X6_wordFrom_72 σ (f_X6_wordFrom_26 σ k88 n) h0 x1 x2 x3 x5 v22 v25
def f_X6_wordFrom_2 (σ : mS) : Nat → Nat → Int32 → Int32 → Int32 → Option Int32
  | 0, _, _, _, _ => none
  | n + 1, h0, x1, x2, x3 =>
    if (12 : Int32) ≤ x3 then
    some (12 : Int32)
    else
    vl (if (8 : Int32) < (x2 - x1) then (0 : Int32) else (1 : Int32)) fun v28 =>
    f_X6_wordFrom_26 σ (fun h0 x1 x2 x3 x4 => if x4 = 0 then
    vl (x3 + (1 : Int32)) fun v30 =>
    f_X6_wordFrom_2 σ n h0 x1 x2 v30
    else
    some x3) fU h0 x1 x2 x3 v28 (0 : Int32)
def f_X6_wordFrom (h0 : Nat) (x1 : Int32) (x2 : Int32) (σ : mS) : Option Int32 :=
f_X6_wordFrom_2 σ fU h0 x1 x2 (0 : Int32)
def f_X6_next_39 (k0 : Nat → mS → Option mS) (h0 : Nat) (σ : mS) : Option mS :=
(gI (σ) h0 5 22).bind fun v80 =>
(pI (σ) h0 5 22 (v80 + (1 : Int32))).bind fun t81 =>
k0 h0 t81
def f_X6_next_0 (k52 : Nat → mS → Option mS) : Nat → Nat → mS → Option mS
  | 0, _, _ => none
  | n + 1, h0, σ =>
    (gI (σ) h0 5 22).bind fun v82 =>
    (gI (σ) h0 5 10).bind fun v83 =>
    if v83 ≤ v82 then
    k52 h0 (σ)
    else
    (gR (σ) h0 5 9).bind fun r85 =>
    (gI (σ) h0 5 22).bind fun v86 =>
    (aI (σ) r85 v86).bind fun v87 =>
    if v87 = (32 : Int32) then
    f_X6_next_39 (f_X6_next_0 k52 n) h0 (σ)
    else
    (gR (σ) h0 5 9).bind fun r89 =>
    (gI (σ) h0 5 22).bind fun v90 =>
    (aI (σ) r89 v90).bind fun v91 =>
    if v91 = (10 : Int32) then
    f_X6_next_39 (f_X6_next_0 k52 n) h0 (σ)
    else
    k52 h0 (σ)
def f_X6_next_103 (k146 : Nat → mS → Option mS) : Nat → Nat → mS → Option mS
  | 0, _, _ => none
  | n + 1, h0, σ =>
    (gI (σ) h0 5 22).bind fun v93 =>
    (gI (σ) h0 5 10).bind fun v94 =>
    if v94 ≤ v93 then
    k146 h0 (σ)
    else
    (gR (σ) h0 5 9).bind fun r96 =>
    (gI (σ) h0 5 22).bind fun v97 =>
    (aI (σ) r96 v97).bind fun v98 =>
    if (f_X6_in v98 (97 : Int32) (122 : Int32)) = 0 then
    k146 h0 (σ)
    else
    (gI (σ) h0 5 22).bind fun v100 =>
    (pI (σ) h0 5 22 (v100 + (1 : Int32))).bind fun t101 =>
    f_X6_next_103 k146 n h0 t101
def f_X6_next_290 (k230 : Nat → Int32 → mS → Option mS) (h0 : Nat) (x2 : Int32) (s0 : Nat) (s1 : Int32) (σ : mS) : Option mS :=
(pI (σ) s0 5 25 s1).bind fun t102 =>
vl (x2 + (1 : Int32)) fun v103 =>
(gI t102 h0 5 22).bind fun v104 =>
(pI t102 h0 5 22 (v104 + (1 : Int32))).bind fun t105 =>
k230 h0 v103 t105
def f_X6_next_230 (k309 : Nat → Int32 → mS → Option mS) : Nat → Nat → Int32 → mS → Option mS
  | 0, _, _, _ => none
  | n + 1, h0, x2, σ =>
    (gI (σ) h0 5 22).bind fun v106 =>
    (gI (σ) h0 5 10).bind fun v107 =>
    if v107 ≤ v106 then
    k309 h0 x2 (σ)
    else
    (gR (σ) h0 5 9).bind fun r109 =>
    (gI (σ) h0 5 22).bind fun v110 =>
    (aI (σ) r109 v110).bind fun v111 =>
    if (f_X6_in v111 (48 : Int32) (57 : Int32)) = 0 then
    k309 h0 x2 (σ)
    else
    if (4 : Int32) ≤ x2 then
    f_X6_next_290 (f_X6_next_230 k309 n) h0 x2 h0 (0 : Int32) (σ)
    else
    (gI (σ) h0 5 25).bind fun v114 =>
    (gR (σ) h0 5 9).bind fun r115 =>
    (gI (σ) h0 5 22).bind fun v116 =>
    (aI (σ) r115 v116).bind fun v117 =>
    f_X6_next_290 (f_X6_next_230 k309 n) h0 x2 h0 ((((10 : Int32) * v114) + v117) - (48 : Int32)) (σ)
def f_X6_next_379 (h0 : Nat) (x1 : Int32) (s0 : Int32) (σ : mS) : Option mS :=
vl (if s0 = 0 then (-1 : Int32) else x1) fun v119 =>
(pI (σ) h0 5 24 v119).bind fun t120 =>
(gI t120 h0 5 22).bind fun v121 =>
(pI t120 h0 5 22 (v121 + (1 : Int32))).bind fun t122 =>
some t122
def f_X6_next (h0 : Nat) (σ : mS) : Option mS :=
f_X6_next_0 (fun h0 σ => (gI (σ) h0 5 22).bind fun v123 =>
(pI (σ) h0 5 23 v123).bind fun t124 =>
(pI t124 h0 5 24 (0 : Int32)).bind fun t125 =>
(pI t125 h0 5 25 (0 : Int32)).bind fun t126 =>
(gI t126 h0 5 22).bind fun v127 =>
(gI t126 h0 5 10).bind fun v128 =>
if v127 = v128 then
some t126
else
(gR t126 h0 5 9).bind fun r130 =>
(gI t126 h0 5 22).bind fun v131 =>
(aI t126 r130 v131).bind fun v132 =>
if (f_X6_in v132 (97 : Int32) (122 : Int32)) = 0 then
if (f_X6_in v132 (48 : Int32) (57 : Int32)) = 0 then
if v132 = (40 : Int32) then
f_X6_next_379 h0 v132 (1 : Int32) t126
else
vl (if v132 = (41 : Int32) then (1 : Int32) else if v132 = (59 : Int32) then (1 : Int32) else if v132 = (43 : Int32) then (1 : Int32) else if v132 = (45 : Int32) then (1 : Int32) else if v132 = (42 : Int32) then (1 : Int32) else if v132 = (60 : Int32) then (1 : Int32) else if v132 = (61 : Int32) then (1 : Int32) else (0 : Int32)) fun v143 =>
f_X6_next_379 h0 v132 v143 t126
else
f_X6_next_230 (fun h0 x2 σ => vl (if x2 ≤ (4 : Int32) then (1 : Int32) else (-1 : Int32)) fun v145 =>
(pI (σ) h0 5 24 v145).bind fun t146 =>
some t146) fU h0 (0 : Int32) t126
else
f_X6_next_103 (fun h0 σ => (gI (σ) h0 5 23).bind fun v147 =>
(gI (σ) h0 5 22).bind fun v148 =>
if isO (σ) h0 5 = true then
(f_X6_wordFrom h0 v147 v148 (σ)).bind fun q150 =>
vl (if (3 : Int32) ≤ q150 then if (9 : Int32) ≤ q150 then if q150 = (12 : Int32) then (-1 : Int32) else (((4 : Int32) + q150) - (9 : Int32)) else (2 : Int32) else (3 : Int32)) fun v154 =>
(pI (σ) h0 5 24 v154).bind fun t155 =>
vl (if (3 : Int32) ≤ q150 then (q150 - (3 : Int32)) else q150) fun v157 =>
(pI t155 h0 5 25 v157).bind fun t158 =>
some t158 else none) fU h0 t126) fU h0 (σ)
def f_X6_rank (x0 : Int32) : Int32 :=
if x0 = 0 then
(0 : Int32)
else
if x0 = (11 : Int32) then
(1 : Int32)
else
if x0 = (12 : Int32) then
(2 : Int32)
else
if x0 = (13 : Int32) then
(3 : Int32)
else
if (15 : Int32) < x0 then
if (17 : Int32) < x0 then
if x0 = (18 : Int32) then
(6 : Int32)
else
(7 : Int32)
else
(5 : Int32)
else
(4 : Int32)
def f_X6_puts (h0 : Nat) (x1 : Int32) (σ : mS) : Option mS :=
(gR (σ) h0 5 11).bind fun r7 =>
(gI (σ) h0 5 13).bind fun v8 =>
(gI (σ) h0 5 30).bind fun v9 =>
(sI (σ) r7 (((200 : Int32) * v8) + v9) x1).bind fun t10 =>
(gI t10 h0 5 30).bind fun v11 =>
(pI t10 h0 5 30 (v11 + (1 : Int32))).bind fun t12 =>
some t12
def f_X6_unwinds_0 : Nat → Nat → Int32 → mS → Option mS
  | 0, _, _, _ => none
  | n + 1, h0, x1, σ =>
    (gI (σ) h0 5 28).bind fun v19 =>
    if v19 ≤ 0 then
    some (σ)
    else
    (gR (σ) h0 5 27).bind fun r21 =>
    (gI (σ) h0 5 28).bind fun v22 =>
    (aI (σ) r21 (v22 - (1 : Int32))).bind fun v23 =>
    if (f_X6_rank v23) < x1 then
    some (σ)
    else
    (gI (σ) h0 5 28).bind fun v25 =>
    (pI (σ) h0 5 28 (v25 - (1 : Int32))).bind fun t26 =>
    (gR t26 h0 5 27).bind fun r27 =>
    (gI t26 h0 5 28).bind fun v28 =>
    (aI t26 r27 v28).bind fun v29 =>
    (gI t26 h0 5 29).bind fun v30 =>
    vl (if v29 = (13 : Int32) then (1 : Int32) else if v29 = (19 : Int32) then (1 : Int32) else (0 : Int32)) fun v33 =>
    (pI t26 h0 5 29 (v30 - v33)).bind fun t34 =>
    if isO t34 h0 5 = true then
    (f_X6_puts h0 v29 t34).bind fun q36 =>
    f_X6_unwinds_0 n h0 x1 q36 else none
def f_X6_unwinds (h0 : Nat) (x1 : Int32) (σ : mS) : Option mS :=
f_X6_unwinds_0 fU h0 x1 (σ)
def f_X6_holds (h0 : Nat) (x1 : Int32) (σ : mS) : Option mS :=
(gR (σ) h0 5 27).bind fun r6 =>
(gI (σ) h0 5 28).bind fun v7 =>
(sI (σ) r6 v7 x1).bind fun t8 =>
(gI t8 h0 5 28).bind fun v9 =>
(pI t8 h0 5 28 (v9 + (1 : Int32))).bind fun t10 =>
some t10
def f_X6_opensOne (h0 : Nat) (x1 : Int32) (σ : mS) : Option (Int32 × mS) :=
(gI (σ) h0 5 29).bind fun v7 =>
if v7 = (5 : Int32) then
some ((0 : Int32), σ)
else
(gI (σ) h0 5 29).bind fun v9 =>
(pI (σ) h0 5 29 (v9 + (1 : Int32))).bind fun t10 =>
if isO t10 h0 5 = true then
(f_X6_holds h0 x1 t10).bind fun q12 =>
some ((1 : Int32), q12) else none
def f_X6_between_55 (h0 : Nat) (x1 : Int32) (σ : mS) : Option (Int32 × mS) :=
if isO (σ) h0 5 = true then
(f_X6_holds h0 x1 (σ)).bind fun q14 =>
some ((1 : Int32), q14) else none
def f_X6_between_17 (h0 : Nat) (x1 : Int32) (s0 : Nat) (s1 : Int32) (σ : mS) : Option (Int32 × mS) :=
if isO (σ) s0 5 = true then
(f_X6_unwinds s0 s1 (σ)).bind fun q16 =>
if (f_X6_rank x1) = (4 : Int32) then
(gI q16 h0 5 28).bind fun v18 =>
if v18 ≤ 0 then
f_X6_between_55 h0 x1 q16
else
(gR q16 h0 5 27).bind fun r20 =>
(gI q16 h0 5 28).bind fun v21 =>
(aI q16 r20 (v21 - (1 : Int32))).bind fun v22 =>
if (f_X6_rank v22) = (4 : Int32) then
some ((0 : Int32), q16)
else
f_X6_between_55 h0 x1 q16
else
f_X6_between_55 h0 x1 q16 else none
def f_X6_between (h0 : Nat) (x1 : Int32) (σ : mS) : Option (Int32 × mS) :=
if (f_X6_rank x1) = (4 : Int32) then
f_X6_between_17 h0 x1 h0 (5 : Int32) (σ)
else
f_X6_between_17 h0 x1 h0 (f_X6_rank x1) (σ)
def f_X6_signOf (h0 : Nat) (σ : mS) : Option Int32 :=
(gI (σ) h0 5 24).bind fun v15 =>
if v15 = (4 : Int32) then
some (11 : Int32)
else
(gI (σ) h0 5 24).bind fun v17 =>
if v17 = (5 : Int32) then
some (12 : Int32)
else
(gI (σ) h0 5 24).bind fun v19 =>
if v19 = (60 : Int32) then
some (14 : Int32)
else
(gI (σ) h0 5 24).bind fun v21 =>
if v21 = (61 : Int32) then
some (15 : Int32)
else
(gI (σ) h0 5 24).bind fun v23 =>
if v23 = (43 : Int32) then
some (16 : Int32)
else
(gI (σ) h0 5 24).bind fun v25 =>
if v25 = (45 : Int32) then
some (17 : Int32)
else
(gI (σ) h0 5 24).bind fun v27 =>
if v27 = (42 : Int32) then
some (18 : Int32)
else
some (-1 : Int32)
def f_X6_eRead_61 (k14 : Nat → Int32 → Int32 → mS → Option (Int32 × mS)) (h0 : Nat) (x2 : Int32) (s0 : Nat) (s1 : Int32) (σ : mS) : Option (Int32 × mS) :=
if isO (σ) s0 5 = true then
(f_X6_puts s0 s1 (σ)).bind fun q61 =>
if isO q61 h0 5 = true then
(f_X6_unwinds h0 (7 : Int32) q61).bind fun q63 =>
k14 h0 (0 : Int32) x2 q63 else none else none
def f_X6_eRead_38 (k14 : Nat → Int32 → Int32 → mS → Option (Int32 × mS)) (h0 : Nat) (x2 : Int32) (σ : mS) : Option (Int32 × mS) :=
(gI (σ) h0 5 24).bind fun v64 =>
if v64 = (1 : Int32) then
(gI (σ) h0 5 25).bind fun v67 =>
f_X6_eRead_61 k14 h0 x2 h0 ((100000 : Int32) + v67) (σ)
else
(gI (σ) h0 5 25).bind fun v66 =>
f_X6_eRead_61 k14 h0 x2 h0 v66 (σ)
def f_X6_eRead_99 (k14 : Nat → Int32 → Int32 → mS → Option (Int32 × mS)) (h0 : Nat) (x1 : Int32) (σ : mS) : Option (Int32 × mS) :=
(gI (σ) h0 5 24).bind fun v68 =>
if v68 = (45 : Int32) then
if isO (σ) h0 5 = true then
(f_X6_opensOne h0 (19 : Int32) (σ)).bind fun q76 =>
if q76.1 = 0 then
some ((0 : Int32), q76.2)
else
k14 h0 x1 (0 : Int32) q76.2 else none
else
(gI (σ) h0 5 24).bind fun v70 =>
if v70 = (40 : Int32) then
if isO (σ) h0 5 = true then
(f_X6_opensOne h0 (0 : Int32) (σ)).bind fun q73 =>
if q73.1 = 0 then
some ((0 : Int32), q73.2)
else
k14 h0 x1 (1 : Int32) q73.2 else none
else
some ((0 : Int32), σ)
def f_X6_eRead_14 : Nat → Nat → Int32 → Int32 → mS → Option (Int32 × mS)
  | 0, _, _, _, _ => none
  | n + 1, h0, x1, x2, σ =>
    if isO (σ) h0 5 = true then
    (f_X6_next h0 (σ)).bind fun q79 =>
    if x1 = 0 then
    (gI q79 h0 5 24).bind fun v81 =>
    if v81 = (59 : Int32) then
    if isO q79 h0 5 = true then
    (f_X6_unwinds h0 (1 : Int32) q79).bind fun q104 =>
    (gI q104 h0 5 28).bind fun v105 =>
    if v105 = 0 then
    some ((1 : Int32), q104)
    else
    some ((0 : Int32), q104) else none
    else
    (gI q79 h0 5 24).bind fun v83 =>
    if v83 = (41 : Int32) then
    if isO q79 h0 5 = true then
    (f_X6_unwinds h0 (1 : Int32) q79).bind fun q94 =>
    (gI q94 h0 5 28).bind fun v95 =>
    if v95 = 0 then
    some ((0 : Int32), q94)
    else
    (gI q94 h0 5 28).bind fun v97 =>
    (pI q94 h0 5 28 (v97 - (1 : Int32))).bind fun t98 =>
    (gI t98 h0 5 29).bind fun v99 =>
    (pI t98 h0 5 29 (v99 - (1 : Int32))).bind fun t100 =>
    if isO t100 h0 5 = true then
    (f_X6_unwinds h0 (7 : Int32) t100).bind fun q102 =>
    f_X6_eRead_14 n h0 x1 x2 q102 else none else none
    else
    if isO q79 h0 5 = true then
    (f_X6_signOf h0 q79).bind fun q86 =>
    if q86 = (-1 : Int32) then
    some ((0 : Int32), q79)
    else
    if isO q79 h0 5 = true then
    (f_X6_between h0 q86 q79).bind fun q89 =>
    if q89.1 = 0 then
    some ((0 : Int32), q89.2)
    else
    vl (if (12 : Int32) < q86 then (0 : Int32) else (1 : Int32)) fun v92 =>
    f_X6_eRead_14 n h0 (1 : Int32) v92 q89.2 else none else none
    else
    (gI q79 h0 5 24).bind fun v107 =>
    if v107 = (1 : Int32) then
    f_X6_eRead_38 (f_X6_eRead_14 n) h0 x2 q79
    else
    (gI q79 h0 5 24).bind fun v109 =>
    if v109 = (2 : Int32) then
    f_X6_eRead_38 (f_X6_eRead_14 n) h0 x2 q79
    else
    (gI q79 h0 5 24).bind fun v111 =>
    if v111 = (6 : Int32) then
    if x2 = 0 then
    f_X6_eRead_99 (f_X6_eRead_14 n) h0 x1 q79
    else
    if isO q79 h0 5 = true then
    (f_X6_opensOne h0 (13 : Int32) q79).bind fun q115 =>
    if q115.1 = 0 then
    some ((0 : Int32), q115.2)
    else
    f_X6_eRead_14 n h0 x1 x2 q115.2 else none
    else
    f_X6_eRead_99 (f_X6_eRead_14 n) h0 x1 q79 else none
def f_X6_eRead (h0 : Nat) (σ : mS) : Option (Int32 × mS) :=
(pI (σ) h0 5 28 (0 : Int32)).bind fun t117 =>
(pI t117 h0 5 29 (0 : Int32)).bind fun t118 =>
f_X6_eRead_14 fU h0 (1 : Int32) (1 : Int32) t118
def f_X6_text_60 (k26 : Nat → Int32 → Int32 → mS → Option (Int32 × mS)) (h0 : Nat) (x2 : Int32) (s0 : Int32) (σ : mS) : Option (Int32 × mS) :=
(gR (σ) h0 5 12).bind fun r41 =>
(gI (σ) h0 5 13).bind fun v42 =>
(gI (σ) h0 5 30).bind fun v43 =>
(sI (σ) r41 (((4 : Int32) * v42) + x2) v43).bind fun t44 =>
if s0 = 0 then
vl (x2 + (1 : Int32)) fun v46 =>
k26 h0 (0 : Int32) v46 t44
else
if isO t44 h0 5 = true then
(f_X6_eRead h0 t44).bind fun q48 =>
vl (if q48.1 = 0 then (0 : Int32) else (1 : Int32)) fun v50 =>
vl (x2 + (1 : Int32)) fun v51 =>
k26 h0 v50 v51 q48.2 else none
def f_X6_text_26 (k101 : Nat → Int32 → mS → Option (Int32 × mS)) : Nat → Nat → Int32 → Int32 → mS → Option (Int32 × mS)
  | 0, _, _, _, _ => none
  | n + 1, h0, x1, x2, σ =>
    if (3 : Int32) ≤ x2 then
    k101 h0 x1 (σ)
    else
    if x1 = 0 then
    k101 h0 x1 (σ)
    else
    if isO (σ) h0 5 = true then
    (f_X6_next h0 (σ)).bind fun q55 =>
    (gI q55 h0 5 24).bind fun v56 =>
    if v56 = (3 : Int32) then
    (gI q55 h0 5 25).bind fun v58 =>
    vl (if v58 = x2 then (1 : Int32) else (0 : Int32)) fun v60 =>
    f_X6_text_60 (f_X6_text_26 k101 n) h0 x2 v60 q55
    else
    f_X6_text_60 (f_X6_text_26 k101 n) h0 x2 (0 : Int32) q55 else none
def f_X6_text_122 (h0 : Nat) (x1 : Int32) (σ : mS) : Option (Int32 × mS) :=
(gR (σ) h0 5 12).bind fun r61 =>
(gI (σ) h0 5 13).bind fun v62 =>
(gI (σ) h0 5 30).bind fun v63 =>
(sI (σ) r61 (((4 : Int32) * v62) + (3 : Int32)) v63).bind fun t64 =>
(pI t64 h0 5 10 (0 : Int32)).bind fun t65 =>
if x1 = 0 then
(gI t65 h0 5 23).bind fun v70 =>
some (((-100 : Int32) - v70), t65)
else
(gI t65 h0 5 13).bind fun v67 =>
(pI t65 h0 5 13 (v67 + (1 : Int32))).bind fun t68 =>
(gI t68 h0 5 13).bind fun v69 =>
some ((v69 - (1 : Int32)), t68)
def f_X6_text (h0 : Nat) (σ : mS) : Option (Int32 × mS) :=
(gI (σ) h0 5 13).bind fun v71 =>
if v71 = (6 : Int32) then
some ((-4 : Int32), σ)
else
(pI (σ) h0 5 22 (0 : Int32)).bind fun t73 =>
(pI t73 h0 5 30 (0 : Int32)).bind fun t74 =>
f_X6_text_26 (fun h0 x1 σ => if x1 = 0 then
f_X6_text_122 h0 x1 (σ)
else
if isO (σ) h0 5 = true then
(f_X6_next h0 (σ)).bind fun q77 =>
(gI q77 h0 5 24).bind fun v78 =>
vl (if v78 = 0 then (1 : Int32) else (0 : Int32)) fun v80 =>
f_X6_text_122 h0 v80 q77 else none) fU h0 (1 : Int32) (0 : Int32) t74
def f_X6_two (x0 : Int32) (x1 : Int32) (x2 : Int32) : Int32 :=
if x0 = (11 : Int32) then
if x1 = 0 then
if x2 = 0 then
(0 : Int32)
else
(1 : Int32)
else
(1 : Int32)
else if x0 = (12 : Int32) then
if x1 = 0 then
(0 : Int32)
else
if x2 = 0 then
(0 : Int32)
else
(1 : Int32)
else if x0 = (13 : Int32) then
(x1 * x2)
else if x0 = (14 : Int32) then
if x2 ≤ x1 then
(0 : Int32)
else
(1 : Int32)
else if x0 = (15 : Int32) then
if x1 = x2 then
(1 : Int32)
else
(0 : Int32)
else if x0 = (16 : Int32) then
(x1 + x2)
else if x0 = (17 : Int32) then
(x1 - x2)
else 
(x1 * x2)
def f_X6_says_93 (k16 : Nat → Int32 → Int32 → Int32 → mS → Option (Int32 × mS)) (h0 : Nat) (x1 : Int32) (x2 : Int32) (x3 : Int32) (s0 : Nat) (s1 : Int32) (s2 : Int32) (σ : mS) : Option (Int32 × mS) :=
(sI (σ) s0 s1 s2).bind fun t44 =>
vl (x2 + (1 : Int32)) fun v45 =>
vl (x3 + (1 : Int32)) fun v46 =>
k16 h0 x1 v45 v46 t44
def f_X6_says_66 (k16 : Nat → Int32 → Int32 → Int32 → mS → Option (Int32 × mS)) (h0 : Nat) (x1 : Int32) (x2 : Int32) (x3 : Int32) (x4 : Int32) (σ : mS) : Option (Int32 × mS) :=
(gR (σ) h0 5 31).bind fun r47 =>
if (11 : Int32) ≤ x4 then
f_X6_says_93 k16 h0 x1 x2 x3 r47 x2 (x4 - (100000 : Int32)) (σ)
else
(gR (σ) h0 5 32).bind fun r49 =>
(aI (σ) r49 x4).bind fun v50 =>
f_X6_says_93 k16 h0 x1 x2 x3 r47 x2 v50 (σ)
def f_X6_says_16 : Nat → Nat → Int32 → Int32 → Int32 → mS → Option (Int32 × mS)
  | 0, _, _, _, _, _ => none
  | n + 1, h0, x1, x2, x3, σ =>
    (gR (σ) h0 5 12).bind fun r51 =>
    (gI (σ) h0 5 14).bind fun v52 =>
    (aI (σ) r51 ((((4 : Int32) * v52) + x1) + (1 : Int32))).bind fun v53 =>
    if v53 ≤ x3 then
    (gR (σ) h0 5 31).bind fun r55 =>
    (aI (σ) r55 (0 : Int32)).bind fun v56 =>
    some (v56, σ)
    else
    (gR (σ) h0 5 11).bind fun r57 =>
    (gI (σ) h0 5 14).bind fun v58 =>
    (aI (σ) r57 (((200 : Int32) * v58) + x3)).bind fun v59 =>
    if (100000 : Int32) ≤ v59 then
    f_X6_says_66 (f_X6_says_16 n) h0 x1 x2 x3 v59 (σ)
    else
    if (11 : Int32) ≤ v59 then
    if v59 = (13 : Int32) then
    (gR (σ) h0 5 31).bind fun r77 =>
    (gR (σ) h0 5 31).bind fun r78 =>
    (aI (σ) r78 (x2 - (1 : Int32))).bind fun v79 =>
    vl (if v79 = 0 then (1 : Int32) else (0 : Int32)) fun v81 =>
    (sI (σ) r77 (x2 - (1 : Int32)) v81).bind fun t82 =>
    vl (x3 + (1 : Int32)) fun v83 =>
    f_X6_says_16 n h0 x1 x2 v83 t82
    else
    if v59 = (19 : Int32) then
    (gR (σ) h0 5 31).bind fun r72 =>
    (gR (σ) h0 5 31).bind fun r73 =>
    (aI (σ) r73 (x2 - (1 : Int32))).bind fun v74 =>
    (sI (σ) r72 (x2 - (1 : Int32)) (-v74)).bind fun t75 =>
    vl (x3 + (1 : Int32)) fun v76 =>
    f_X6_says_16 n h0 x1 x2 v76 t75
    else
    vl (x2 + (-1 : Int32)) fun v64 =>
    (gR (σ) h0 5 31).bind fun r65 =>
    (gR (σ) h0 5 31).bind fun r66 =>
    (aI (σ) r66 (v64 - (1 : Int32))).bind fun v67 =>
    (gR (σ) h0 5 31).bind fun r68 =>
    (aI (σ) r68 v64).bind fun v69 =>
    (sI (σ) r65 (v64 - (1 : Int32)) (f_X6_two v59 v67 v69)).bind fun t70 =>
    vl (x3 + (1 : Int32)) fun v71 =>
    f_X6_says_16 n h0 x1 v64 v71 t70
    else
    f_X6_says_66 (f_X6_says_16 n) h0 x1 x2 x3 v59 (σ)
def f_X6_says (h0 : Nat) (x1 : Int32) (σ : mS) : Option (Int32 × mS) :=
(gR (σ) h0 5 12).bind fun r84 =>
(gI (σ) h0 5 14).bind fun v85 =>
(aI (σ) r84 (((4 : Int32) * v85) + x1)).bind fun v86 =>
f_X6_says_16 fU h0 x1 (0 : Int32) v86 (σ)
def f_X6_force (h0 : Nat) (x1 : Int32) (σ : mS) : Option (Int32 × mS) :=
(gI (σ) h0 5 13).bind fun v5 =>
if (f_X6_in x1 (0 : Int32) (v5 - (1 : Int32))) = 0 then
some ((-2 : Int32), σ)
else
(gI (σ) h0 5 14).bind fun v7 =>
(pI (σ) h0 5 14 x1).bind fun t8 =>
some (v7, t8)
def f_X6_asksOf (h0 : Nat) (x1 : Int32) (x2 : Int32) (σ : mS) : Option (Int32 × mS) :=
(gR (σ) h0 5 32).bind fun r29 =>
(gR (σ) h0 5 3).bind fun r30 =>
(aI (σ) r30 (((3 : Int32) * x2) + (1 : Int32))).bind fun v31 =>
(sI (σ) r29 (0 : Int32) v31).bind fun t32 =>
(gR t32 h0 5 32).bind fun r33 =>
(gR t32 h0 5 3).bind fun r34 =>
(aI t32 r34 ((3 : Int32) * x2)).bind fun v35 =>
(f_X6_onesOf v35).bind fun q36 =>
(sI t32 r33 (1 : Int32) q36).bind fun t37 =>
(gR t37 h0 5 32).bind fun r38 =>
(gI t37 h0 5 8).bind fun v39 =>
(sI t37 r38 (2 : Int32) v39).bind fun t40 =>
(gR t40 h0 5 32).bind fun r41 =>
if isO t40 h0 5 = true then
(f_X6_lying h0 t40).bind fun q43 =>
(sI t40 r41 (3 : Int32) q43).bind fun t44 =>
(gR t44 h0 5 32).bind fun r45 =>
(gI t44 h0 5 7).bind fun v46 =>
(f_X6_onesOf v46).bind fun q47 =>
(sI t44 r45 (4 : Int32) q47).bind fun t48 =>
(gR t48 h0 5 32).bind fun r49 =>
(gR t48 h0 5 2).bind fun r50 =>
(aI t48 r50 x2).bind fun v51 =>
(sI t48 r49 (5 : Int32) v51).bind fun t52 =>
if isO t52 h0 5 = true then
(f_X6_says h0 x1 t52).bind fun q54 =>
vl (if x1 = (2 : Int32) then (-99 : Int32) else (0 : Int32)) fun v56 =>
some ((f_X6_within q54.1 v56 (99 : Int32)), q54.2) else none else none
def f_X6_asks (h0 : Nat) (x1 : Int32) (x2 : Int32) (σ : mS) : Option (Int32 × mS) :=
if (f_X6_in x1 (0 : Int32) (2 : Int32)) = 0 then
some ((-1000 : Int32), σ)
else
if isO (σ) h0 5 = true then
(f_X6_isOne h0 x2 (σ)).bind fun q9 =>
if q9 = 0 then
some ((-1000 : Int32), σ)
else
if isO (σ) h0 5 = true then
(f_X6_asksOf h0 x1 x2 (σ)).bind fun q12 =>
some (q12.1, q12.2) else none else none
def f_X6_witness (h0 : Nat) (x1 : Int32) (x2 : Int32) (x3 : Int32) (σ : mS) : Option (Int32 × mS) :=
if (f_X6_in x1 (0 : Int32) (59 : Int32)) = 0 then
some ((-2 : Int32), σ)
else
if (f_X6_in x2 (0 : Int32) (1023 : Int32)) = 0 then
some ((-2 : Int32), σ)
else
if (f_X6_in x3 (0 : Int32) (99 : Int32)) = 0 then
some ((-2 : Int32), σ)
else
(gI (σ) h0 5 0).bind fun v27 =>
if v27 = (6 : Int32) then
some ((-4 : Int32), σ)
else
(gR (σ) h0 5 1).bind fun r29 =>
(gI (σ) h0 5 0).bind fun v30 =>
(sI (σ) r29 v30 (x1 / (10 : Int32))).bind fun t31 =>
(gR t31 h0 5 2).bind fun r32 =>
(gI t31 h0 5 0).bind fun v33 =>
(sI t31 r32 v33 (x1 - x1 / (10 : Int32) * (10 : Int32))).bind fun t34 =>
(gR t34 h0 5 3).bind fun r35 =>
(gI t34 h0 5 0).bind fun v36 =>
(sI t34 r35 ((3 : Int32) * v36) x2).bind fun t37 =>
(gR t37 h0 5 3).bind fun r38 =>
(gI t37 h0 5 0).bind fun v39 =>
(sI t37 r38 (((3 : Int32) * v39) + (1 : Int32)) x3).bind fun t40 =>
(gR t40 h0 5 3).bind fun r41 =>
(gI t40 h0 5 0).bind fun v42 =>
(sI t40 r41 (((3 : Int32) * v42) + (2 : Int32)) (0 : Int32)).bind fun t43 =>
(gI t43 h0 5 0).bind fun v44 =>
(pI t43 h0 5 0 (v44 + (1 : Int32))).bind fun t45 =>
(gI t45 h0 5 0).bind fun v46 =>
some ((v46 - (1 : Int32)), t45)
def f_X6_put (h0 : Nat) (x1 : Int32) (x2 : Int32) (x3 : Int32) (σ : mS) : Option (Int32 × mS) :=
if isO (σ) h0 5 = true then
(f_X6_isOne h0 x1 (σ)).bind fun q13 =>
if q13 = 0 then
some ((-5 : Int32), σ)
else
if (f_X6_in x2 (0 : Int32) (1 : Int32)) = 0 then
some ((-7 : Int32), σ)
else
vl (if x2 = 0 then (1023 : Int32) else (99 : Int32)) fun v17 =>
if (f_X6_in x3 (0 : Int32) v17) = 0 then
some ((-7 : Int32), σ)
else
(gR (σ) h0 5 3).bind fun r19 =>
(aI (σ) r19 (((3 : Int32) * x1) + x2)).bind fun v20 =>
(gR (σ) h0 5 3).bind fun r21 =>
(sI (σ) r21 (((3 : Int32) * x1) + x2) x3).bind fun t22 =>
some (v20, t22) else none
def f_X6_looksOf_79 (h0 : Nat) (x1 : Int32) (x3 : Int32) (σ : mS) : Option (Int32 × mS) :=
(gR (σ) h0 5 2).bind fun r19 =>
(aI (σ) r19 x1).bind fun v20 =>
some ((f_X6_within (x3 - ((5 : Int32) * v20)) (0 : Int32) (99 : Int32)), σ)
def f_X6_looksOf (h0 : Nat) (x1 : Int32) (x2 : Int32) (σ : mS) : Option (Int32 × mS) :=
(gR (σ) h0 5 1).bind fun r21 =>
(aI (σ) r21 x1).bind fun v22 =>
if v22 = (5 : Int32) then
some ((0 : Int32), σ)
else
if isO (σ) h0 5 = true then
(f_X6_asksOf h0 (0 : Int32) x1 (σ)).bind fun q25 =>
(gR q25.2 h0 5 2).bind fun r26 =>
(aI q25.2 r26 x1).bind fun v27 =>
vl (if x2 = (v27 - v27 / (6 : Int32) * (6 : Int32)) then (99 : Int32) else q25.1) fun v29 =>
(gR q25.2 h0 5 1).bind fun r30 =>
(aI q25.2 r30 x1).bind fun v31 =>
if v31 = (1 : Int32) then
some (v29, q25.2)
else if v31 = (2 : Int32) then
f_X6_looksOf_79 h0 x1 q25.1 q25.2
else if v31 = (3 : Int32) then
if (x2 - x2 / (2 : Int32) * (2 : Int32)) = 0 then
some ((v29 / (2 : Int32)), q25.2)
else
some (v29, q25.2)
else if v31 = (4 : Int32) then
f_X6_looksOf_79 h0 x1 q25.1 q25.2
else 
some (q25.1, q25.2) else none
def f_X6_waitsOf_108 (x2 : Int32) (σ : mS) : Option (Int32 × mS) :=
some ((f_X6_within x2 (1 : Int32) (99 : Int32)), σ)
def f_X6_waitsOf (h0 : Nat) (x1 : Int32) (σ : mS) : Option (Int32 × mS) :=
if isO (σ) h0 5 = true then
(f_X6_asksOf h0 (1 : Int32) x1 (σ)).bind fun q17 =>
(gR q17.2 h0 5 1).bind fun r18 =>
(aI q17.2 r18 x1).bind fun v19 =>
if v19 = (1 : Int32) then
some ((f_X6_within (q17.1 / (2 : Int32)) (1 : Int32) (99 : Int32)), q17.2)
else if v19 = (2 : Int32) then
f_X6_waitsOf_108 q17.1 q17.2
else if v19 = (3 : Int32) then
(gI q17.2 h0 5 8).bind fun v23 =>
if (v23 - v23 / (5 : Int32) * (5 : Int32)) = 0 then
some ((99 : Int32), q17.2)
else
(gR q17.2 h0 5 2).bind fun r25 =>
(aI q17.2 r25 x1).bind fun v26 =>
some ((f_X6_within ((q17.1 / (2 : Int32)) + v26) (1 : Int32) (99 : Int32)), q17.2)
else if v19 = (4 : Int32) then
some ((f_X6_within ((2 : Int32) * q17.1) (1 : Int32) (99 : Int32)), q17.2)
else if v19 = (5 : Int32) then
(gR q17.2 h0 5 2).bind fun r29 =>
(aI q17.2 r29 x1).bind fun v30 =>
some (((1 : Int32) + v30), q17.2)
else 
f_X6_waitsOf_108 q17.1 q17.2 else none
def f_X6_dropsOf_108 (h0 : Nat) (x1 : Int32) (x6 : Int32) (σ : mS) : Option (Int32 × mS) :=
(gR (σ) h0 5 3).bind fun r29 =>
(aI (σ) r29 ((3 : Int32) * x1)).bind fun v30 =>
(f_X6_nthOf v30 x6).bind fun q31 =>
some (q31, σ)
def f_X6_dropsOf_106 (h0 : Nat) (x1 : Int32) (s0 : Int32) (σ : mS) : Option (Int32 × mS) :=
f_X6_dropsOf_108 h0 x1 s0 (σ)
def f_X6_dropsOf_42 (h0 : Nat) (x1 : Int32) (x2 : Int32) (s0 : Int32) (σ : mS) : Option (Int32 × mS) :=
vl ((x2 - (1 : Int32)) - s0) fun v32 =>
(gR (σ) h0 5 1).bind fun r33 =>
(aI (σ) r33 x1).bind fun v34 =>
vl (if v34 = (2 : Int32) then v32 else s0) fun v36 =>
(gR (σ) h0 5 1).bind fun r37 =>
(aI (σ) r37 x1).bind fun v38 =>
if v38 = (4 : Int32) then
(gR (σ) h0 5 2).bind fun r40 =>
(aI (σ) r40 x1).bind fun v41 =>
if x2 = 0 then none else
if v32 ≤ (v41 - v41 / x2 * x2) then
(gR (σ) h0 5 2).bind fun r44 =>
(aI (σ) r44 x1).bind fun v45 =>
if x2 = 0 then none else
f_X6_dropsOf_106 h0 x1 (v45 - v45 / x2 * x2) (σ)
else
f_X6_dropsOf_106 h0 x1 v32 (σ)
else
f_X6_dropsOf_108 h0 x1 v36 (σ)
def f_X6_dropsOf (h0 : Nat) (x1 : Int32) (σ : mS) : Option (Int32 × mS) :=
(gR (σ) h0 5 3).bind fun r47 =>
(aI (σ) r47 ((3 : Int32) * x1)).bind fun v48 =>
(f_X6_onesOf v48).bind fun q49 =>
if q49 = 0 then
some ((-1 : Int32), σ)
else
if isO (σ) h0 5 = true then
(f_X6_asksOf h0 (2 : Int32) x1 (σ)).bind fun q52 =>
if q49 = 0 then none else
if 0 ≤ (q52.1 - q52.1 / q49 * q49) then
if q49 = 0 then none else
f_X6_dropsOf_42 h0 x1 q49 (q52.1 - q52.1 / q49 * q49) q52.2
else
if q49 = 0 then none else
f_X6_dropsOf_42 h0 x1 q49 ((q52.1 - q52.1 / q49 * q49) + q49) q52.2 else none
def f_X6_doesStoop (h0 : Nat) (x1 : Int32) (x2 : Int32) (σ : mS) : Option (Int32 × mS) :=
(gR (σ) h0 5 6).bind fun r6 =>
(aI (σ) r6 x1).bind fun v7 =>
if isO (σ) h0 5 = true then
(f_X6_looksOf h0 x2 x1 (σ)).bind fun q9 =>
if (v7 + q9.1) < (100 : Int32) then
some ((0 : Int32), q9.2)
else
some ((1 : Int32), q9.2) else none
def f_X6_ownLinens_4 (σ : mS) : Nat → Nat → Int32 → Int32 → Int32 → Option Int32
  | 0, _, _, _, _ => none
  | n + 1, h0, x1, x2, x3 =>
    if (8 : Int32) ≤ x3 then
    some x2
    else
    (gR (σ) h0 5 4).bind fun r9 =>
    (aI (σ) r9 ((3 : Int32) * x3)).bind fun v10 =>
    vl (if v10 = x1 then ((1 : Int32) <<< (x3 &&& 31)) else (0 : Int32)) fun v12 =>
    vl (x2 ||| v12) fun v13 =>
    vl (x3 + (1 : Int32)) fun v14 =>
    f_X6_ownLinens_4 σ n h0 x1 v13 v14
def f_X6_ownLinens (h0 : Nat) (x1 : Int32) (σ : mS) : Option Int32 :=
f_X6_ownLinens_4 σ fU h0 x1 (0 : Int32) (0 : Int32)
def f_X6_stoopers_4 : Nat → Nat → Int32 → Int32 → Int32 → mS → Option (Int32 × mS)
  | 0, _, _, _, _, _ => none
  | n + 1, h0, x1, x2, x3, σ =>
    if (6 : Int32) ≤ x3 then
    some (x2, σ)
    else
    if isO (σ) h0 5 = true then
    (f_X6_doesStoop h0 x3 x1 (σ)).bind fun q10 =>
    vl (if q10.1 = 0 then (0 : Int32) else ((1 : Int32) <<< (x3 &&& 31))) fun v12 =>
    vl (x2 ||| v12) fun v13 =>
    vl (x3 + (1 : Int32)) fun v14 =>
    f_X6_stoopers_4 n h0 x1 v13 v14 q10.2 else none
def f_X6_stoopers (h0 : Nat) (x1 : Int32) (σ : mS) : Option (Int32 × mS) :=
f_X6_stoopers_4 fU h0 x1 (0 : Int32) (0 : Int32) (σ)
def f_X6_told_64 (h0 : Nat) (x1 : Int32) (x2 : Int32) (σ : mS) : Option (Int32 × mS) :=
(gR (σ) h0 5 3).bind fun r27 =>
(aI (σ) r27 (((3 : Int32) * x1) + x2)).bind fun v28 =>
some (v28, σ)
def f_X6_told (h0 : Nat) (x1 : Int32) (x2 : Int32) (σ : mS) : Option (Int32 × mS) :=
if isO (σ) h0 5 = true then
(f_X6_isOne h0 x1 (σ)).bind fun q30 =>
if q30 = 0 then
some ((-5 : Int32), σ)
else
if x2 = (0 : Int32) then
f_X6_told_64 h0 x1 x2 (σ)
else if x2 = (1 : Int32) then
f_X6_told_64 h0 x1 x2 (σ)
else if x2 = (2 : Int32) then
f_X6_told_64 h0 x1 x2 (σ)
else if x2 = (3 : Int32) then
(gR (σ) h0 5 1).bind fun r36 =>
(aI (σ) r36 x1).bind fun v37 =>
some (v37, σ)
else if x2 = (4 : Int32) then
(gR (σ) h0 5 2).bind fun r39 =>
(aI (σ) r39 x1).bind fun v40 =>
some (v40, σ)
else if x2 = (5 : Int32) then
if isO (σ) h0 5 = true then
(f_X6_dropsOf h0 x1 (σ)).bind fun q43 =>
some (q43.1, q43.2) else none
else if x2 = (6 : Int32) then
if isO (σ) h0 5 = true then
(f_X6_waitsOf h0 x1 (σ)).bind fun q46 =>
some (q46.1, q46.2) else none
else if x2 = (7 : Int32) then
if isO (σ) h0 5 = true then
(f_X6_ownLinens h0 x1 (σ)).bind fun q49 =>
some (q49, σ) else none
else if x2 = (8 : Int32) then
if isO (σ) h0 5 = true then
(f_X6_stoopers h0 x1 (σ)).bind fun q52 =>
some (q52.1, q52.2) else none
else 
some ((-7 : Int32), σ) else none
def f_X6_regard (h0 : Nat) (x1 : Int32) (x2 : Int32) (x3 : Int32) (σ : mS) : Option (Int32 × mS) :=
if isO (σ) h0 5 = true then
(f_X6_isOne h0 x1 (σ)).bind fun q13 =>
if q13 = 0 then
some ((-5 : Int32), σ)
else
if (f_X6_in x2 (0 : Int32) (5 : Int32)) = 0 then
some ((-5 : Int32), σ)
else
if (f_X6_in x3 (0 : Int32) (1 : Int32)) = 0 then
some ((-7 : Int32), σ)
else
if x3 = 0 then
if isO (σ) h0 5 = true then
(f_X6_looksOf h0 x1 x2 (σ)).bind fun q22 =>
some (q22.1, q22.2) else none
else
if isO (σ) h0 5 = true then
(f_X6_doesStoop h0 x2 x1 (σ)).bind fun q19 =>
if q19.1 = 0 then
some ((0 : Int32), q19.2)
else
some ((1 : Int32), q19.2) else none else none
def f_X6_linen (h0 : Nat) (x1 : Int32) (x2 : Int32) (σ : mS) : Option Int32 :=
if isO (σ) h0 5 = true then
(f_X6_isLinen h0 x1 (σ)).bind fun q8 =>
if q8 = 0 then
some (-6 : Int32)
else
if (f_X6_in x2 (0 : Int32) (2 : Int32)) = 0 then
some (-7 : Int32)
else
(gR (σ) h0 5 4).bind fun r11 =>
(aI (σ) r11 (((3 : Int32) * x1) + x2)).bind fun v12 =>
some v12 else none
def f_X6_can (h0 : Nat) (x1 : Int32) (σ : mS) : Option Int32 :=
(gR (σ) h0 5 3).bind fun r7 =>
(aI (σ) r7 ((3 : Int32) * x1)).bind fun v8 =>
if v8 = 0 then
some (0 : Int32)
else
if isO (σ) h0 5 = true then
(f_X6_lying h0 (σ)).bind fun q11 =>
if (8 : Int32) ≤ q11 then
some (0 : Int32)
else
some (1 : Int32) else none
def f_X6_dropOf_15 (k37 : Nat → Int32 → Int32 → Int32 → Int32 → mS → Option (Int32 × mS)) : Nat → Nat → Int32 → Int32 → Int32 → Int32 → mS → Option (Int32 × mS)
  | 0, _, _, _, _, _, _ => none
  | n + 1, h0, x1, x2, x3, x4, σ =>
    if (7 : Int32) ≤ x4 then
    k37 h0 x1 x2 x3 x4 (σ)
    else
    if isO (σ) h0 5 = true then
    (f_X6_isLinen h0 x4 (σ)).bind fun q18 =>
    if q18 = 0 then
    k37 h0 x1 x2 x3 x4 (σ)
    else
    vl (x4 + (1 : Int32)) fun v20 =>
    f_X6_dropOf_15 k37 n h0 x1 x2 x3 v20 (σ) else none
def f_X6_dropOf (h0 : Nat) (x1 : Int32) (σ : mS) : Option (Int32 × mS) :=
if isO (σ) h0 5 = true then
(f_X6_dropsOf h0 x1 (σ)).bind fun q22 =>
if isO q22.2 h0 5 = true then
(f_X6_waitsOf h0 x1 q22.2).bind fun q24 =>
f_X6_dropOf_15 (fun h0 x1 x2 x3 x4 σ => (gR (σ) h0 5 4).bind fun r25 =>
(sI (σ) r25 ((3 : Int32) * x4) x1).bind fun t26 =>
(gR t26 h0 5 4).bind fun r27 =>
(sI t26 r27 (((3 : Int32) * x4) + (1 : Int32)) x2).bind fun t28 =>
(gR t28 h0 5 4).bind fun r29 =>
(sI t28 r29 (((3 : Int32) * x4) + (2 : Int32)) x3).bind fun t30 =>
some (x4, t30)) fU h0 x1 q22.1 q24.1 (0 : Int32) q24.2 else none else none
def f_X6_drop (h0 : Nat) (x1 : Int32) (σ : mS) : Option (Int32 × mS) :=
if isO (σ) h0 5 = true then
(f_X6_isOne h0 x1 (σ)).bind fun q13 =>
if q13 = 0 then
some ((-5 : Int32), σ)
else
(gR (σ) h0 5 3).bind fun r15 =>
(aI (σ) r15 ((3 : Int32) * x1)).bind fun v16 =>
if v16 = 0 then
some ((-1 : Int32), σ)
else
if isO (σ) h0 5 = true then
(f_X6_lying h0 (σ)).bind fun q19 =>
if q19 = (8 : Int32) then
some ((-4 : Int32), σ)
else
if isO (σ) h0 5 = true then
(f_X6_dropOf h0 x1 (σ)).bind fun q22 =>
some (q22.1, q22.2) else none else none else none
def f_X6_hourOf_12 : Nat → Nat → Int32 → Int32 → Int32 → mS → Option (Int32 × mS)
  | 0, _, _, _, _, _ => none
  | n + 1, h0, x1, x2, x3, σ =>
    if (8 : Int32) ≤ x3 then
    (gI (σ) h0 5 8).bind fun v41 =>
    (pI (σ) h0 5 8 (v41 + (1 : Int32))).bind fun t42 =>
    some (x1, t42)
    else
    if isO (σ) h0 5 = true then
    (f_X6_isLinen h0 x3 (σ)).bind fun q44 =>
    if q44 = 0 then
    vl (x3 + (1 : Int32)) fun v46 =>
    f_X6_hourOf_12 n h0 x1 x2 v46 (σ)
    else
    (gR (σ) h0 5 4).bind fun r47 =>
    (aI (σ) r47 ((3 : Int32) * x3)).bind fun v48 =>
    vl (f_X6_within v48 (0 : Int32) (5 : Int32)) fun v49 =>
    if isO (σ) h0 5 = true then
    (f_X6_doesStoop h0 x2 v49 (σ)).bind fun q51 =>
    if q51.1 = 0 then
    (gR q51.2 h0 5 4).bind fun r53 =>
    (aI q51.2 r53 (((3 : Int32) * x3) + (2 : Int32))).bind fun v54 =>
    (sI q51.2 r53 (((3 : Int32) * x3) + (2 : Int32)) (v54 - (1 : Int32))).bind fun t55 =>
    (gR t55 h0 5 4).bind fun r56 =>
    (aI t55 r56 (((3 : Int32) * x3) + (2 : Int32))).bind fun v57 =>
    if v57 = 0 then
    (gR t55 h0 5 4).bind fun r60 =>
    (sI t55 r60 ((3 : Int32) * x3) (-1 : Int32)).bind fun t61 =>
    (gR t61 h0 5 3).bind fun r62 =>
    (gR t61 h0 5 3).bind fun r63 =>
    (aI t61 r63 (((3 : Int32) * v49) + (2 : Int32))).bind fun v64 =>
    (sI t61 r62 (((3 : Int32) * v49) + (2 : Int32)) (f_X6_within (v64 + (1 : Int32)) (0 : Int32) (99 : Int32))).bind fun t65 =>
    vl (x3 + (1 : Int32)) fun v66 =>
    f_X6_hourOf_12 n h0 x1 x2 v66 t65
    else
    vl (x3 + (1 : Int32)) fun v59 =>
    f_X6_hourOf_12 n h0 x1 x2 v59 t55
    else
    (gR q51.2 h0 5 4).bind fun r67 =>
    (aI q51.2 r67 (((3 : Int32) * x3) + (1 : Int32))).bind fun v68 =>
    vl (x1 ||| ((1 : Int32) <<< (v68 &&& 31))) fun v69 =>
    (gI q51.2 h0 5 7).bind fun v70 =>
    (gR q51.2 h0 5 4).bind fun r71 =>
    (aI q51.2 r71 (((3 : Int32) * x3) + (1 : Int32))).bind fun v72 =>
    (pI q51.2 h0 5 7 (v70 ||| ((1 : Int32) <<< (v72 &&& 31)))).bind fun t73 =>
    (gR t73 h0 5 4).bind fun r74 =>
    (sI t73 r74 ((3 : Int32) * x3) (-1 : Int32)).bind fun t75 =>
    vl (x3 + (1 : Int32)) fun v76 =>
    f_X6_hourOf_12 n h0 v69 x2 v76 t75 else none else none
def f_X6_hourOf (h0 : Nat) (σ : mS) : Option (Int32 × mS) :=
(gI (σ) h0 5 8).bind fun v77 =>
vl (v77 - v77 / (6 : Int32) * (6 : Int32)) fun v78 =>
f_X6_hourOf_12 fU h0 (0 : Int32) v78 (0 : Int32) (σ)
def f_X6_hour (h0 : Nat) (σ : mS) : Option (Int32 × mS) :=
(gI (σ) h0 5 8).bind fun v5 =>
if v5 = (999 : Int32) then
some ((-3 : Int32), σ)
else
if isO (σ) h0 5 = true then
(f_X6_hourOf h0 (σ)).bind fun q8 =>
some (q8.1, q8.2) else none
def f_X6_burn (h0 : Nat) (x1 : Int32) (σ : mS) : Option (Int32 × mS) :=
if isO (σ) h0 5 = true then
(f_X6_isLinen h0 x1 (σ)).bind fun q9 =>
if q9 = 0 then
some ((-6 : Int32), σ)
else
(gR (σ) h0 5 4).bind fun r11 =>
(sI (σ) r11 ((3 : Int32) * x1) (-1 : Int32)).bind fun t12 =>
(gR t12 h0 5 4).bind fun r13 =>
(aI t12 r13 (((3 : Int32) * x1) + (1 : Int32))).bind fun v14 =>
some (v14, t12) else none
def f_X6_keeps_2 (k28 : Nat → Int32 → mS → Option mS) : Nat → Nat → Int32 → mS → Option mS
  | 0, _, _, _ => none
  | n + 1, h0, x1, σ =>
    if (18 : Int32) ≤ x1 then
    k28 h0 (0 : Int32) (σ)
    else
    (gR (σ) h0 5 33).bind fun r20 =>
    (gR (σ) h0 5 3).bind fun r21 =>
    (aI (σ) r21 x1).bind fun v22 =>
    (sI (σ) r20 x1 v22).bind fun t23 =>
    vl (x1 + (1 : Int32)) fun v24 =>
    f_X6_keeps_2 k28 n h0 v24 t23
def f_X6_keeps_28 : Nat → Nat → Int32 → mS → Option mS
  | 0, _, _, _ => none
  | n + 1, h0, x1, σ =>
    if (24 : Int32) ≤ x1 then
    (gR (σ) h0 5 33).bind fun r26 =>
    (gI (σ) h0 5 7).bind fun v27 =>
    (sI (σ) r26 (42 : Int32) v27).bind fun t28 =>
    (gR t28 h0 5 33).bind fun r29 =>
    (gI t28 h0 5 8).bind fun v30 =>
    (sI t28 r29 (43 : Int32) v30).bind fun t31 =>
    some t31
    else
    (gR (σ) h0 5 33).bind fun r32 =>
    (gR (σ) h0 5 4).bind fun r33 =>
    (aI (σ) r33 x1).bind fun v34 =>
    (sI (σ) r32 ((18 : Int32) + x1) v34).bind fun t35 =>
    vl (x1 + (1 : Int32)) fun v36 =>
    f_X6_keeps_28 n h0 v36 t35
def f_X6_keeps (h0 : Nat) (σ : mS) : Option mS :=
f_X6_keeps_2 (fun h0 x1 σ => f_X6_keeps_28 fU h0 x1 σ) fU h0 (0 : Int32) (σ)
def f_X6_lays_2 (k28 : Nat → Int32 → mS → Option mS) : Nat → Nat → Int32 → mS → Option mS
  | 0, _, _, _ => none
  | n + 1, h0, x1, σ =>
    if (18 : Int32) ≤ x1 then
    k28 h0 (0 : Int32) (σ)
    else
    (gR (σ) h0 5 3).bind fun r20 =>
    (gR (σ) h0 5 33).bind fun r21 =>
    (aI (σ) r21 x1).bind fun v22 =>
    (sI (σ) r20 x1 v22).bind fun t23 =>
    vl (x1 + (1 : Int32)) fun v24 =>
    f_X6_lays_2 k28 n h0 v24 t23
def f_X6_lays_28 : Nat → Nat → Int32 → mS → Option mS
  | 0, _, _, _ => none
  | n + 1, h0, x1, σ =>
    if (24 : Int32) ≤ x1 then
    (gR (σ) h0 5 33).bind fun r26 =>
    (aI (σ) r26 (42 : Int32)).bind fun v27 =>
    (pI (σ) h0 5 7 v27).bind fun t28 =>
    (gR t28 h0 5 33).bind fun r29 =>
    (aI t28 r29 (43 : Int32)).bind fun v30 =>
    (pI t28 h0 5 8 v30).bind fun t31 =>
    some t31
    else
    (gR (σ) h0 5 4).bind fun r32 =>
    (gR (σ) h0 5 33).bind fun r33 =>
    (aI (σ) r33 ((18 : Int32) + x1)).bind fun v34 =>
    (sI (σ) r32 x1 v34).bind fun t35 =>
    vl (x1 + (1 : Int32)) fun v36 =>
    f_X6_lays_28 n h0 v36 t35
def f_X6_lays (h0 : Nat) (σ : mS) : Option mS :=
f_X6_lays_2 (fun h0 x1 σ => f_X6_lays_28 fU h0 x1 σ) fU h0 (0 : Int32) (σ)
def f_X6_goes_2 : Nat → Nat → Int32 → Int32 → mS → Option mS
  | 0, _, _, _, _ => none
  | n + 1, h0, x1, x2, σ =>
    if x1 ≤ x2 then
    some (σ)
    else
    if isO (σ) h0 5 = true then
    (f_X6_hourOf h0 (σ)).bind fun q7 =>
    vl (x2 + (1 : Int32)) fun v8 =>
    f_X6_goes_2 n h0 x1 v8 q7.2 else none
def f_X6_goes (h0 : Nat) (x1 : Int32) (σ : mS) : Option mS :=
f_X6_goes_2 fU h0 x1 (0 : Int32) (σ)
def f_X6_run_104 (h0 : Nat) (x3 : Int32) (σ : mS) : Option (Int32 × mS) :=
if isO (σ) h0 5 = true then
(f_X6_lays h0 (σ)).bind fun q23 =>
some (x3, q23) else none
def f_X6_run_86 (h0 : Nat) (s0 : Int32) (σ : mS) : Option (Int32 × mS) :=
f_X6_run_104 h0 s0 (σ)
def f_X6_run_39 (h0 : Nat) (x1 : Int32) (x2 : Int32) (σ : mS) : Option (Int32 × mS) :=
if isO (σ) h0 5 = true then
(f_X6_keeps h0 (σ)).bind fun q25 =>
if isO q25 h0 5 = true then
(f_X6_goes h0 x1 q25).bind fun q27 =>
if (3 : Int32) ≤ x2 then
(gR q27 h0 5 3).bind fun r29 =>
(aI q27 r29 (((3 : Int32) * (x2 - (10 : Int32))) + (2 : Int32))).bind fun v30 =>
f_X6_run_104 h0 v30 q27
else
if x2 = 0 then
(gI q27 h0 5 7).bind fun v38 =>
f_X6_run_86 h0 v38 q27
else
if x2 = (1 : Int32) then
(gI q27 h0 5 7).bind fun v35 =>
if isO q27 h0 5 = true then
(f_X6_verdictOf h0 v35 q27).bind fun q37 =>
f_X6_run_86 h0 q37 q27 else none
else
if isO q27 h0 5 = true then
(f_X6_lying h0 q27).bind fun q34 =>
f_X6_run_86 h0 q34 q27 else none else none else none
def f_X6_run (h0 : Nat) (x1 : Int32) (x2 : Int32) (σ : mS) : Option (Int32 × mS) :=
if (f_X6_in x1 (0 : Int32) (40 : Int32)) = 0 then
some ((-5000 : Int32), σ)
else
if (f_X6_in x2 (0 : Int32) (2 : Int32)) = 0 then
(gI (σ) h0 5 0).bind fun v41 =>
if (f_X6_in x2 (10 : Int32) ((9 : Int32) + v41)) = 0 then
some ((-5000 : Int32), σ)
else
f_X6_run_39 h0 x1 x2 (σ)
else
f_X6_run_39 h0 x1 x2 (σ)
def f_X6_when_75 (k21 : Nat → Int32 → Int32 → Int32 → mS → Option (Int32 × mS)) (h0 : Nat) (x1 : Int32) (x3 : Int32) (s0 : Int32) (σ : mS) : Option (Int32 × mS) :=
vl (if s0 = 0 then (-1 : Int32) else x3) fun v22 =>
if isO (σ) h0 5 = true then
(f_X6_hourOf h0 (σ)).bind fun q24 =>
vl (x3 + (1 : Int32)) fun v25 =>
k21 h0 x1 v22 v25 q24.2 else none
def f_X6_when_21 (k99 : Nat → Int32 → mS → Option (Int32 × mS)) : Nat → Nat → Int32 → Int32 → Int32 → mS → Option (Int32 × mS)
  | 0, _, _, _, _, _ => none
  | n + 1, h0, x1, x2, x3, σ =>
    if (60 : Int32) < x3 then
    k99 h0 x2 (σ)
    else
    if x2 = (-1 : Int32) then
    if x1 = (-1 : Int32) then
    if isO (σ) h0 5 = true then
    (f_X6_lying h0 (σ)).bind fun q33 =>
    vl (if q33 = 0 then (1 : Int32) else (0 : Int32)) fun v35 =>
    f_X6_when_75 (f_X6_when_21 k99 n) h0 x1 x3 v35 (σ) else none
    else
    (gI (σ) h0 5 7).bind fun v29 =>
    vl (if ((v29 >>> ((f_X6_within x1 (0 : Int32) (9 : Int32)) &&& 31)) &&& (1 : Int32)) = (1 : Int32) then (1 : Int32) else (0 : Int32)) fun v31 =>
    f_X6_when_75 (f_X6_when_21 k99 n) h0 x1 x3 v31 (σ)
    else
    k99 h0 x2 (σ)
def f_X6_when (h0 : Nat) (x1 : Int32) (σ : mS) : Option (Int32 × mS) :=
if (f_X6_in x1 (-1 : Int32) (9 : Int32)) = 0 then
some ((-7 : Int32), σ)
else
if isO (σ) h0 5 = true then
(f_X6_keeps h0 (σ)).bind fun q38 =>
f_X6_when_21 (fun h0 x2 σ => if isO (σ) h0 5 = true then
(f_X6_lays h0 (σ)).bind fun q40 =>
some (x2, q40) else none) fU h0 x1 (-1 : Int32) (0 : Int32) q38 else none
def f_X6_fateOf_11 : Nat → Nat → Int32 → Int32 → mS → Option (Int32 × mS)
  | 0, _, _, _, _ => none
  | n + 1, h0, x1, x2, σ =>
    if isO (σ) h0 5 = true then
    (f_X6_isLinen h0 x1 (σ)).bind fun q27 =>
    if q27 = 0 then
    if isO (σ) h0 5 = true then
    (f_X6_lays h0 (σ)).bind fun q30 =>
    some (x2, q30) else none
    else
    (gR (σ) h0 5 4).bind fun r31 =>
    (aI (σ) r31 (((3 : Int32) * x1) + (2 : Int32))).bind fun v32 =>
    (gI (σ) h0 5 8).bind fun v33 =>
    vl (v33 - v33 / (6 : Int32) * (6 : Int32)) fun v34 =>
    if isO (σ) h0 5 = true then
    (f_X6_hourOf h0 (σ)).bind fun q36 =>
    (gI q36.2 h0 5 34).bind fun v37 =>
    (pI q36.2 h0 5 34 (v37 + (1 : Int32))).bind fun t38 =>
    if isO t38 h0 5 = true then
    (f_X6_isLinen h0 x1 t38).bind fun q40 =>
    vl (if q40 = 0 then (1 : Int32) else (0 : Int32)) fun v42 =>
    if v42 = 0 then
    f_X6_fateOf_11 n h0 x1 x2 t38
    else
    (gR t38 h0 5 4).bind fun r44 =>
    (aI t38 r44 (((3 : Int32) * x1) + (2 : Int32))).bind fun v45 =>
    vl (if v45 = v32 then v34 else (-1 : Int32)) fun v47 =>
    f_X6_fateOf_11 n h0 x1 v47 t38 else none else none else none
def f_X6_fateOf (h0 : Nat) (x1 : Int32) (σ : mS) : Option (Int32 × mS) :=
(pI (σ) h0 5 34 (0 : Int32)).bind fun t48 =>
if isO t48 h0 5 = true then
(f_X6_keeps h0 t48).bind fun q50 =>
f_X6_fateOf_11 fU h0 x1 (-1 : Int32) q50 else none
def f_X6_fate (h0 : Nat) (x1 : Int32) (x2 : Int32) (σ : mS) : Option (Int32 × mS) :=
if isO (σ) h0 5 = true then
(f_X6_isLinen h0 x1 (σ)).bind fun q10 =>
if q10 = 0 then
some ((-6 : Int32), σ)
else
if (f_X6_in x2 (0 : Int32) (1 : Int32)) = 0 then
some ((-7 : Int32), σ)
else
if isO (σ) h0 5 = true then
(f_X6_fateOf h0 x1 (σ)).bind fun q14 =>
if x2 = 0 then
some (q14.1, q14.2)
else
(gI q14.2 h0 5 34).bind fun v16 =>
some (v16, q14.2) else none else none
def f_X6_advise_51 : Nat → Nat → Int32 → Int32 → Int32 → Int32 → Int32 → mS → Option (Int32 × mS)
  | 0, _, _, _, _, _, _, _ => none
  | n + 1, h0, x1, x2, x3, x4, x5, σ =>
    (gI (σ) h0 5 0).bind fun v33 =>
    if v33 ≤ x5 then
    if x2 = 0 then
    some (x3, σ)
    else
    some (x4, σ)
    else
    if isO (σ) h0 5 = true then
    (f_X6_can h0 x5 (σ)).bind fun q37 =>
    if q37 = 0 then
    vl (x5 + (1 : Int32)) fun v39 =>
    f_X6_advise_51 n h0 x1 x2 x3 x4 v39 (σ)
    else
    if isO (σ) h0 5 = true then
    (f_X6_dropOf h0 x5 (σ)).bind fun q41 =>
    if isO q41.2 h0 5 = true then
    (f_X6_goes h0 x1 q41.2).bind fun q43 =>
    (gI q43 h0 5 7).bind fun v44 =>
    if isO q43 h0 5 = true then
    (f_X6_verdictOf h0 v44 q43).bind fun q46 =>
    if isO q43 h0 5 = true then
    (f_X6_lays h0 q43).bind fun q48 =>
    vl (if q46 ≤ x4 then x3 else x5) fun v50 =>
    vl (if q46 ≤ x4 then x4 else q46) fun v52 =>
    vl (x5 + (1 : Int32)) fun v53 =>
    f_X6_advise_51 n h0 x1 x2 v50 v52 v53 q48 else none else none else none else none else none
def f_X6_advise (h0 : Nat) (x1 : Int32) (x2 : Int32) (σ : mS) : Option (Int32 × mS) :=
if (f_X6_in x1 (0 : Int32) (40 : Int32)) = 0 then
some ((-5000 : Int32), σ)
else
if (f_X6_in x2 (0 : Int32) (1 : Int32)) = 0 then
some ((-5000 : Int32), σ)
else
if isO (σ) h0 5 = true then
(f_X6_keeps h0 (σ)).bind fun q57 =>
if isO q57 h0 5 = true then
(f_X6_goes h0 x1 q57).bind fun q59 =>
(gI q59 h0 5 7).bind fun v60 =>
if isO q59 h0 5 = true then
(f_X6_verdictOf h0 v60 q59).bind fun q62 =>
if isO q59 h0 5 = true then
(f_X6_lays h0 q59).bind fun q64 =>
f_X6_advise_51 fU h0 x1 x2 (-1 : Int32) q62 (0 : Int32) q64 else none else none else none else none
def f_X6_turn_75 (σ : mS) (k37 : Nat → Int32 → Int32 → Int32 → Int32 → Int32 → Option Int32) (h0 : Nat) (x1 : Int32) (x2 : Int32) (x3 : Int32) (x4 : Int32) (x5 : Int32) (s0 : Int32) : Option Int32 :=
if s0 = 0 then
vl (x5 + (1 : Int32)) fun v28 =>
k37 h0 x1 x2 x3 x4 v28
else
(gI (σ) h0 5 7).bind fun v29 =>
if isO (σ) h0 5 = true then
(f_X6_verdictOf h0 (v29 ||| x5) (σ)).bind fun q31 =>
vl (if q31 ≤ 0 then (0 : Int32) else (1 : Int32)) fun v33 =>
if v33 = x2 then
vl (x5 + (1 : Int32)) fun v35 =>
k37 h0 x1 x2 x3 x4 v35
else
(f_X6_onesOf x5).bind fun q36 =>
vl (x5 + (1 : Int32)) fun v37 =>
k37 h0 x1 x2 x5 q36 v37 else none
def f_X6_turn_37 (σ : mS) : Nat → Nat → Int32 → Int32 → Int32 → Int32 → Int32 → Option Int32
  | 0, _, _, _, _, _, _ => none
  | n + 1, h0, x1, x2, x3, x4, x5 =>
    if (1023 : Int32) < x5 then
    if x1 = 0 then
    some x3
    else
    some x4
    else
    (gI (σ) h0 5 7).bind fun v40 =>
    if (x5 &&& v40) = 0 then
    if x3 = (-1 : Int32) then
    f_X6_turn_75 σ (f_X6_turn_37 σ n) h0 x1 x2 x3 x4 x5 (1 : Int32)
    else
    (f_X6_onesOf x5).bind fun q44 =>
    vl (if x4 ≤ q44 then (0 : Int32) else (1 : Int32)) fun v46 =>
    f_X6_turn_75 σ (f_X6_turn_37 σ n) h0 x1 x2 x3 x4 x5 v46
    else
    vl (x5 + (1 : Int32)) fun v42 =>
    f_X6_turn_37 σ n h0 x1 x2 x3 x4 v42
def f_X6_turn (h0 : Nat) (x1 : Int32) (σ : mS) : Option Int32 :=
if (f_X6_in x1 (0 : Int32) (1 : Int32)) = 0 then
some (-2 : Int32)
else
(gI (σ) h0 5 7).bind fun v48 =>
if isO (σ) h0 5 = true then
(f_X6_verdictOf h0 v48 (σ)).bind fun q50 =>
vl (if q50 ≤ 0 then (0 : Int32) else (1 : Int32)) fun v52 =>
f_X6_turn_37 σ fU h0 x1 v52 (-1 : Int32) (-1 : Int32) (0 : Int32) else none
def f_X6_admittedBehind (h0 : Nat) (x1 : Int32) (σ : mS) : Option (Int32 × mS) :=
if isO (σ) h0 5 = true then
(f_X6_keeps h0 (σ)).bind fun q10 =>
if isO q10 h0 5 = true then
(f_X6_goes h0 x1 q10).bind fun q12 =>
(gI q12 h0 5 7).bind fun v13 =>
(f_X6_onesOf v13).bind fun q14 =>
if isO q12 h0 5 = true then
(f_X6_lays h0 q12).bind fun q16 =>
some (q14, q16) else none else none else none
def f_X6_gallant_34 : Nat → Nat → Int32 → Int32 → Int32 → Int32 → Int32 → mS → Option (Int32 × mS)
  | 0, _, _, _, _, _, _, _ => none
  | n + 1, h0, x1, x2, x3, x4, x5, σ =>
    if (6 : Int32) ≤ x5 then
    if x2 = 0 then
    some (x3, σ)
    else
    some (x4, σ)
    else
    (gR (σ) h0 5 6).bind fun r22 =>
    (aI (σ) r22 x5).bind fun v23 =>
    (gR (σ) h0 5 6).bind fun r24 =>
    (sI (σ) r24 x5 (99 : Int32)).bind fun t25 =>
    if isO t25 h0 5 = true then
    (f_X6_admittedBehind h0 x1 t25).bind fun q27 =>
    (gR q27.2 h0 5 6).bind fun r28 =>
    (sI q27.2 r28 x5 v23).bind fun t29 =>
    vl (if q27.1 ≤ x4 then x3 else x5) fun v31 =>
    vl (if q27.1 ≤ x4 then x4 else q27.1) fun v33 =>
    vl (x5 + (1 : Int32)) fun v34 =>
    f_X6_gallant_34 n h0 x1 x2 v31 v33 v34 t29 else none
def f_X6_gallant (h0 : Nat) (x1 : Int32) (x2 : Int32) (σ : mS) : Option (Int32 × mS) :=
if (f_X6_in x1 (0 : Int32) (40 : Int32)) = 0 then
some ((-2 : Int32), σ)
else
if (f_X6_in x2 (0 : Int32) (1 : Int32)) = 0 then
some ((-2 : Int32), σ)
else
if isO (σ) h0 5 = true then
(f_X6_admittedBehind h0 x1 (σ)).bind fun q38 =>
f_X6_gallant_34 fU h0 x1 x2 (-1 : Int32) q38.1 (0 : Int32) q38.2 else none
def f_X6_castBy_5 (k42 : Nat → Int32 → Int32 → Int32 → Int32 → Int32 → Int32 → Int32 → mS → Option (Int32 × mS)) : Nat → Nat → Int32 → Int32 → Int32 → Int32 → mS → Option (Int32 × mS)
  | 0, _, _, _, _, _, _ => none
  | n + 1, h0, x1, x2, x3, x4, σ =>
    if x2 ≤ x4 then
    (pI (σ) h0 5 35 (0 : Int32)).bind fun t39 =>
    k42 h0 x2 x3 x1 (0 : Int32) (1 : Int32) (0 : Int32) (0 : Int32) t39
    else
    vl (x3 * (7 : Int32)) fun v40 =>
    vl (x4 + (1 : Int32)) fun v41 =>
    f_X6_castBy_5 k42 n h0 x1 x2 v40 v41 (σ)
def f_X6_castBy_159 (k42 : Nat → Int32 → Int32 → Int32 → Int32 → Int32 → Int32 → Int32 → mS → Option (Int32 × mS)) (h0 : Nat) (x2 : Int32) (x3 : Int32) (x4 : Int32) (x5 : Int32) (x6 : Int32) (x7 : Int32) (x8 : Int32) (x9 : Int32) (σ : mS) : Option (Int32 × mS) :=
if x6 = 0 then
vl (x8 + (1 : Int32)) fun v43 =>
k42 h0 x2 x3 x4 x5 x6 x7 v43 (σ)
else
if isO (σ) h0 5 = true then
(f_X6_dropOf h0 x9 (σ)).bind fun q45 =>
if isO q45.2 h0 5 = true then
(f_X6_hourOf h0 q45.2).bind fun q47 =>
vl (x5 ||| ((1 : Int32) <<< (x9 &&& 31))) fun v48 =>
(gI q47.2 h0 5 35).bind fun v49 =>
(pI q47.2 h0 5 35 ((((10 : Int32) * v49) + x9) + (1 : Int32))).bind fun t50 =>
vl (x8 + (1 : Int32)) fun v51 =>
k42 h0 x2 x3 x4 v48 x6 x7 v51 t50 else none else none
def f_X6_castBy_144 (k42 : Nat → Int32 → Int32 → Int32 → Int32 → Int32 → Int32 → Int32 → mS → Option (Int32 × mS)) (h0 : Nat) (x2 : Int32) (x3 : Int32) (x4 : Int32) (x5 : Int32) (x7 : Int32) (x8 : Int32) (x9 : Int32) (s0 : Int32) (σ : mS) : Option (Int32 × mS) :=
if s0 = 0 then
f_X6_castBy_159 k42 h0 x2 x3 x4 x5 s0 x7 x8 x9 (σ)
else
if isO (σ) h0 5 = true then
(f_X6_can h0 x9 (σ)).bind fun q54 =>
f_X6_castBy_159 k42 h0 x2 x3 x4 x5 q54 x7 x8 x9 (σ) else none
def f_X6_castBy_42 : Nat → Nat → Int32 → Int32 → Int32 → Int32 → Int32 → Int32 → Int32 → mS → Option (Int32 × mS)
  | 0, _, _, _, _, _, _, _, _, _ => none
  | n + 1, h0, x2, x3, x4, x5, x6, x7, x8, σ =>
    if x2 ≤ x8 then
    if x6 &&& 1 = x6 then some (x6, σ) else none
    else
    if x6 = 0 then
    if x6 &&& 1 = x6 then some (x6, σ) else none
    else
    if x3 = 0 then none else
    vl ((f_X6_within (x4 / x3) (0 : Int32) (6 : Int32)) - (1 : Int32)) fun v60 =>
    if x3 = 0 then none else
    vl (x4 - x4 / x3 * x3) fun v62 =>
    vl (if x3 ≤ (1 : Int32) then (1 : Int32) else (x3 / (7 : Int32))) fun v64 =>
    vl (if v60 = (-1 : Int32) then (1 : Int32) else (0 : Int32)) fun v66 =>
    vl (x7 ||| v66) fun v67 =>
    if v60 = (-1 : Int32) then
    vl (x8 + (1 : Int32)) fun v74 =>
    f_X6_castBy_42 n h0 x2 v64 v62 x5 (1 : Int32) v67 v74 (σ)
    else
    if v67 = 0 then
    (gI (σ) h0 5 0).bind fun v70 =>
    vl (if v70 ≤ v60 then (0 : Int32) else if ((x5 >>> (v60 &&& 31)) &&& (1 : Int32)) = 0 then (1 : Int32) else (0 : Int32)) fun v73 =>
    f_X6_castBy_144 (f_X6_castBy_42 n) h0 x2 v64 v62 x5 v67 x8 v60 v73 (σ)
    else
    f_X6_castBy_144 (f_X6_castBy_42 n) h0 x2 v64 v62 x5 v67 x8 v60 (0 : Int32) (σ)
def f_X6_castBy (h0 : Nat) (x1 : Int32) (x2 : Int32) (σ : mS) : Option (Int32 × mS) :=
f_X6_castBy_5 (fun h0 x2 x3 x4 x5 x6 x7 x8 σ => f_X6_castBy_42 fU h0 x2 x3 x4 x5 x6 x7 x8 σ) fU h0 x1 x2 (1 : Int32) (1 : Int32) (σ)
def f_X6_cast_159 (k67 : Nat → Int32 → Int32 → Int32 → Int32 → Int32 → Int32 → mS → Option (Int32 × mS)) (h0 : Nat) (x1 : Int32) (x2 : Int32) (x3 : Int32) (x4 : Int32) (x5 : Int32) (x6 : Int32) (σ : mS) : Option (Int32 × mS) :=
if isO (σ) h0 5 = true then
(f_X6_lays h0 (σ)).bind fun q32 =>
vl (x6 + (1 : Int32)) fun v33 =>
k67 h0 x1 x2 x3 x4 x5 v33 q32 else none
def f_X6_cast_157 (k67 : Nat → Int32 → Int32 → Int32 → Int32 → Int32 → Int32 → mS → Option (Int32 × mS)) (h0 : Nat) (x1 : Int32) (x2 : Int32) (x3 : Int32) (x4 : Int32) (x6 : Int32) (s0 : Int32) (σ : mS) : Option (Int32 × mS) :=
f_X6_cast_159 k67 h0 x1 x2 x3 x4 s0 x6 (σ)
def f_X6_cast_141 (k67 : Nat → Int32 → Int32 → Int32 → Int32 → Int32 → Int32 → mS → Option (Int32 × mS)) (h0 : Nat) (x1 : Int32) (x2 : Int32) (x3 : Int32) (x5 : Int32) (x6 : Int32) (x8 : Int32) (s0 : Int32) (σ : mS) : Option (Int32 × mS) :=
if x8 = 0 then
f_X6_cast_157 k67 h0 x1 x2 x3 s0 x6 x5 (σ)
else
(gI (σ) h0 5 36).bind fun v35 =>
f_X6_cast_157 k67 h0 x1 x2 x3 s0 x6 v35 (σ)
def f_X6_cast_125 (k67 : Nat → Int32 → Int32 → Int32 → Int32 → Int32 → Int32 → mS → Option (Int32 × mS)) (h0 : Nat) (x1 : Int32) (x2 : Int32) (x3 : Int32) (x4 : Int32) (x5 : Int32) (x6 : Int32) (s0 : Int32) (σ : mS) : Option (Int32 × mS) :=
if s0 = 0 then
f_X6_cast_141 k67 h0 x1 x2 x3 x5 x6 s0 x4 (σ)
else
(gI (σ) h0 5 35).bind fun v37 =>
f_X6_cast_141 k67 h0 x1 x2 x3 x5 x6 s0 v37 (σ)
def f_X6_cast_67 : Nat → Nat → Int32 → Int32 → Int32 → Int32 → Int32 → Int32 → mS → Option (Int32 × mS)
  | 0, _, _, _, _, _, _, _, _ => none
  | n + 1, h0, x1, x2, x3, x4, x5, x6, σ =>
    if x3 ≤ x6 then
    if x2 = 0 then
    some (x4, σ)
    else
    some (x5, σ)
    else
    if isO (σ) h0 5 = true then
    (f_X6_castBy h0 x6 x1 (σ)).bind fun q41 =>
    if q41.1 = 0 then
    f_X6_cast_159 (f_X6_cast_67 n) h0 x1 x2 x3 x4 x5 x6 q41.2
    else
    if isO q41.2 h0 5 = true then
    (f_X6_goes h0 (12 : Int32) q41.2).bind fun q44 =>
    (gI q44 h0 5 7).bind fun v45 =>
    if isO q44 h0 5 = true then
    (f_X6_verdictOf h0 v45 q44).bind fun q47 =>
    (pI q44 h0 5 36 q47).bind fun t48 =>
    if x4 = (-1 : Int32) then
    f_X6_cast_125 (f_X6_cast_67 n) h0 x1 x2 x3 x4 x5 x6 (1 : Int32) t48
    else
    (gI t48 h0 5 36).bind fun v50 =>
    vl (if v50 ≤ x5 then (0 : Int32) else (1 : Int32)) fun v52 =>
    f_X6_cast_125 (f_X6_cast_67 n) h0 x1 x2 x3 x4 x5 x6 v52 t48 else none else none else none
def f_X6_cast (h0 : Nat) (x1 : Int32) (x2 : Int32) (σ : mS) : Option (Int32 × mS) :=
if (f_X6_in x1 (0 : Int32) (3 : Int32)) = 0 then
some ((-5000 : Int32), σ)
else
if (f_X6_in x2 (0 : Int32) (1 : Int32)) = 0 then
some ((-5000 : Int32), σ)
else
vl (if x1 = 0 then (1 : Int32) else if x1 = (1 : Int32) then (7 : Int32) else if x1 = (2 : Int32) then (49 : Int32) else (343 : Int32)) fun v58 =>
if isO (σ) h0 5 = true then
(f_X6_keeps h0 (σ)).bind fun q60 =>
f_X6_cast_67 fU h0 x1 x2 v58 (-1 : Int32) (0 : Int32) (0 : Int32) q60 else none
def f_X6_lowest_17 : Nat → Int64 → Int64 → Int32 → Int64 → Int64 → Option Int64
  | 0, _, _, _, _, _ => none
  | n + 1, x0, x2, x4, x5, x7 =>
    if (lg_cmp x7 (0 : Int64)) = 0 then
    vl (if x4 = 0 then x0 else x2) fun v11 =>
    if x5 = 0 then none else
    some (v11 / x5)
    else
    if x7 = 0 then none else
    vl (x5 - x5 / x7 * x7) fun v14 =>
    f_X6_lowest_17 n x0 x2 x4 x7 v14
def f_X6_lowest (x0 : Int64) (x2 : Int64) (x4 : Int32) : Option Int64 :=
vl (if 0 ≤ (lg_cmp x0 (0 : Int64)) then x0 else (-x0)) fun v16 =>
f_X6_lowest_17 fU x0 x2 x4 v16 x2
def f_X6_mean (h0 : Nat) (x1 : Int32) (σ : mS) : Option Int64 :=
if (f_X6_in x1 (0 : Int32) (1 : Int32)) = 0 then
some (-4611686018427387904 : Int64)
else
(gI (σ) h0 5 7).bind fun v11 =>
if v11 = 0 then
some (-4611686018427387904 : Int64)
else
(gI (σ) h0 5 7).bind fun v13 =>
if isO (σ) h0 5 = true then
(f_X6_verdictOf h0 v13 (σ)).bind fun q15 =>
(gI (σ) h0 5 7).bind fun v16 =>
(f_X6_onesOf v16).bind fun q17 =>
(f_X6_lowest q15.toInt64 q17.toInt64 x1).bind fun q18 =>
some q18 else none
def f_X6_sheetWrong (h0 : Nat) (x1 : Int32) (σ : mS) : Option Int32 :=
if (f_X6_in x1 (0 : Int32) (3 : Int32)) = 0 then
some (-2 : Int32)
else
(gR (σ) h0 5 18).bind fun r9 =>
(aI (σ) r9 x1).bind fun v10 =>
if v10 = (-1 : Int32) then
some (-11 : Int32)
else
(gR (σ) h0 5 19).bind fun r12 =>
(aI (σ) r12 x1).bind fun v13 =>
if v13 ≤ (20 : Int32) then
some (0 : Int32)
else
some (-2 : Int32)
def f_X6_unlike_8 (k61 : Nat → Int32 → mS → Option (Int32 × mS)) : Nat → Nat → Int32 → Int32 → Int32 → mS → Option (Int32 × mS)
  | 0, _, _, _, _, _ => none
  | n + 1, h0, x1, x2, x3, σ =>
    (gR (σ) h0 5 19).bind fun r18 =>
    (aI (σ) r18 x1).bind fun v19 =>
    if v19 ≤ x3 then
    k61 h0 x2 (σ)
    else
    if x2 = (-1 : Int32) then
    if isO (σ) h0 5 = true then
    (f_X6_hourOf h0 (σ)).bind fun q23 =>
    (gR q23.2 h0 5 20).bind fun r24 =>
    (aI q23.2 r24 (((40 : Int32) * x1) + x3)).bind fun v25 =>
    (gI q23.2 h0 5 7).bind fun v26 =>
    (f_X6_onesOf v26).bind fun q27 =>
    vl (if v25 = q27 then (-1 : Int32) else x3) fun v29 =>
    vl (x3 + (1 : Int32)) fun v30 =>
    f_X6_unlike_8 k61 n h0 x1 v29 v30 q23.2 else none
    else
    k61 h0 x2 (σ)
def f_X6_unlike (h0 : Nat) (x1 : Int32) (σ : mS) : Option (Int32 × mS) :=
if isO (σ) h0 5 = true then
(f_X6_keeps h0 (σ)).bind fun q32 =>
f_X6_unlike_8 (fun h0 x2 σ => if isO (σ) h0 5 = true then
(f_X6_lays h0 (σ)).bind fun q34 =>
some (x2, q34) else none) fU h0 x1 (-1 : Int32) (0 : Int32) q32 else none
def f_X6_judge (h0 : Nat) (x1 : Int32) (σ : mS) : Option (Int32 × mS) :=
if isO (σ) h0 5 = true then
(f_X6_sheetWrong h0 x1 (σ)).bind fun q7 =>
if q7 = 0 then
if isO (σ) h0 5 = true then
(f_X6_unlike h0 x1 (σ)).bind fun q10 =>
some (q10.1, q10.2) else none
else
some (q7, σ) else none
def f_X6_kinds_60 : Nat → Nat → Int32 → Int32 → Int32 → Int32 → Int32 → Int32 → Int32 → mS → Option (Int32 × mS)
  | 0, _, _, _, _, _, _, _, _, _ => none
  | n + 1, h0, x1, x2, x3, x5, x6, x7, x8, σ =>
    vl (if x3 = 0 then (6 : Int32) else (10 : Int32)) fun v34 =>
    if v34 ≤ x8 then
    (gR (σ) h0 5 1).bind fun r36 =>
    (sI (σ) r36 x2 x5).bind fun t37 =>
    (gR t37 h0 5 2).bind fun r38 =>
    (sI t37 r38 x2 x6).bind fun t39 =>
    some (x7, t39)
    else
    (gR (σ) h0 5 1).bind fun r40 =>
    vl (if x3 = 0 then x8 else x5) fun v42 =>
    (sI (σ) r40 x2 v42).bind fun t43 =>
    (gR t43 h0 5 2).bind fun r44 =>
    vl (if x3 = (1 : Int32) then x8 else x6) fun v46 =>
    (sI t43 r44 x2 v46).bind fun t47 =>
    if isO t47 h0 5 = true then
    (f_X6_unlike h0 x1 t47).bind fun q49 =>
    vl (if q49.1 = (-1 : Int32) then ((1 : Int32) <<< (x8 &&& 31)) else (0 : Int32)) fun v51 =>
    vl (x7 ||| v51) fun v52 =>
    vl (x8 + (1 : Int32)) fun v53 =>
    f_X6_kinds_60 n h0 x1 x2 x3 x5 x6 v52 v53 q49.2 else none
def f_X6_kinds (h0 : Nat) (x1 : Int32) (x2 : Int32) (x3 : Int32) (σ : mS) : Option (Int32 × mS) :=
if isO (σ) h0 5 = true then
(f_X6_sheetWrong h0 x1 (σ)).bind fun q55 =>
if q55 = 0 then
if isO (σ) h0 5 = true then
(f_X6_isOne h0 x2 (σ)).bind fun q58 =>
if q58 = 0 then
some ((-5 : Int32), σ)
else
if (f_X6_in x3 (0 : Int32) (1 : Int32)) = 0 then
some ((-7 : Int32), σ)
else
(gR (σ) h0 5 1).bind fun r61 =>
(aI (σ) r61 x2).bind fun v62 =>
(gR (σ) h0 5 2).bind fun r63 =>
(aI (σ) r63 x2).bind fun v64 =>
f_X6_kinds_60 fU h0 x1 x2 x3 v62 v64 (0 : Int32) (0 : Int32) (σ) else none
else
some (q55, σ) else none
def f_X6_faces_59 : Nat → Nat → Int32 → Int32 → Int32 → Int32 → Int32 → Int32 → Int32 → mS → Option (Int32 × mS)
  | 0, _, _, _, _, _, _, _, _, _ => none
  | n + 1, h0, x1, x2, x3, x5, x6, x7, x8, σ =>
    if (99 : Int32) < x8 then
    (gR (σ) h0 5 3).bind fun r28 =>
    (sI (σ) r28 (((3 : Int32) * x2) + (1 : Int32)) x5).bind fun t29 =>
    if x3 = 0 then
    some (x6, t29)
    else
    some (x7, t29)
    else
    (gR (σ) h0 5 3).bind fun r31 =>
    (sI (σ) r31 (((3 : Int32) * x2) + (1 : Int32)) x8).bind fun t32 =>
    if isO t32 h0 5 = true then
    (f_X6_unlike h0 x1 t32).bind fun q34 =>
    vl (if q34.1 = (-1 : Int32) then (1 : Int32) else (0 : Int32)) fun v36 =>
    vl (if v36 = 0 then (0 : Int32) else (1 : Int32)) fun v38 =>
    vl (x6 + v38) fun v39 =>
    vl (if v36 = 0 then x7 else if x7 = (-1 : Int32) then x8 else x7) fun v42 =>
    vl (x8 + (1 : Int32)) fun v43 =>
    f_X6_faces_59 n h0 x1 x2 x3 x5 v39 v42 v43 q34.2 else none
def f_X6_faces (h0 : Nat) (x1 : Int32) (x2 : Int32) (x3 : Int32) (σ : mS) : Option (Int32 × mS) :=
if isO (σ) h0 5 = true then
(f_X6_sheetWrong h0 x1 (σ)).bind fun q45 =>
if q45 = 0 then
if isO (σ) h0 5 = true then
(f_X6_isOne h0 x2 (σ)).bind fun q48 =>
if q48 = 0 then
some ((-5 : Int32), σ)
else
if (f_X6_in x3 (0 : Int32) (1 : Int32)) = 0 then
some ((-7 : Int32), σ)
else
(gR (σ) h0 5 3).bind fun r51 =>
(aI (σ) r51 (((3 : Int32) * x2) + (1 : Int32))).bind fun v52 =>
f_X6_faces_59 fU h0 x1 x2 x3 v52 (0 : Int32) (-1 : Int32) (0 : Int32) (σ) else none
else
some (q45, σ) else none
def f_X6_keens_56 : Nat → Nat → Int32 → Int32 → Int32 → Int32 → Int32 → Int32 → Int32 → mS → Option (Int32 × mS)
  | 0, _, _, _, _, _, _, _, _, _ => none
  | n + 1, h0, x1, x2, x3, x5, x6, x7, x8, σ =>
    if (99 : Int32) < x8 then
    (gR (σ) h0 5 6).bind fun r26 =>
    (sI (σ) r26 x2 x5).bind fun t27 =>
    if x3 = 0 then
    some (x6, t27)
    else
    some (x7, t27)
    else
    (gR (σ) h0 5 6).bind fun r29 =>
    (sI (σ) r29 x2 x8).bind fun t30 =>
    if isO t30 h0 5 = true then
    (f_X6_unlike h0 x1 t30).bind fun q32 =>
    vl (if q32.1 = (-1 : Int32) then (1 : Int32) else (0 : Int32)) fun v34 =>
    vl (if v34 = 0 then (0 : Int32) else (1 : Int32)) fun v36 =>
    vl (x6 + v36) fun v37 =>
    vl (if v34 = 0 then x7 else if x7 = (-1 : Int32) then x8 else x7) fun v40 =>
    vl (x8 + (1 : Int32)) fun v41 =>
    f_X6_keens_56 n h0 x1 x2 x3 x5 v37 v40 v41 q32.2 else none
def f_X6_keens (h0 : Nat) (x1 : Int32) (x2 : Int32) (x3 : Int32) (σ : mS) : Option (Int32 × mS) :=
if isO (σ) h0 5 = true then
(f_X6_sheetWrong h0 x1 (σ)).bind fun q43 =>
if q43 = 0 then
if (f_X6_in x2 (0 : Int32) (5 : Int32)) = 0 then
some ((-5 : Int32), σ)
else
if (f_X6_in x3 (0 : Int32) (1 : Int32)) = 0 then
some ((-7 : Int32), σ)
else
(gR (σ) h0 5 6).bind fun r47 =>
(aI (σ) r47 x2).bind fun v48 =>
f_X6_keens_56 fU h0 x1 x2 x3 v48 (0 : Int32) (-1 : Int32) (0 : Int32) (σ)
else
some (q43, σ) else none
def f_X6_burnt_17 : Nat → Nat → Int32 → Int32 → Int32 → mS → Option (Int32 × mS)
  | 0, _, _, _, _, _ => none
  | n + 1, h0, x1, x3, x4, σ =>
    if (8 : Int32) ≤ x4 then
    some (x3, σ)
    else
    (gR (σ) h0 5 4).bind fun r20 =>
    (aI (σ) r20 ((3 : Int32) * x4)).bind fun v21 =>
    if v21 = (-1 : Int32) then
    vl (x4 + (1 : Int32)) fun v23 =>
    f_X6_burnt_17 n h0 x1 x3 v23 (σ)
    else
    (gR (σ) h0 5 4).bind fun r24 =>
    (sI (σ) r24 ((3 : Int32) * x4) (-1 : Int32)).bind fun t25 =>
    if isO t25 h0 5 = true then
    (f_X6_unlike h0 x1 t25).bind fun q27 =>
    vl (if q27.1 = (-1 : Int32) then ((1 : Int32) <<< (x4 &&& 31)) else (0 : Int32)) fun v29 =>
    vl (x3 ||| v29) fun v30 =>
    (gR q27.2 h0 5 4).bind fun r31 =>
    (sI q27.2 r31 ((3 : Int32) * x4) v21).bind fun t32 =>
    vl (x4 + (1 : Int32)) fun v33 =>
    f_X6_burnt_17 n h0 x1 v30 v33 t32 else none
def f_X6_burnt (h0 : Nat) (x1 : Int32) (σ : mS) : Option (Int32 × mS) :=
if isO (σ) h0 5 = true then
(f_X6_sheetWrong h0 x1 (σ)).bind fun q35 =>
if q35 = 0 then
f_X6_burnt_17 fU h0 x1 (0 : Int32) (0 : Int32) (σ)
else
some (q35, σ) else none
def f_X6_laws_23 : Nat → Nat → Int32 → Int32 → Int32 → Int32 → mS → Option (Int32 × mS)
  | 0, _, _, _, _, _, _ => none
  | n + 1, h0, x1, x3, x4, x5, σ =>
    (gI (σ) h0 5 13).bind fun v15 =>
    if v15 ≤ x5 then
    (pI (σ) h0 5 14 x3).bind fun t17 =>
    some (x4, t17)
    else
    (pI (σ) h0 5 14 x5).bind fun t18 =>
    if isO t18 h0 5 = true then
    (f_X6_unlike h0 x1 t18).bind fun q20 =>
    vl (if q20.1 = (-1 : Int32) then ((1 : Int32) <<< (x5 &&& 31)) else (0 : Int32)) fun v22 =>
    vl (x4 ||| v22) fun v23 =>
    vl (x5 + (1 : Int32)) fun v24 =>
    f_X6_laws_23 n h0 x1 x3 v23 v24 q20.2 else none
def f_X6_laws (h0 : Nat) (x1 : Int32) (σ : mS) : Option (Int32 × mS) :=
if isO (σ) h0 5 = true then
(f_X6_sheetWrong h0 x1 (σ)).bind fun q26 =>
if q26 = 0 then
(gI (σ) h0 5 14).bind fun v28 =>
f_X6_laws_23 fU h0 x1 v28 (0 : Int32) (0 : Int32) (σ)
else
some (q26, σ) else none
def f_X6_film_45 : Nat → Nat → Int32 → Int32 → Int32 → mS → Option (Int32 × mS)
  | 0, _, _, _, _, _ => none
  | n + 1, h0, x1, x2, x3, σ =>
    if (40 : Int32) ≤ x3 then
    if isO (σ) h0 5 = true then
    (f_X6_lays h0 (σ)).bind fun q25 =>
    some (x2, q25) else none
    else
    (gR (σ) h0 5 20).bind fun r26 =>
    (sI (σ) r26 (((40 : Int32) * x1) + x3) (0 : Int32)).bind fun t27 =>
    if x2 ≤ x3 then
    vl (x3 + (1 : Int32)) fun v29 =>
    f_X6_film_45 n h0 x1 x2 v29 t27
    else
    if isO t27 h0 5 = true then
    (f_X6_hourOf h0 t27).bind fun q31 =>
    (gR q31.2 h0 5 20).bind fun r32 =>
    (gI q31.2 h0 5 7).bind fun v33 =>
    (f_X6_onesOf v33).bind fun q34 =>
    (sI q31.2 r32 (((40 : Int32) * x1) + x3) q34).bind fun t35 =>
    vl (x3 + (1 : Int32)) fun v36 =>
    f_X6_film_45 n h0 x1 x2 v36 t35 else none
def f_X6_film (h0 : Nat) (x1 : Int32) (x2 : Int32) (σ : mS) : Option (Int32 × mS) :=
if (f_X6_in x1 (0 : Int32) (3 : Int32)) = 0 then
some ((-2 : Int32), σ)
else
if (f_X6_in x2 (0 : Int32) (20 : Int32)) = 0 then
some ((-7 : Int32), σ)
else
(gR (σ) h0 5 18).bind fun r39 =>
(sI (σ) r39 x1 (0 : Int32)).bind fun t40 =>
(gR t40 h0 5 19).bind fun r41 =>
(sI t40 r41 x1 x2).bind fun t42 =>
if isO t42 h0 5 = true then
(f_X6_keeps h0 t42).bind fun q44 =>
f_X6_film_45 fU h0 x1 x2 (0 : Int32) q44 else none
def f_X6_assizes_88 (k12 : Nat → Int64 → Int32 → mS → Option (Int32 × mS)) (h0 : Nat) (x2 : Int64) (x4 : Int32) (σ : mS) : Option (Int32 × mS) :=
if isO (σ) h0 5 = true then
(f_X6_hourOf h0 (σ)).bind fun q27 =>
vl (x4 + (1 : Int32)) fun v28 =>
k12 h0 x2 v28 q27.2 else none
def f_X6_assizes_71 (k12 : Nat → Int64 → Int32 → mS → Option (Int32 × mS)) (h0 : Nat) (x2 : Int64) (x4 : Int32) (x5 : Int32) (x6 : Int32) (σ : mS) : Option (Int32 × mS) :=
if x6 = 0 then
f_X6_assizes_88 k12 h0 x2 x4 (σ)
else
if isO (σ) h0 5 = true then
(f_X6_dropOf h0 (f_X6_within x5 (0 : Int32) (5 : Int32)) (σ)).bind fun q31 =>
f_X6_assizes_88 k12 h0 x2 x4 q31.2 else none
def f_X6_assizes_12 : Nat → Nat → Int64 → Int32 → mS → Option (Int32 × mS)
  | 0, _, _, _, _ => none
  | n + 1, h0, x2, x4, σ =>
    if (10 : Int32) ≤ x4 then
    (gI (σ) h0 5 7).bind fun v33 =>
    (pI (σ) h0 5 37 v33).bind fun t34 =>
    if isO t34 h0 5 = true then
    (f_X6_lays h0 t34).bind fun q36 =>
    (gI q36 h0 5 37).bind fun v37 =>
    if isO q36 h0 5 = true then
    (f_X6_verdictOf h0 v37 q36).bind fun q39 =>
    some (q39, q36) else none else none
    else
    vl ((x2 * (48271 : Int64)) - (x2 * (48271 : Int64)) / (2147483647 : Int64) * (2147483647 : Int64)) fun v40 =>
    vl ((v40 - v40 / (8 : Int64) * (8 : Int64)).toInt32) fun v41 =>
    (gI (σ) h0 5 0).bind fun v42 =>
    vl (if v42 ≤ v41 then (0 : Int32) else (1 : Int32)) fun v44 =>
    if v44 = 0 then
    f_X6_assizes_71 (f_X6_assizes_12 n) h0 v40 x4 v41 v44 (σ)
    else
    if isO (σ) h0 5 = true then
    (f_X6_can h0 (f_X6_within v41 (0 : Int32) (5 : Int32)) (σ)).bind fun q47 =>
    f_X6_assizes_71 (f_X6_assizes_12 n) h0 v40 x4 v41 q47 (σ) else none
def f_X6_assizes (h0 : Nat) (x1 : Int32) (σ : mS) : Option (Int32 × mS) :=
vl (x1.toInt64 + (1 : Int64)) fun v48 =>
if isO (σ) h0 5 = true then
(f_X6_keeps h0 (σ)).bind fun q50 =>
f_X6_assizes_12 fU h0 v48 (0 : Int32) q50 else none
def f_X6_drawn (h0 : Nat) (x1 : Int32) (x2 : Int32) (σ : mS) : Option (Int32 × mS) :=
if (f_X6_in x1 (0 : Int32) (99999 : Int32)) = 0 then
some ((-5000 : Int32), σ)
else
if (f_X6_in x2 (0 : Int32) (1 : Int32)) = 0 then
some ((-5000 : Int32), σ)
else
if isO (σ) h0 5 = true then
(f_X6_assizes h0 x1 (σ)).bind fun q10 =>
if x2 = 0 then
some (q10.1, q10.2)
else
(gI q10.2 h0 5 37).bind fun v12 =>
some (v12, q10.2) else none
def f_X6_odds_54 : Nat → Nat → Int32 → Int32 → Int32 → Int32 → Int64 → Int32 → mS → Option (Int64 × mS)
  | 0, _, _, _, _, _, _, _, _ => none
  | n + 1, h0, x1, x2, x3, x4, x5, x7, σ =>
    if x2 ≤ x7 then
    (f_X6_lowest x5 x2.toInt64 x4).bind fun q14 =>
    some (q14, σ)
    else
    if isO (σ) h0 5 = true then
    (f_X6_assizes h0 (x1 + x7) (σ)).bind fun q16 =>
    vl (if q16.1 < x3 then (0 : Int64) else (1 : Int64)) fun v18 =>
    vl (x5 + v18) fun v19 =>
    vl (x7 + (1 : Int32)) fun v20 =>
    f_X6_odds_54 n h0 x1 x2 x3 x4 v19 v20 q16.2 else none
def f_X6_odds (h0 : Nat) (x1 : Int32) (x2 : Int32) (x3 : Int32) (x4 : Int32) (σ : mS) : Option (Int64 × mS) :=
if (f_X6_in x1 (0 : Int32) (99999 : Int32)) = 0 then
some ((-4611686018427387904 : Int64), σ)
else
if (f_X6_in x2 (1 : Int32) (40 : Int32)) = 0 then
some ((-4611686018427387904 : Int64), σ)
else
if (f_X6_in x3 (-999 : Int32) (999 : Int32)) = 0 then
some ((-4611686018427387904 : Int64), σ)
else
if (f_X6_in x4 (0 : Int32) (1 : Int32)) = 0 then
some ((-4611686018427387904 : Int64), σ)
else
f_X6_odds_54 fU h0 x1 x2 x3 x4 (0 : Int64) (0 : Int32) (σ)
def f_X6_image_7 (k33 : Nat → Int32 → mS → Option (Int32 × mS)) : Nat → Nat → Int32 → mS → Option (Int32 × mS)
  | 0, _, _, _ => none
  | n + 1, h0, x1, σ =>
    if (18 : Int32) ≤ x1 then
    k33 h0 (0 : Int32) (σ)
    else
    (gR (σ) h0 5 16).bind fun r40 =>
    (gR (σ) h0 5 3).bind fun r41 =>
    (aI (σ) r41 x1).bind fun v42 =>
    (sI (σ) r40 x1 v42).bind fun t43 =>
    vl (x1 + (1 : Int32)) fun v44 =>
    f_X6_image_7 k33 n h0 v44 t43
def f_X6_image_33 (k62 : Nat → Int32 → mS → Option (Int32 × mS)) : Nat → Nat → Int32 → mS → Option (Int32 × mS)
  | 0, _, _, _ => none
  | n + 1, h0, x1, σ =>
    if (24 : Int32) ≤ x1 then
    k62 h0 (0 : Int32) (σ)
    else
    (gR (σ) h0 5 16).bind fun r46 =>
    (gR (σ) h0 5 4).bind fun r47 =>
    (aI (σ) r47 x1).bind fun v48 =>
    (sI (σ) r46 ((18 : Int32) + x1) v48).bind fun t49 =>
    vl (x1 + (1 : Int32)) fun v50 =>
    f_X6_image_33 k62 n h0 v50 t49
def f_X6_image_62 (k91 : Nat → Int32 → mS → Option (Int32 × mS)) : Nat → Nat → Int32 → mS → Option (Int32 × mS)
  | 0, _, _, _ => none
  | n + 1, h0, x1, σ =>
    if (10 : Int32) ≤ x1 then
    k91 h0 (0 : Int32) (σ)
    else
    (gR (σ) h0 5 16).bind fun r52 =>
    (gR (σ) h0 5 5).bind fun r53 =>
    (aI (σ) r53 x1).bind fun v54 =>
    (sI (σ) r52 ((42 : Int32) + x1) v54).bind fun t55 =>
    vl (x1 + (1 : Int32)) fun v56 =>
    f_X6_image_62 k91 n h0 v56 t55
def f_X6_image_91 : Nat → Nat → Int32 → mS → Option (Int32 × mS)
  | 0, _, _, _ => none
  | n + 1, h0, x1, σ =>
    if (6 : Int32) ≤ x1 then
    (gR (σ) h0 5 17).bind fun r58 =>
    (gI (σ) h0 5 0).bind fun v59 =>
    (sI (σ) r58 (0 : Int32) v59).bind fun t60 =>
    (gR t60 h0 5 17).bind fun r61 =>
    (gI t60 h0 5 7).bind fun v62 =>
    (sI t60 r61 (1 : Int32) v62).bind fun t63 =>
    (gR t63 h0 5 17).bind fun r64 =>
    (gI t63 h0 5 8).bind fun v65 =>
    (sI t63 r64 (2 : Int32) v65).bind fun t66 =>
    (gR t66 h0 5 17).bind fun r67 =>
    (gI t66 h0 5 14).bind fun v68 =>
    (sI t66 r67 (3 : Int32) v68).bind fun t69 =>
    (gI t69 h0 5 0).bind fun v70 =>
    some (v70, t69)
    else
    (gR (σ) h0 5 16).bind fun r71 =>
    (gR (σ) h0 5 6).bind fun r72 =>
    (aI (σ) r72 x1).bind fun v73 =>
    (sI (σ) r71 ((52 : Int32) + x1) v73).bind fun t74 =>
    vl (x1 + (1 : Int32)) fun v75 =>
    f_X6_image_91 n h0 v75 t74
def f_X6_image (h0 : Nat) (σ : mS) : Option (Int32 × mS) :=
(pI (σ) h0 5 15 (1 : Int32)).bind fun t76 =>
f_X6_image_7 (fun h0 x1 σ => f_X6_image_33 (fun h0 x1 σ => f_X6_image_62 (fun h0 x1 σ => f_X6_image_91 fU h0 x1 σ) fU h0 x1 σ) fU h0 x1 σ) fU h0 (0 : Int32) t76
def f_X6_back_12 (k38 : Nat → Int32 → mS → Option (Int32 × mS)) : Nat → Nat → Int32 → mS → Option (Int32 × mS)
  | 0, _, _, _ => none
  | n + 1, h0, x1, σ =>
    if (18 : Int32) ≤ x1 then
    k38 h0 (0 : Int32) (σ)
    else
    (gR (σ) h0 5 3).bind fun r41 =>
    (gR (σ) h0 5 16).bind fun r42 =>
    (aI (σ) r42 x1).bind fun v43 =>
    (sI (σ) r41 x1 v43).bind fun t44 =>
    vl (x1 + (1 : Int32)) fun v45 =>
    f_X6_back_12 k38 n h0 v45 t44
def f_X6_back_38 (k67 : Nat → Int32 → mS → Option (Int32 × mS)) : Nat → Nat → Int32 → mS → Option (Int32 × mS)
  | 0, _, _, _ => none
  | n + 1, h0, x1, σ =>
    if (24 : Int32) ≤ x1 then
    k67 h0 (0 : Int32) (σ)
    else
    (gR (σ) h0 5 4).bind fun r47 =>
    (gR (σ) h0 5 16).bind fun r48 =>
    (aI (σ) r48 ((18 : Int32) + x1)).bind fun v49 =>
    (sI (σ) r47 x1 v49).bind fun t50 =>
    vl (x1 + (1 : Int32)) fun v51 =>
    f_X6_back_38 k67 n h0 v51 t50
def f_X6_back_67 (k96 : Nat → Int32 → mS → Option (Int32 × mS)) : Nat → Nat → Int32 → mS → Option (Int32 × mS)
  | 0, _, _, _ => none
  | n + 1, h0, x1, σ =>
    if (10 : Int32) ≤ x1 then
    k96 h0 (0 : Int32) (σ)
    else
    (gR (σ) h0 5 5).bind fun r53 =>
    (gR (σ) h0 5 16).bind fun r54 =>
    (aI (σ) r54 ((42 : Int32) + x1)).bind fun v55 =>
    (sI (σ) r53 x1 v55).bind fun t56 =>
    vl (x1 + (1 : Int32)) fun v57 =>
    f_X6_back_67 k96 n h0 v57 t56
def f_X6_back_96 : Nat → Nat → Int32 → mS → Option (Int32 × mS)
  | 0, _, _, _ => none
  | n + 1, h0, x1, σ =>
    if (6 : Int32) ≤ x1 then
    (gR (σ) h0 5 17).bind fun r59 =>
    (aI (σ) r59 (0 : Int32)).bind fun v60 =>
    (pI (σ) h0 5 0 v60).bind fun t61 =>
    (gR t61 h0 5 17).bind fun r62 =>
    (aI t61 r62 (1 : Int32)).bind fun v63 =>
    (pI t61 h0 5 7 v63).bind fun t64 =>
    (gR t64 h0 5 17).bind fun r65 =>
    (aI t64 r65 (2 : Int32)).bind fun v66 =>
    (pI t64 h0 5 8 v66).bind fun t67 =>
    (gR t67 h0 5 17).bind fun r68 =>
    (aI t67 r68 (3 : Int32)).bind fun v69 =>
    (pI t67 h0 5 14 v69).bind fun t70 =>
    (gI t70 h0 5 0).bind fun v71 =>
    some (v71, t70)
    else
    (gR (σ) h0 5 6).bind fun r72 =>
    (gR (σ) h0 5 16).bind fun r73 =>
    (aI (σ) r73 ((52 : Int32) + x1)).bind fun v74 =>
    (sI (σ) r72 x1 v74).bind fun t75 =>
    vl (x1 + (1 : Int32)) fun v76 =>
    f_X6_back_96 n h0 v76 t75
def f_X6_back (h0 : Nat) (σ : mS) : Option (Int32 × mS) :=
(gI (σ) h0 5 15).bind fun v77 =>
if v77 = 0 then
some ((-3 : Int32), σ)
else
f_X6_back_12 (fun h0 x1 σ => f_X6_back_38 (fun h0 x1 σ => f_X6_back_67 (fun h0 x1 σ => f_X6_back_96 fU h0 x1 σ) fU h0 x1 σ) fU h0 x1 σ) fU h0 (0 : Int32) (σ)
def f_X6_sheet_70 : Nat → Nat → Int32 → Int32 → mS → Option (Int32 × mS)
  | 0, _, _, _, _ => none
  | n + 1, h0, x1, x4, σ =>
    if (40 : Int32) ≤ x4 then
    some ((1 : Int32), σ)
    else
    (gR (σ) h0 5 20).bind fun r18 =>
    (sI (σ) r18 (((40 : Int32) * x1) + x4) (0 : Int32)).bind fun t19 =>
    vl (x4 + (1 : Int32)) fun v20 =>
    f_X6_sheet_70 n h0 x1 v20 t19
def f_X6_sheet_44 (h0 : Nat) (x1 : Int32) (x2 : Int32) (x3 : Int32) (σ : mS) : Option (Int32 × mS) :=
(gR (σ) h0 5 18).bind fun r21 =>
(sI (σ) r21 x1 x2).bind fun t22 =>
(gR t22 h0 5 19).bind fun r23 =>
vl (if x2 = (-1 : Int32) then (0 : Int32) else x3) fun v25 =>
(sI t22 r23 x1 v25).bind fun t26 =>
f_X6_sheet_70 fU h0 x1 (0 : Int32) t26
def f_X6_sheet_32 (h0 : Nat) (x1 : Int32) (x2 : Int32) (x3 : Int32) (σ : mS) : Option (Int32 × mS) :=
if x2 = (-1 : Int32) then
f_X6_sheet_44 h0 x1 x2 x3 (σ)
else
if 0 ≤ x3 then
f_X6_sheet_44 h0 x1 x2 x3 (σ)
else
some ((-14 : Int32), σ)
def f_X6_sheet (h0 : Nat) (x1 : Int32) (x2 : Int32) (x3 : Int32) (σ : mS) : Option (Int32 × mS) :=
if (f_X6_in x1 (0 : Int32) (3 : Int32)) = 0 then
some ((-2 : Int32), σ)
else
if (f_X6_in x2 (-1 : Int32) (2 : Int32)) = 0 then
some ((-2 : Int32), σ)
else
if x2 = (-1 : Int32) then
f_X6_sheet_32 h0 x1 x2 x3 (σ)
else
if x3 ≤ (40 : Int32) then
f_X6_sheet_32 h0 x1 x2 x3 (σ)
else
some ((-2 : Int32), σ)
def f_X6_cell_84 (s0 : Nat) (s1 : Int32) (s2 : Int32) (σ : mS) : Option (Int32 × mS) :=
(sI (σ) s0 s1 s2).bind fun t17 =>
some ((1 : Int32), t17)
def f_X6_cell (h0 : Nat) (x1 : Int32) (x2 : Int32) (x3 : Int32) (σ : mS) : Option (Int32 × mS) :=
if (f_X6_in x1 (0 : Int32) (3 : Int32)) = 0 then
some ((-2 : Int32), σ)
else
(gR (σ) h0 5 18).bind fun r19 =>
(aI (σ) r19 x1).bind fun v20 =>
if v20 = (-1 : Int32) then
some ((-11 : Int32), σ)
else
(gR (σ) h0 5 19).bind fun r22 =>
(aI (σ) r22 x1).bind fun v23 =>
if (f_X6_in x2 (0 : Int32) (v23 - (1 : Int32))) = 0 then
some ((-12 : Int32), σ)
else
(gR (σ) h0 5 20).bind fun r25 =>
(gR (σ) h0 5 18).bind fun r26 =>
(aI (σ) r26 x1).bind fun v27 =>
if v27 = 0 then
f_X6_cell_84 r25 (((40 : Int32) * x1) + x2) x3.toInt8.toInt32 (σ)
else
(gR (σ) h0 5 18).bind fun r29 =>
(aI (σ) r29 x1).bind fun v30 =>
vl (if v30 = (1 : Int32) then x3.toInt16.toInt32 else x3) fun v32 =>
f_X6_cell_84 r25 (((40 : Int32) * x1) + x2) v32 (σ)
def f_X6_copy_147 : Nat → Nat → Int32 → Int32 → Int32 → Int32 → mS → Option (Int32 × mS)
  | 0, _, _, _, _, _, _ => none
  | n + 1, h0, x5, x6, x7, x8, σ =>
    if x5 ≤ x8 then
    some (x5, σ)
    else
    vl (if x7 ≤ x6 then x8 else ((x5 - (1 : Int32)) - x8)) fun v41 =>
    (gR (σ) h0 5 20).bind fun r42 =>
    (gR (σ) h0 5 20).bind fun r43 =>
    (aI (σ) r43 (x6 + v41)).bind fun v44 =>
    (sI (σ) r42 (x7 + v41) v44).bind fun t45 =>
    vl (x8 + (1 : Int32)) fun v46 =>
    f_X6_copy_147 n h0 x5 x6 x7 v46 t45
def f_X6_copy (h0 : Nat) (x1 : Int32) (x2 : Int32) (x3 : Int32) (x4 : Int32) (x5 : Int32) (σ : mS) : Option (Int32 × mS) :=
if (f_X6_in x1 (0 : Int32) (3 : Int32)) = 0 then
some ((-2 : Int32), σ)
else
if (f_X6_in x3 (0 : Int32) (3 : Int32)) = 0 then
some ((-2 : Int32), σ)
else
(gR (σ) h0 5 18).bind fun r49 =>
(aI (σ) r49 x1).bind fun v50 =>
if v50 = (-1 : Int32) then
some ((-11 : Int32), σ)
else
(gR (σ) h0 5 18).bind fun r52 =>
(aI (σ) r52 x3).bind fun v53 =>
if v53 = (-1 : Int32) then
some ((-11 : Int32), σ)
else
(gR (σ) h0 5 18).bind fun r55 =>
(aI (σ) r55 x1).bind fun v56 =>
(gR (σ) h0 5 18).bind fun r57 =>
(aI (σ) r57 x3).bind fun v58 =>
if v56 = v58 then
if x5 < 0 then
some ((-12 : Int32), σ)
else
if x2 < 0 then
some ((-12 : Int32), σ)
else
if x4 < 0 then
some ((-12 : Int32), σ)
else
(gR (σ) h0 5 19).bind fun r63 =>
(aI (σ) r63 x1).bind fun v64 =>
if v64 < x2 then
some ((-12 : Int32), σ)
else
(gR (σ) h0 5 19).bind fun r66 =>
(aI (σ) r66 x3).bind fun v67 =>
if v67 < x4 then
some ((-12 : Int32), σ)
else
(gR (σ) h0 5 19).bind fun r69 =>
(aI (σ) r69 x1).bind fun v70 =>
if (v70 - x2) < x5 then
some ((-12 : Int32), σ)
else
(gR (σ) h0 5 19).bind fun r72 =>
(aI (σ) r72 x3).bind fun v73 =>
if x5 ≤ (v73 - x4) then
vl (((40 : Int32) * x1) + x2) fun v75 =>
vl (((40 : Int32) * x3) + x4) fun v76 =>
f_X6_copy_147 fU h0 x5 v75 v76 (0 : Int32) (σ)
else
some ((-12 : Int32), σ)
else
some ((-13 : Int32), σ)
def f_X6_witnessesBy_64 : Nat → Nat → Int32 → Int32 → Int32 → Int32 → Int32 → mS → Option (Int32 × mS)
  | 0, _, _, _, _, _, _, _ => none
  | n + 1, h0, x1, x3, x4, x5, x6, σ =>
    if x4 ≤ x6 then
    some (x5, σ)
    else
    vl (x3 + ((3 : Int32) * x6)) fun v31 =>
    if x3 < 0 then
    some ((-12 : Int32), σ)
    else
    if v31 < x3 then
    some ((-12 : Int32), σ)
    else
    (gR (σ) h0 5 19).bind fun r34 =>
    (aI (σ) r34 x1).bind fun v35 =>
    if v31 ≤ (v35 - (3 : Int32)) then
    vl (((40 : Int32) * x1) + v31) fun v37 =>
    (gR (σ) h0 5 20).bind fun r38 =>
    (aI (σ) r38 v37).bind fun v39 =>
    (gR (σ) h0 5 20).bind fun r40 =>
    (aI (σ) r40 (v37 + (1 : Int32))).bind fun v41 =>
    (gR (σ) h0 5 20).bind fun r42 =>
    (aI (σ) r42 (v37 + (2 : Int32))).bind fun v43 =>
    if isO (σ) h0 5 = true then
    (f_X6_witness h0 v39 v41 v43 (σ)).bind fun q45 =>
    vl (if q45.1 < 0 then (0 : Int32) else (1 : Int32)) fun v47 =>
    vl (x5 + v47) fun v48 =>
    vl (x6 + (1 : Int32)) fun v49 =>
    f_X6_witnessesBy_64 n h0 x1 x3 x4 v48 v49 q45.2 else none
    else
    some ((-12 : Int32), σ)
def f_X6_witnessesBy (h0 : Nat) (x1 : Int32) (x2 : Int32) (x3 : Int32) (x4 : Int32) (σ : mS) : Option (Int32 × mS) :=
if (f_X6_in x1 (0 : Int32) (3 : Int32)) = 0 then
some ((-2 : Int32), σ)
else
if (f_X6_in x2 (0 : Int32) (2 : Int32)) = 0 then
some ((-2 : Int32), σ)
else
if (f_X6_in x4 (0 : Int32) (6 : Int32)) = 0 then
some ((-2 : Int32), σ)
else
(gR (σ) h0 5 18).bind fun r53 =>
(aI (σ) r53 x1).bind fun v54 =>
if v54 = (-1 : Int32) then
some ((-11 : Int32), σ)
else
(gR (σ) h0 5 18).bind fun r56 =>
(aI (σ) r56 x1).bind fun v57 =>
if v57 = x2 then
f_X6_witnessesBy_64 fU h0 x1 x3 x4 (0 : Int32) (0 : Int32) (σ)
else
some ((-13 : Int32), σ)
def f_X6_isUnder_19 (x0 : Int32) (x1 : Int32) : Int32 :=
if x1 = (2 : Int32) then
if x0 = (4 : Int32) then
(1 : Int32)
else
(0 : Int32)
else
(0 : Int32)
def f_X6_isUnder (x0 : Int32) (x1 : Int32) : Int32 :=
if x1 = 0 then
(1 : Int32)
else
if x0 = x1 then
(1 : Int32)
else
if x1 = (1 : Int32) then
if x0 = (3 : Int32) then
(1 : Int32)
else
f_X6_isUnder_19 x0 x1
else
f_X6_isUnder_19 x0 x1
def f_X6_taken (h0 : Nat) (x1 : Int32) (x2 : Int32) (σ : mS) : Option Int32 :=
if (f_X6_in x2 (0 : Int32) (6 : Int32)) = 0 then
some (-2 : Int32)
else
if (f_X6_in x1 (0 : Int32) (13 : Int32)) = 0 then
some (-12 : Int32)
else
if x1 < (6 : Int32) then
(gI (σ) h0 5 0).bind fun v20 =>
if x1 < v20 then
if (6 : Int32) ≤ x2 then
some (-13 : Int32)
else
(gR (σ) h0 5 1).bind fun r23 =>
(aI (σ) r23 x1).bind fun v24 =>
if (f_X6_isUnder v24 x2) = 0 then
some (-13 : Int32)
else
some x1
else
some (-11 : Int32)
else
vl (x1 - (6 : Int32)) fun v26 =>
if isO (σ) h0 5 = true then
(f_X6_isLinen h0 v26 (σ)).bind fun q28 =>
if q28 = 0 then
some (-11 : Int32)
else
if x2 = (6 : Int32) then
(gR (σ) h0 5 4).bind fun r31 =>
(aI (σ) r31 (((3 : Int32) * v26) + (1 : Int32))).bind fun v32 =>
some v32
else
some (-13 : Int32) else none
def f_X6_init_1102 : Nat → Nat → Int32 → mS → Option mS
  | 0, _, _, _ => none
  | n + 1, h0, x1, σ =>
    if (35 : Int32) ≤ x1 then
    (pI (σ) h0 5 10 (35 : Int32)).bind fun t236 =>
    if isO t236 h0 5 = true then
    (f_X6_text h0 t236).bind fun q238 =>
    some q238.2 else none
    else
    (gR (σ) h0 5 9).bind fun r239 =>
    (gR (σ) h0 5 21).bind fun r240 =>
    (aI (σ) r240 x1).bind fun v241 =>
    (sI (σ) r239 x1 v241).bind fun t242 =>
    vl (x1 + (1 : Int32)) fun v243 =>
    f_X6_init_1102 n h0 v243 t242
def f_X6_init (h0 : Nat) (σ : mS) : Option mS :=
vl (nI_ (σ) 6) fun t244 =>
vl (σ).1 fun r245 =>
(pR t244 h0 5 1 r245).bind fun t246 =>
vl (nI_ t246 6) fun t247 =>
vl t246.1 fun r248 =>
(pR t247 h0 5 2 r248).bind fun t249 =>
vl (nI_ t249 18) fun t250 =>
vl t249.1 fun r251 =>
(pR t250 h0 5 3 r251).bind fun t252 =>
vl (nI_ t252 24) fun t253 =>
vl t252.1 fun r254 =>
(sI t253 r254 (0 : Int32) (-1 : Int32)).bind fun t255 =>
(sI t255 r254 (1 : Int32) (0 : Int32)).bind fun t256 =>
(sI t256 r254 (2 : Int32) (0 : Int32)).bind fun t257 =>
(sI t257 r254 (3 : Int32) (-1 : Int32)).bind fun t258 =>
(sI t258 r254 (4 : Int32) (0 : Int32)).bind fun t259 =>
(sI t259 r254 (5 : Int32) (0 : Int32)).bind fun t260 =>
(sI t260 r254 (6 : Int32) (-1 : Int32)).bind fun t261 =>
(sI t261 r254 (7 : Int32) (0 : Int32)).bind fun t262 =>
(sI t262 r254 (8 : Int32) (0 : Int32)).bind fun t263 =>
(sI t263 r254 (9 : Int32) (-1 : Int32)).bind fun t264 =>
(sI t264 r254 (10 : Int32) (0 : Int32)).bind fun t265 =>
(sI t265 r254 (11 : Int32) (0 : Int32)).bind fun t266 =>
(sI t266 r254 (12 : Int32) (-1 : Int32)).bind fun t267 =>
(sI t267 r254 (13 : Int32) (0 : Int32)).bind fun t268 =>
(sI t268 r254 (14 : Int32) (0 : Int32)).bind fun t269 =>
(sI t269 r254 (15 : Int32) (-1 : Int32)).bind fun t270 =>
(sI t270 r254 (16 : Int32) (0 : Int32)).bind fun t271 =>
(sI t271 r254 (17 : Int32) (0 : Int32)).bind fun t272 =>
(sI t272 r254 (18 : Int32) (-1 : Int32)).bind fun t273 =>
(sI t273 r254 (19 : Int32) (0 : Int32)).bind fun t274 =>
(sI t274 r254 (20 : Int32) (0 : Int32)).bind fun t275 =>
(sI t275 r254 (21 : Int32) (-1 : Int32)).bind fun t276 =>
(sI t276 r254 (22 : Int32) (0 : Int32)).bind fun t277 =>
(sI t277 r254 (23 : Int32) (0 : Int32)).bind fun t278 =>
(pR t278 h0 5 4 r254).bind fun t279 =>
vl (nI_ t279 10) fun t280 =>
vl t279.1 fun r281 =>
(pR t280 h0 5 5 r281).bind fun t282 =>
vl (nI_ t282 6) fun t283 =>
vl t282.1 fun r284 =>
(sI t283 r284 (0 : Int32) (50 : Int32)).bind fun t285 =>
(sI t285 r284 (1 : Int32) (50 : Int32)).bind fun t286 =>
(sI t286 r284 (2 : Int32) (50 : Int32)).bind fun t287 =>
(sI t287 r284 (3 : Int32) (50 : Int32)).bind fun t288 =>
(sI t288 r284 (4 : Int32) (50 : Int32)).bind fun t289 =>
(sI t289 r284 (5 : Int32) (50 : Int32)).bind fun t290 =>
(pR t290 h0 5 6 r284).bind fun t291 =>
vl (nI_ t291 160) fun t292 =>
vl t291.1 fun r293 =>
(pR t292 h0 5 9 r293).bind fun t294 =>
vl (nI_ t294 1200) fun t295 =>
vl t294.1 fun r296 =>
(pR t295 h0 5 11 r296).bind fun t297 =>
vl (nI_ t297 24) fun t298 =>
vl t297.1 fun r299 =>
(pR t298 h0 5 12 r299).bind fun t300 =>
vl (nI_ t300 58) fun t301 =>
vl t300.1 fun r302 =>
(pR t301 h0 5 16 r302).bind fun t303 =>
vl (nI_ t303 4) fun t304 =>
vl t303.1 fun r305 =>
(pR t304 h0 5 17 r305).bind fun t306 =>
vl (nI_ t306 4) fun t307 =>
vl t306.1 fun r308 =>
(sI t307 r308 (0 : Int32) (-1 : Int32)).bind fun t309 =>
(sI t309 r308 (1 : Int32) (-1 : Int32)).bind fun t310 =>
(sI t310 r308 (2 : Int32) (-1 : Int32)).bind fun t311 =>
(sI t311 r308 (3 : Int32) (-1 : Int32)).bind fun t312 =>
(pR t312 h0 5 18 r308).bind fun t313 =>
vl (nI_ t313 4) fun t314 =>
vl t313.1 fun r315 =>
(pR t314 h0 5 19 r315).bind fun t316 =>
vl (nI_ t316 160) fun t317 =>
vl t316.1 fun r318 =>
(pR t317 h0 5 20 r318).bind fun t319 =>
vl (nI_ t319 35) fun t320 =>
vl t319.1 fun r321 =>
(sI t320 r321 (0 : Int32) (108 : Int32)).bind fun t322 =>
(sI t322 r321 (1 : Int32) (111 : Int32)).bind fun t323 =>
(sI t323 r321 (2 : Int32) (111 : Int32)).bind fun t324 =>
(sI t324 r321 (3 : Int32) (107 : Int32)).bind fun t325 =>
(sI t325 r321 (4 : Int32) (115 : Int32)).bind fun t326 =>
(sI t326 r321 (5 : Int32) (32 : Int32)).bind fun t327 =>
(sI t327 r321 (6 : Int32) (102 : Int32)).bind fun t328 =>
(sI t328 r321 (7 : Int32) (97 : Int32)).bind fun t329 =>
(sI t329 r321 (8 : Int32) (99 : Int32)).bind fun t330 =>
(sI t330 r321 (9 : Int32) (101 : Int32)).bind fun t331 =>
(sI t331 r321 (10 : Int32) (32 : Int32)).bind fun t332 =>
(sI t332 r321 (11 : Int32) (59 : Int32)).bind fun t333 =>
(sI t333 r321 (12 : Int32) (32 : Int32)).bind fun t334 =>
(sI t334 r321 (13 : Int32) (119 : Int32)).bind fun t335 =>
(sI t335 r321 (14 : Int32) (97 : Int32)).bind fun t336 =>
(sI t336 r321 (15 : Int32) (105 : Int32)).bind fun t337 =>
(sI t337 r321 (16 : Int32) (116 : Int32)).bind fun t338 =>
(sI t338 r321 (17 : Int32) (115 : Int32)).bind fun t339 =>
(sI t339 r321 (18 : Int32) (32 : Int32)).bind fun t340 =>
(sI t340 r321 (19 : Int32) (54 : Int32)).bind fun t341 =>
(sI t341 r321 (20 : Int32) (32 : Int32)).bind fun t342 =>
(sI t342 r321 (21 : Int32) (59 : Int32)).bind fun t343 =>
(sI t343 r321 (22 : Int32) (32 : Int32)).bind fun t344 =>
(sI t344 r321 (23 : Int32) (100 : Int32)).bind fun t345 =>
(sI t345 r321 (24 : Int32) (114 : Int32)).bind fun t346 =>
(sI t346 r321 (25 : Int32) (111 : Int32)).bind fun t347 =>
(sI t347 r321 (26 : Int32) (112 : Int32)).bind fun t348 =>
(sI t348 r321 (27 : Int32) (115 : Int32)).bind fun t349 =>
(sI t349 r321 (28 : Int32) (32 : Int32)).bind fun t350 =>
(sI t350 r321 (29 : Int32) (104 : Int32)).bind fun t351 =>
(sI t351 r321 (30 : Int32) (111 : Int32)).bind fun t352 =>
(sI t352 r321 (31 : Int32) (117 : Int32)).bind fun t353 =>
(sI t353 r321 (32 : Int32) (114 : Int32)).bind fun t354 =>
(sI t354 r321 (33 : Int32) (32 : Int32)).bind fun t355 =>
(sI t355 r321 (34 : Int32) (59 : Int32)).bind fun t356 =>
(pR t356 h0 5 21 r321).bind fun t357 =>
vl (nI_ t357 96) fun t358 =>
vl t357.1 fun r359 =>
(sI t358 r359 (0 : Int32) (108 : Int32)).bind fun t360 =>
(sI t360 r359 (1 : Int32) (111 : Int32)).bind fun t361 =>
(sI t361 r359 (2 : Int32) (111 : Int32)).bind fun t362 =>
(sI t362 r359 (3 : Int32) (107 : Int32)).bind fun t363 =>
(sI t363 r359 (4 : Int32) (115 : Int32)).bind fun t364 =>
(sI t364 r359 (5 : Int32) (32 : Int32)).bind fun t365 =>
(sI t365 r359 (6 : Int32) (32 : Int32)).bind fun t366 =>
(sI t366 r359 (7 : Int32) (32 : Int32)).bind fun t367 =>
(sI t367 r359 (8 : Int32) (119 : Int32)).bind fun t368 =>
(sI t368 r359 (9 : Int32) (97 : Int32)).bind fun t369 =>
(sI t369 r359 (10 : Int32) (105 : Int32)).bind fun t370 =>
(sI t370 r359 (11 : Int32) (116 : Int32)).bind fun t371 =>
(sI t371 r359 (12 : Int32) (115 : Int32)).bind fun t372 =>
(sI t372 r359 (13 : Int32) (32 : Int32)).bind fun t373 =>
(sI t373 r359 (14 : Int32) (32 : Int32)).bind fun t374 =>
(sI t374 r359 (15 : Int32) (32 : Int32)).bind fun t375 =>
(sI t375 r359 (16 : Int32) (100 : Int32)).bind fun t376 =>
(sI t376 r359 (17 : Int32) (114 : Int32)).bind fun t377 =>
(sI t377 r359 (18 : Int32) (111 : Int32)).bind fun t378 =>
(sI t378 r359 (19 : Int32) (112 : Int32)).bind fun t379 =>
(sI t379 r359 (20 : Int32) (115 : Int32)).bind fun t380 =>
(sI t380 r359 (21 : Int32) (32 : Int32)).bind fun t381 =>
(sI t381 r359 (22 : Int32) (32 : Int32)).bind fun t382 =>
(sI t382 r359 (23 : Int32) (32 : Int32)).bind fun t383 =>
(sI t383 r359 (24 : Int32) (102 : Int32)).bind fun t384 =>
(sI t384 r359 (25 : Int32) (97 : Int32)).bind fun t385 =>
(sI t385 r359 (26 : Int32) (99 : Int32)).bind fun t386 =>
(sI t386 r359 (27 : Int32) (101 : Int32)).bind fun t387 =>
(sI t387 r359 (28 : Int32) (32 : Int32)).bind fun t388 =>
(sI t388 r359 (29 : Int32) (32 : Int32)).bind fun t389 =>
(sI t389 r359 (30 : Int32) (32 : Int32)).bind fun t390 =>
(sI t390 r359 (31 : Int32) (32 : Int32)).bind fun t391 =>
(sI t391 r359 (32 : Int32) (107 : Int32)).bind fun t392 =>
(sI t392 r359 (33 : Int32) (110 : Int32)).bind fun t393 =>
(sI t393 r359 (34 : Int32) (111 : Int32)).bind fun t394 =>
(sI t394 r359 (35 : Int32) (119 : Int32)).bind fun t395 =>
(sI t395 r359 (36 : Int32) (110 : Int32)).bind fun t396 =>
(sI t396 r359 (37 : Int32) (32 : Int32)).bind fun t397 =>
(sI t397 r359 (38 : Int32) (32 : Int32)).bind fun t398 =>
(sI t398 r359 (39 : Int32) (32 : Int32)).bind fun t399 =>
(sI t399 r359 (40 : Int32) (104 : Int32)).bind fun t400 =>
(sI t400 r359 (41 : Int32) (111 : Int32)).bind fun t401 =>
(sI t401 r359 (42 : Int32) (117 : Int32)).bind fun t402 =>
(sI t402 r359 (43 : Int32) (114 : Int32)).bind fun t403 =>
(sI t403 r359 (44 : Int32) (32 : Int32)).bind fun t404 =>
(sI t404 r359 (45 : Int32) (32 : Int32)).bind fun t405 =>
(sI t405 r359 (46 : Int32) (32 : Int32)).bind fun t406 =>
(sI t406 r359 (47 : Int32) (32 : Int32)).bind fun t407 =>
(sI t407 r359 (48 : Int32) (108 : Int32)).bind fun t408 =>
(sI t408 r359 (49 : Int32) (121 : Int32)).bind fun t409 =>
(sI t409 r359 (50 : Int32) (105 : Int32)).bind fun t410 =>
(sI t410 r359 (51 : Int32) (110 : Int32)).bind fun t411 =>
(sI t411 r359 (52 : Int32) (103 : Int32)).bind fun t412 =>
(sI t412 r359 (53 : Int32) (32 : Int32)).bind fun t413 =>
(sI t413 r359 (54 : Int32) (32 : Int32)).bind fun t414 =>
(sI t414 r359 (55 : Int32) (32 : Int32)).bind fun t415 =>
(sI t415 r359 (56 : Int32) (97 : Int32)).bind fun t416 =>
(sI t416 r359 (57 : Int32) (100 : Int32)).bind fun t417 =>
(sI t417 r359 (58 : Int32) (109 : Int32)).bind fun t418 =>
(sI t418 r359 (59 : Int32) (105 : Int32)).bind fun t419 =>
(sI t419 r359 (60 : Int32) (116 : Int32)).bind fun t420 =>
(sI t420 r359 (61 : Int32) (116 : Int32)).bind fun t421 =>
(sI t421 r359 (62 : Int32) (101 : Int32)).bind fun t422 =>
(sI t422 r359 (63 : Int32) (100 : Int32)).bind fun t423 =>
(sI t423 r359 (64 : Int32) (109 : Int32)).bind fun t424 =>
(sI t424 r359 (65 : Int32) (111 : Int32)).bind fun t425 =>
(sI t425 r359 (66 : Int32) (114 : Int32)).bind fun t426 =>
(sI t426 r359 (67 : Int32) (101 : Int32)).bind fun t427 =>
(sI t427 r359 (68 : Int32) (32 : Int32)).bind fun t428 =>
(sI t428 r359 (69 : Int32) (32 : Int32)).bind fun t429 =>
(sI t429 r359 (70 : Int32) (32 : Int32)).bind fun t430 =>
(sI t430 r359 (71 : Int32) (32 : Int32)).bind fun t431 =>
(sI t431 r359 (72 : Int32) (111 : Int32)).bind fun t432 =>
(sI t432 r359 (73 : Int32) (114 : Int32)).bind fun t433 =>
(sI t433 r359 (74 : Int32) (32 : Int32)).bind fun t434 =>
(sI t434 r359 (75 : Int32) (32 : Int32)).bind fun t435 =>
(sI t435 r359 (76 : Int32) (32 : Int32)).bind fun t436 =>
(sI t436 r359 (77 : Int32) (32 : Int32)).bind fun t437 =>
(sI t437 r359 (78 : Int32) (32 : Int32)).bind fun t438 =>
(sI t438 r359 (79 : Int32) (32 : Int32)).bind fun t439 =>
(sI t439 r359 (80 : Int32) (97 : Int32)).bind fun t440 =>
(sI t440 r359 (81 : Int32) (110 : Int32)).bind fun t441 =>
(sI t441 r359 (82 : Int32) (100 : Int32)).bind fun t442 =>
(sI t442 r359 (83 : Int32) (32 : Int32)).bind fun t443 =>
(sI t443 r359 (84 : Int32) (32 : Int32)).bind fun t444 =>
(sI t444 r359 (85 : Int32) (32 : Int32)).bind fun t445 =>
(sI t445 r359 (86 : Int32) (32 : Int32)).bind fun t446 =>
(sI t446 r359 (87 : Int32) (32 : Int32)).bind fun t447 =>
(sI t447 r359 (88 : Int32) (110 : Int32)).bind fun t448 =>
(sI t448 r359 (89 : Int32) (111 : Int32)).bind fun t449 =>
(sI t449 r359 (90 : Int32) (116 : Int32)).bind fun t450 =>
(sI t450 r359 (91 : Int32) (32 : Int32)).bind fun t451 =>
(sI t451 r359 (92 : Int32) (32 : Int32)).bind fun t452 =>
(sI t452 r359 (93 : Int32) (32 : Int32)).bind fun t453 =>
(sI t453 r359 (94 : Int32) (32 : Int32)).bind fun t454 =>
(sI t454 r359 (95 : Int32) (32 : Int32)).bind fun t455 =>
(pR t455 h0 5 26 r359).bind fun t456 =>
vl (nI_ t456 200) fun t457 =>
vl t456.1 fun r458 =>
(pR t457 h0 5 27 r458).bind fun t459 =>
vl (nI_ t459 200) fun t460 =>
vl t459.1 fun r461 =>
(pR t460 h0 5 31 r461).bind fun t462 =>
vl (nI_ t462 6) fun t463 =>
vl t462.1 fun r464 =>
(pR t463 h0 5 32 r464).bind fun t465 =>
vl (nI_ t465 44) fun t466 =>
vl t465.1 fun r467 =>
(pR t466 h0 5 33 r467).bind fun t468 =>
f_X6_init_1102 fU h0 (0 : Int32) t468
