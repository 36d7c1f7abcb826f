def j_L_hangs_860 (x1 : Int32) (x2 : Int32) (x3 : Int32) (x4 : Int32) (x5 : Int32) (x6 : Int32) (x8 : Int32) (x9 : Int32) (x10 : Int32) (x11 : Int32) (x12 : Int32) (x13 : Int32) (x14 : Int32) (x15 : Int32) (x16 : Int32) (x17 : Int32) (t : Td) : Option (Int32 × Td) :=
    ob2 (q_ifRounds 7 0 t) fun r10 t12 =>
    if x6 = 0 then (some (0, t12))
    else (ob1 (q_count 9 t12) fun r14 =>
    if (x1 + r14) = 800 then (ob1 (q_count 9 t12) fun r17 =>
    if x2 = r17 then (if x3 = x8 then (if x4 = x17 then (ob1 (q_count 10 t12) fun r22 =>
    if x5 = r22 then (ob1 (q_count 2 t12) fun r25 =>
    if x9 = r25 then (if x10 = x13 then (ob1 (q_count 5 t12) fun r29 =>
    if x13 = r29 then (ob1 (q_count 6 t12) fun r32 =>
    if x14 = r32 then (ob1 (q_count 11 t12) fun r35 =>
    if x15 = r35 then (ob1 (q_count 7 t12) fun r38 =>
    if x16 = r38 then (ob1 (q_count 8 t12) fun r41 =>
    if r41 < (2 * (x16 + x13)) then (some (0, t12))
    else (ob1 (q_count 8 t12) fun r44 =>
    if (r44 - r44 / 2 * 2) = 0 then (ob1 (q_count 4 t12) fun r47 =>
    if x11 = r47 then (if x12 = x17 then (ob1 (q_count 4 t12) fun r51 =>
    if ((r51 + x13) + x14) = x17 then (ob1 (q_count 4 t12) fun r54 =>
    ob1 (q_waits r54 t12) fun r56 =>
    if r56 = (-5) then (ob1 (q_count 12 t12) fun r59 =>
    if r59 < 0 then (some (0, t12))
    else (ob1 (q_count 12 t12) fun r62 =>
    if 19 ≤ r62 then (some (0, t12))
    else (ob1 (q_count 13 t12) fun r65 =>
    if r65 < 0 then (some (0, t12))
    else (ob1 (q_count 13 t12) fun r68 =>
    if 19 ≤ r68 then (some (0, t12))
    else (if r10 < 0 then (some (0, t12))
    else (ob1 (q_count 4 t12) fun r72 =>
    if r72 < r10 then (some (0, t12))
    else (if x9 < r10 then (some (0, t12))
    else (ob1 (q_count 18 t12) fun r76 =>
    if r76 < 0 then (some (0, t12))
    else (ob1 (q_count 18 t12) fun r79 =>
    if 5 ≤ r79 then (some (0, t12))
    else (some (1, t12)))))))))))
    else (some (0, t12)))
    else (some (0, t12)))
    else (some (0, t12)))
    else (some (0, t12)))
    else (some (0, t12))))
    else (some (0, t12)))
    else (some (0, t12)))
    else (some (0, t12)))
    else (some (0, t12)))
    else (some (0, t12)))
    else (some (0, t12)))
    else (some (0, t12)))
    else (some (0, t12)))
    else (some (0, t12)))
    else (some (0, t12)))
    else (some (0, t12)))
def j_L_hangs_828 (LP523 : Int32 → Int32 → Int32 → Int32 → Int32 → Int32 → Int32 → Int32 → Int32 → Int32 → Int32 → Int32 → Int32 → Int32 → Int32 → Int32 → Int32 → Td → Option (Int32 × Td)) (x1 : Int32) (x2 : Int32) (x3 : Int32) (x4 : Int32) (x5 : Int32) (x6 : Int32) (x8 : Int32) (x9 : Int32) (x10 : Int32) (x11 : Int32) (x12 : Int32) (x13 : Int32) (x14 : Int32) (x15 : Int32) (x16 : Int32) (x17 : Int32) (x18 : Int32) (t : Td) : Option (Int32 × Td) :=
    ob1 (q_answer x18 7 t) fun r93 =>
    ob1 (q_answer x18 6 t) fun r95 =>
    LP523 x1 x2 x3 x4 x5 x6 x8 x9 x10 x11 x12 x13 x14 (x15 + r93) (x16 + r95) x17 (x18 + 1) t
def j_L_hangs_812 (LP523 : Int32 → Int32 → Int32 → Int32 → Int32 → Int32 → Int32 → Int32 → Int32 → Int32 → Int32 → Int32 → Int32 → Int32 → Int32 → Int32 → Int32 → Td → Option (Int32 × Td)) (x1 : Int32) (x2 : Int32) (x3 : Int32) (x4 : Int32) (x5 : Int32) (x6 : Int32) (x8 : Int32) (x9 : Int32) (x10 : Int32) (x11 : Int32) (x12 : Int32) (x13 : Int32) (x14 : Int32) (x15 : Int32) (x16 : Int32) (x17 : Int32) (x18 : Int32) (x19 : Int32) (t : Td) : Option (Int32 × Td) :=
    if x19 = 2 then (j_L_hangs_828 LP523  x1 x2 x3 x4 x5 x6 x8 x9 x10 x11 x12 x13 (x14 + 1) x15 x16 x17 x18 t)
    else (j_L_hangs_828 LP523  x1 x2 x3 x4 x5 x6 x8 x9 x10 x11 x12 x13 (x14 + 0) x15 x16 x17 x18 t)
def j_L_hangs_796 (LP523 : Int32 → Int32 → Int32 → Int32 → Int32 → Int32 → Int32 → Int32 → Int32 → Int32 → Int32 → Int32 → Int32 → Int32 → Int32 → Int32 → Int32 → Td → Option (Int32 × Td)) (x1 : Int32) (x2 : Int32) (x3 : Int32) (x4 : Int32) (x5 : Int32) (x6 : Int32) (x8 : Int32) (x9 : Int32) (x10 : Int32) (x11 : Int32) (x12 : Int32) (x13 : Int32) (x14 : Int32) (x15 : Int32) (x16 : Int32) (x17 : Int32) (x18 : Int32) (x19 : Int32) (t : Td) : Option (Int32 × Td) :=
    if x19 = 1 then (j_L_hangs_812 LP523  x1 x2 x3 x4 x5 x6 x8 x9 x10 x11 x12 (x13 + 1) x14 x15 x16 x17 x18 x19 t)
    else (j_L_hangs_812 LP523  x1 x2 x3 x4 x5 x6 x8 x9 x10 x11 x12 (x13 + 0) x14 x15 x16 x17 x18 x19 t)
def j_L_hangs_793 (LP523 : Int32 → Int32 → Int32 → Int32 → Int32 → Int32 → Int32 → Int32 → Int32 → Int32 → Int32 → Int32 → Int32 → Int32 → Int32 → Int32 → Int32 → Td → Option (Int32 × Td)) (x1 : Int32) (x2 : Int32) (x3 : Int32) (x4 : Int32) (x5 : Int32) (x8 : Int32) (x9 : Int32) (x10 : Int32) (x11 : Int32) (x12 : Int32) (x13 : Int32) (x14 : Int32) (x15 : Int32) (x16 : Int32) (x17 : Int32) (x18 : Int32) (x19 : Int32) (t : Td) : Option (Int32 × Td) :=
    j_L_hangs_796 LP523  x1 x2 x3 x4 x5 0 x8 x9 x10 x11 x12 x13 x14 x15 x16 x17 x18 x19 t
def j_L_hangs_767 (LP523 : Int32 → Int32 → Int32 → Int32 → Int32 → Int32 → Int32 → Int32 → Int32 → Int32 → Int32 → Int32 → Int32 → Int32 → Int32 → Int32 → Int32 → Td → Option (Int32 × Td)) (x1 : Int32) (x2 : Int32) (x3 : Int32) (x4 : Int32) (x5 : Int32) (x8 : Int32) (x9 : Int32) (x10 : Int32) (x11 : Int32) (x12 : Int32) (x13 : Int32) (x14 : Int32) (x15 : Int32) (x16 : Int32) (x17 : Int32) (x18 : Int32) (x19 : Int32) (t : Td) : Option (Int32 × Td) :=
    ob1 (q_answer x18 0 t) fun r121 =>
    ob1 (q_answer x18 1 t) fun r123 =>
    ob1 (q_riddle r123 0 t) fun r125 =>
    if r121 = r125 then (j_L_hangs_793 LP523  x1 x2 x3 x4 x5 x8 x9 x10 x11 x12 x13 x14 x15 x16 x17 x18 x19 t)
    else (j_L_hangs_796 LP523  x1 x2 x3 x4 x5 1 x8 x9 x10 x11 x12 x13 x14 x15 x16 x17 x18 x19 t)
def j_L_hangs_737 (LP523 : Int32 → Int32 → Int32 → Int32 → Int32 → Int32 → Int32 → Int32 → Int32 → Int32 → Int32 → Int32 → Int32 → Int32 → Int32 → Int32 → Int32 → Td → Option (Int32 × Td)) (x1 : Int32) (x2 : Int32) (x3 : Int32) (x4 : Int32) (x5 : Int32) (x8 : Int32) (x9 : Int32) (x10 : Int32) (x11 : Int32) (x12 : Int32) (x13 : Int32) (x14 : Int32) (x15 : Int32) (x16 : Int32) (x17 : Int32) (x18 : Int32) (x19 : Int32) (t : Td) : Option (Int32 × Td) :=
    if x19 = 1 then (ob1 (q_answer x18 7 t) fun r128 =>
    if r128 ≤ 0 then (j_L_hangs_793 LP523  x1 x2 x3 x4 x5 x8 x9 x10 x11 x12 x13 x14 x15 x16 x17 x18 x19 t)
    else (j_L_hangs_767 LP523  x1 x2 x3 x4 x5 x8 x9 x10 x11 x12 x13 x14 x15 x16 x17 x18 x19 t))
    else (ob1 (q_answer x18 7 t) fun r118 =>
    if r118 ≤ 0 then (j_L_hangs_767 LP523  x1 x2 x3 x4 x5 x8 x9 x10 x11 x12 x13 x14 x15 x16 x17 x18 x19 t)
    else (j_L_hangs_793 LP523  x1 x2 x3 x4 x5 x8 x9 x10 x11 x12 x13 x14 x15 x16 x17 x18 x19 t))
def j_L_hangs_677 (LP523 : Int32 → Int32 → Int32 → Int32 → Int32 → Int32 → Int32 → Int32 → Int32 → Int32 → Int32 → Int32 → Int32 → Int32 → Int32 → Int32 → Int32 → Td → Option (Int32 × Td)) (x1 : Int32) (x2 : Int32) (x3 : Int32) (x4 : Int32) (x5 : Int32) (x8 : Int32) (x9 : Int32) (x10 : Int32) (x11 : Int32) (x12 : Int32) (x13 : Int32) (x14 : Int32) (x15 : Int32) (x16 : Int32) (x17 : Int32) (x18 : Int32) (x19 : Int32) (x21 : Int32) (t : Td) : Option (Int32 × Td) :=
    if 4 ≤ x21 then (j_L_hangs_793 LP523  x1 x2 x3 x4 x5 x8 x9 x10 x11 x12 x13 x14 x15 x16 x17 x18 x19 t)
    else (ob1 (q_answer x18 6 t) fun r107 =>
    if r107 < 0 then (j_L_hangs_793 LP523  x1 x2 x3 x4 x5 x8 x9 x10 x11 x12 x13 x14 x15 x16 x17 x18 x19 t)
    else (ob1 (q_answer x18 6 t) fun r110 =>
    if 4 ≤ r110 then (j_L_hangs_793 LP523  x1 x2 x3 x4 x5 x8 x9 x10 x11 x12 x13 x14 x15 x16 x17 x18 x19 t)
    else (ob1 (q_answer x18 6 t) fun r113 =>
    if r113 = 3 then (if x21 = 3 then (j_L_hangs_737 LP523  x1 x2 x3 x4 x5 x8 x9 x10 x11 x12 x13 x14 x15 x16 x17 x18 x19 t)
    else (j_L_hangs_793 LP523  x1 x2 x3 x4 x5 x8 x9 x10 x11 x12 x13 x14 x15 x16 x17 x18 x19 t))
    else (if x21 = 3 then (j_L_hangs_793 LP523  x1 x2 x3 x4 x5 x8 x9 x10 x11 x12 x13 x14 x15 x16 x17 x18 x19 t)
    else (j_L_hangs_737 LP523  x1 x2 x3 x4 x5 x8 x9 x10 x11 x12 x13 x14 x15 x16 x17 x18 x19 t)))))
def j_L_hangs_653 (LP523 : Int32 → Int32 → Int32 → Int32 → Int32 → Int32 → Int32 → Int32 → Int32 → Int32 → Int32 → Int32 → Int32 → Int32 → Int32 → Int32 → Int32 → Td → Option (Int32 × Td)) (x1 : Int32) (x2 : Int32) (x3 : Int32) (x4 : Int32) (x5 : Int32) (x8 : Int32) (x9 : Int32) (x10 : Int32) (x11 : Int32) (x12 : Int32) (x13 : Int32) (x14 : Int32) (x15 : Int32) (x16 : Int32) (x17 : Int32) (x18 : Int32) (x19 : Int32) (x21 : Int32) (t : Td) : Option (Int32 × Td) :=
    if x19 = 2 then (if x21 ≤ 0 then (j_L_hangs_793 LP523  x1 x2 x3 x4 x5 x8 x9 x10 x11 x12 x13 x14 x15 x16 x17 x18 x19 t)
    else (j_L_hangs_677 LP523  x1 x2 x3 x4 x5 x8 x9 x10 x11 x12 x13 x14 x15 x16 x17 x18 x19 x21 t))
    else (if x21 ≤ 0 then (j_L_hangs_677 LP523  x1 x2 x3 x4 x5 x8 x9 x10 x11 x12 x13 x14 x15 x16 x17 x18 x19 x21 t)
    else (j_L_hangs_793 LP523  x1 x2 x3 x4 x5 x8 x9 x10 x11 x12 x13 x14 x15 x16 x17 x18 x19 t))
def j_L_hangs_604 (LP523 : Int32 → Int32 → Int32 → Int32 → Int32 → Int32 → Int32 → Int32 → Int32 → Int32 → Int32 → Int32 → Int32 → Int32 → Int32 → Int32 → Int32 → Td → Option (Int32 × Td)) (x1 : Int32) (x2 : Int32) (x3 : Int32) (x4 : Int32) (x5 : Int32) (x8 : Int32) (x9 : Int32) (x10 : Int32) (x11 : Int32) (x12 : Int32) (x13 : Int32) (x14 : Int32) (x15 : Int32) (x16 : Int32) (x17 : Int32) (x18 : Int32) (x19 : Int32) (x20 : Int32) (x21 : Int32) (t : Td) : Option (Int32 × Td) :=
    if x19 = 0 then (ob1 (q_waits x20 t) fun r133 =>
    if r133 = x18 then (ob1 (q_reason x18 t) fun r136 =>
    if r136 < 0 then (j_L_hangs_793 LP523  x1 x2 x3 x4 x5 x8 x9 x10 x11 x12 x13 x14 x15 x16 x17 x18 x19 t)
    else (ob1 (q_reason x18 t) fun r139 =>
    if 5 ≤ r139 then (j_L_hangs_793 LP523  x1 x2 x3 x4 x5 x8 x9 x10 x11 x12 x13 x14 x15 x16 x17 x18 x19 t)
    else (j_L_hangs_653 LP523  x1 x2 x3 x4 x5 x8 x9 x10 x11 x12 x13 x14 x15 x16 x17 x18 x19 x21 t)))
    else (j_L_hangs_793 LP523  x1 x2 x3 x4 x5 x8 x9 x10 x11 x12 x13 x14 x15 x16 x17 x18 x19 t))
    else (ob1 (q_reason x18 t) fun r101 =>
    if r101 = (-4) then (j_L_hangs_653 LP523  x1 x2 x3 x4 x5 x8 x9 x10 x11 x12 x13 x14 x15 x16 x17 x18 x19 x21 t)
    else (j_L_hangs_793 LP523  x1 x2 x3 x4 x5 x8 x9 x10 x11 x12 x13 x14 x15 x16 x17 x18 x19 t))
def lp_L_hangs_523 : Nat → Int32 → Int32 → Int32 → Int32 → Int32 → Int32 → Int32 → Int32 → Int32 → Int32 → Int32 → Int32 → Int32 → Int32 → Int32 → Int32 → Int32 → Td → Option (Int32 × Td)
  | 0 => fun _ _ _ _ _ _ _ _ _ _ _ _ _ _ _ _ _ _ => none
  | k + 1 => fun x1 x2 x3 x4 x5 x6 x8 x9 x10 x11 x12 x13 x14 x15 x16 x17 x18 t =>
    if x17 ≤ x18 then (j_L_hangs_860   x1 x2 x3 x4 x5 x6 x8 x9 x10 x11 x12 x13 x14 x15 x16 x17 t)
    else (if 40 ≤ x18 then (j_L_hangs_860   x1 x2 x3 x4 x5 x6 x8 x9 x10 x11 x12 x13 x14 x15 x16 x17 t)
    else (if x6 = 0 then (j_L_hangs_860   x1 x2 x3 x4 x5 x6 x8 x9 x10 x11 x12 x13 x14 x15 x16 x17 t)
    else (ob1 (q_answer x18 4 t) fun r84 =>
    ob1 (q_answer x18 8 t) fun r86 =>
    ob1 (q_answer x18 5 t) fun r88 =>
    if r84 < 0 then (j_L_hangs_793 (lp_L_hangs_523   k)  x1 x2 x3 x4 x5 x8 x9 x10 x11 x12 x13 x14 x15 x16 x17 x18 r84 t)
    else (if 3 ≤ r84 then (j_L_hangs_793 (lp_L_hangs_523   k)  x1 x2 x3 x4 x5 x8 x9 x10 x11 x12 x13 x14 x15 x16 x17 x18 r84 t)
    else (if r84 = 0 then (if r86 < 0 then (j_L_hangs_793 (lp_L_hangs_523   k)  x1 x2 x3 x4 x5 x8 x9 x10 x11 x12 x13 x14 x15 x16 x17 x18 r84 t)
    else (j_L_hangs_604 (lp_L_hangs_523   k)  x1 x2 x3 x4 x5 x8 x9 x10 x11 x12 x13 x14 x15 x16 x17 x18 r84 r86 r88 t))
    else (if r86 < 0 then (j_L_hangs_604 (lp_L_hangs_523   k)  x1 x2 x3 x4 x5 x8 x9 x10 x11 x12 x13 x14 x15 x16 x17 x18 r84 r86 r88 t)
    else (j_L_hangs_793 (lp_L_hangs_523   k)  x1 x2 x3 x4 x5 x8 x9 x10 x11 x12 x13 x14 x15 x16 x17 x18 r84 t)))))))
def j_L_hangs_501 (x1 : Int32) (x2 : Int32) (x3 : Int32) (x4 : Int32) (x5 : Int32) (x6 : Int32) (x8 : Int32) (x9 : Int32) (x10 : Int32) (x11 : Int32) (x12 : Int32) (t : Td) : Option (Int32 × Td) :=
    ob1 (q_count 3 t) fun r7 =>
    lp_L_hangs_523   fuel x1 x2 x3 x4 x5 x6 x8 x9 x10 x11 x12 0 0 0 0 r7 0 t
def j_L_hangs_471 (LP291 : Int32 → Int32 → Int32 → Int32 → Int32 → Int32 → Int32 → Int32 → Int32 → Int32 → Int32 → Int32 → Td → Option (Int32 × Td)) (x1 : Int32) (x2 : Int32) (x3 : Int32) (x4 : Int32) (x5 : Int32) (x6 : Int32) (x8 : Int32) (x9 : Int32) (x10 : Int32) (x11 : Int32) (x12 : Int32) (x13 : Int32) (t : Td) : Option (Int32 × Td) :=
    ob1 (q_riddle x13 5 t) fun r152 =>
    ob1 (q_riddle x13 4 t) fun r154 =>
    LP291 x1 x2 x3 x4 x5 x6 x8 x9 x10 (x11 + r152) (x12 + r154) (x13 + 1) t
def j_L_hangs_455 (LP291 : Int32 → Int32 → Int32 → Int32 → Int32 → Int32 → Int32 → Int32 → Int32 → Int32 → Int32 → Int32 → Td → Option (Int32 × Td)) (x1 : Int32) (x2 : Int32) (x3 : Int32) (x4 : Int32) (x5 : Int32) (x6 : Int32) (x8 : Int32) (x9 : Int32) (x10 : Int32) (x11 : Int32) (x12 : Int32) (x13 : Int32) (x14 : Int32) (t : Td) : Option (Int32 × Td) :=
    if x14 = 1 then (j_L_hangs_471 LP291  x1 x2 x3 x4 x5 x6 x8 x9 (x10 + 1) x11 x12 x13 t)
    else (j_L_hangs_471 LP291  x1 x2 x3 x4 x5 x6 x8 x9 (x10 + 0) x11 x12 x13 t)
def j_L_hangs_440 (LP291 : Int32 → Int32 → Int32 → Int32 → Int32 → Int32 → Int32 → Int32 → Int32 → Int32 → Int32 → Int32 → Td → Option (Int32 × Td)) (x1 : Int32) (x2 : Int32) (x3 : Int32) (x4 : Int32) (x5 : Int32) (x6 : Int32) (x8 : Int32) (x9 : Int32) (x10 : Int32) (x11 : Int32) (x12 : Int32) (x13 : Int32) (x14 : Int32) (t : Td) : Option (Int32 × Td) :=
    if x14 = 0 then (j_L_hangs_455 LP291  x1 x2 x3 x4 x5 x6 x8 (x9 + 1) x10 x11 x12 x13 x14 t)
    else (j_L_hangs_455 LP291  x1 x2 x3 x4 x5 x6 x8 (x9 + 0) x10 x11 x12 x13 x14 t)
def j_L_hangs_437 (LP291 : Int32 → Int32 → Int32 → Int32 → Int32 → Int32 → Int32 → Int32 → Int32 → Int32 → Int32 → Int32 → Td → Option (Int32 × Td)) (x1 : Int32) (x2 : Int32) (x3 : Int32) (x4 : Int32) (x5 : Int32) (x8 : Int32) (x9 : Int32) (x10 : Int32) (x11 : Int32) (x12 : Int32) (x13 : Int32) (x14 : Int32) (t : Td) : Option (Int32 × Td) :=
    j_L_hangs_440 LP291  x1 x2 x3 x4 x5 0 x8 x9 x10 x11 x12 x13 x14 t
def j_L_hangs_394 (LP291 : Int32 → Int32 → Int32 → Int32 → Int32 → Int32 → Int32 → Int32 → Int32 → Int32 → Int32 → Int32 → Td → Option (Int32 × Td)) (x1 : Int32) (x2 : Int32) (x3 : Int32) (x4 : Int32) (x5 : Int32) (x8 : Int32) (x9 : Int32) (x10 : Int32) (x11 : Int32) (x12 : Int32) (x13 : Int32) (x14 : Int32) (t : Td) : Option (Int32 × Td) :=
    ob1 (q_riddle x13 1 t) fun r160 =>
    if r160 ≤ 0 then (j_L_hangs_437 LP291  x1 x2 x3 x4 x5 x8 x9 x10 x11 x12 x13 x14 t)
    else (ob1 (q_riddle x13 1 t) fun r163 =>
    if 51 ≤ r163 then (j_L_hangs_437 LP291  x1 x2 x3 x4 x5 x8 x9 x10 x11 x12 x13 x14 t)
    else (ob1 (q_riddle x13 5 t) fun r166 =>
    ob1 (q_riddle x13 4 t) fun r168 =>
    if r168 < r166 then (j_L_hangs_437 LP291  x1 x2 x3 x4 x5 x8 x9 x10 x11 x12 x13 x14 t)
    else (j_L_hangs_440 LP291  x1 x2 x3 x4 x5 1 x8 x9 x10 x11 x12 x13 x14 t)))
def j_L_hangs_364 (LP291 : Int32 → Int32 → Int32 → Int32 → Int32 → Int32 → Int32 → Int32 → Int32 → Int32 → Int32 → Int32 → Td → Option (Int32 × Td)) (x1 : Int32) (x2 : Int32) (x3 : Int32) (x4 : Int32) (x5 : Int32) (x8 : Int32) (x9 : Int32) (x10 : Int32) (x11 : Int32) (x12 : Int32) (x13 : Int32) (x14 : Int32) (x15 : Int32) (t : Td) : Option (Int32 × Td) :=
    if x15 = (-5) then (j_L_hangs_394 LP291  x1 x2 x3 x4 x5 x8 x9 x10 x11 x12 x13 x14 t)
    else (ob1 (q_answer x15 1 t) fun r171 =>
    if r171 = x13 then (ob1 (q_answer x15 4 t) fun r174 =>
    if r174 = 1 then (j_L_hangs_394 LP291  x1 x2 x3 x4 x5 x8 x9 x10 x11 x12 x13 x14 t)
    else (j_L_hangs_437 LP291  x1 x2 x3 x4 x5 x8 x9 x10 x11 x12 x13 x14 t))
    else (j_L_hangs_437 LP291  x1 x2 x3 x4 x5 x8 x9 x10 x11 x12 x13 x14 t))
def lp_L_hangs_291 : Nat → Int32 → Int32 → Int32 → Int32 → Int32 → Int32 → Int32 → Int32 → Int32 → Int32 → Int32 → Int32 → Td → Option (Int32 × Td)
  | 0 => fun _ _ _ _ _ _ _ _ _ _ _ _ _ => none
  | k + 1 => fun x1 x2 x3 x4 x5 x6 x8 x9 x10 x11 x12 x13 t =>
    if x8 ≤ x13 then (j_L_hangs_501   x1 x2 x3 x4 x5 x6 x8 x9 x10 x11 x12 t)
    else (if 20 ≤ x13 then (j_L_hangs_501   x1 x2 x3 x4 x5 x6 x8 x9 x10 x11 x12 t)
    else (if x6 = 0 then (j_L_hangs_501   x1 x2 x3 x4 x5 x6 x8 x9 x10 x11 x12 t)
    else (ob1 (q_riddle x13 3 t) fun r145 =>
    ob1 (q_riddle x13 6 t) fun r147 =>
    if r145 < 0 then (j_L_hangs_437 (lp_L_hangs_291   k)  x1 x2 x3 x4 x5 x8 x9 x10 x11 x12 x13 r145 t)
    else (if 3 ≤ r145 then (j_L_hangs_437 (lp_L_hangs_291   k)  x1 x2 x3 x4 x5 x8 x9 x10 x11 x12 x13 r145 t)
    else (if r145 = 1 then (if r147 < 0 then (j_L_hangs_437 (lp_L_hangs_291   k)  x1 x2 x3 x4 x5 x8 x9 x10 x11 x12 x13 r145 t)
    else (j_L_hangs_364 (lp_L_hangs_291   k)  x1 x2 x3 x4 x5 x8 x9 x10 x11 x12 x13 r145 r147 t))
    else (if r147 < 0 then (j_L_hangs_364 (lp_L_hangs_291   k)  x1 x2 x3 x4 x5 x8 x9 x10 x11 x12 x13 r145 r147 t)
    else (j_L_hangs_437 (lp_L_hangs_291   k)  x1 x2 x3 x4 x5 x8 x9 x10 x11 x12 x13 r145 t)))))))
def j_L_hangs_269 (x1 : Int32) (x2 : Int32) (x3 : Int32) (x4 : Int32) (x5 : Int32) (x6 : Int32) (t : Td) : Option (Int32 × Td) :=
    ob1 (q_count 1 t) fun r4 =>
    lp_L_hangs_291   fuel x1 x2 x3 x4 x5 x6 r4 0 0 0 0 0 t
def j_L_hangs_205 (LP24 : Int32 → Int32 → Int32 → Int32 → Int32 → Int32 → Int32 → Int32 → Td → Option (Int32 × Td)) (x1 : Int32) (x2 : Int32) (x3 : Int32) (x4 : Int32) (x5 : Int32) (x6 : Int32) (x7 : Int32) (x8 : Int32) (x9 : Int32) (t : Td) : Option (Int32 × Td) :=
    ob1 (q_trader x8 7 t) fun r186 =>
    ob1 (q_trader x8 2 t) fun r188 =>
    ob1 (q_trader x8 4 t) fun r190 =>
    ob1 (q_trader x8 0 t) fun r192 =>
    if r192 ≤ 0 then (LP24 (x1 + x9) (x2 + r186) (x3 + r188) (x4 + r190) (x5 + 0) x6 x7 (x8 + 1) t)
    else (LP24 (x1 + x9) (x2 + r186) (x3 + r188) (x4 + r190) (x5 + 1) x6 x7 (x8 + 1) t)
def j_L_hangs_202 (LP24 : Int32 → Int32 → Int32 → Int32 → Int32 → Int32 → Int32 → Int32 → Td → Option (Int32 × Td)) (x1 : Int32) (x2 : Int32) (x3 : Int32) (x4 : Int32) (x5 : Int32) (x7 : Int32) (x8 : Int32) (x9 : Int32) (t : Td) : Option (Int32 × Td) :=
    j_L_hangs_205 LP24  x1 x2 x3 x4 x5 0 x7 x8 x9 t
def j_L_hangs_155 (LP24 : Int32 → Int32 → Int32 → Int32 → Int32 → Int32 → Int32 → Int32 → Td → Option (Int32 × Td)) (x1 : Int32) (x2 : Int32) (x3 : Int32) (x4 : Int32) (x5 : Int32) (x7 : Int32) (x8 : Int32) (x9 : Int32) (t : Td) : Option (Int32 × Td) :=
    ob1 (q_trader x8 3 t) fun r213 =>
    ob1 (q_trader x8 2 t) fun r215 =>
    if r215 < r213 then (j_L_hangs_202 LP24  x1 x2 x3 x4 x5 x7 x8 x9 t)
    else (ob1 (q_trader x8 5 t) fun r218 =>
    ob1 (q_trader x8 6 t) fun r220 =>
    ob1 (q_trader x8 4 t) fun r222 =>
    if r222 < (r218 + r220) then (j_L_hangs_202 LP24  x1 x2 x3 x4 x5 x7 x8 x9 t)
    else (j_L_hangs_205 LP24  x1 x2 x3 x4 x5 1 x7 x8 x9 t))
def j_L_hangs_93 (LP24 : Int32 → Int32 → Int32 → Int32 → Int32 → Int32 → Int32 → Int32 → Td → Option (Int32 × Td)) (x1 : Int32) (x2 : Int32) (x3 : Int32) (x4 : Int32) (x5 : Int32) (x7 : Int32) (x8 : Int32) (x9 : Int32) (t : Td) : Option (Int32 × Td) :=
    ob1 (q_account x8 t) fun r201 =>
    if r201 = (x9 + 100000) then (ob1 (q_trader x8 7 t) fun r204 =>
    if r204 < 0 then (j_L_hangs_202 LP24  x1 x2 x3 x4 x5 x7 x8 x9 t)
    else (ob1 (q_account x7 t) fun r207 =>
    ob1 (q_account x8 t) fun r209 =>
    if r207 < r209 then (j_L_hangs_202 LP24  x1 x2 x3 x4 x5 x7 x8 x9 t)
    else (if x7 ≤ x8 then (j_L_hangs_155 LP24  x1 x2 x3 x4 x5 x7 x8 x9 t)
    else (ob1 (q_account x7 t) fun r225 =>
    ob1 (q_account x8 t) fun r227 =>
    if r225 ≤ r227 then (j_L_hangs_202 LP24  x1 x2 x3 x4 x5 x7 x8 x9 t)
    else (j_L_hangs_155 LP24  x1 x2 x3 x4 x5 x7 x8 x9 t)))))
    else (j_L_hangs_202 LP24  x1 x2 x3 x4 x5 x7 x8 x9 t)
def lp_L_hangs_24 : Nat → Int32 → Int32 → Int32 → Int32 → Int32 → Int32 → Int32 → Int32 → Td → Option (Int32 × Td)
  | 0 => fun _ _ _ _ _ _ _ _ _ => none
  | k + 1 => fun x1 x2 x3 x4 x5 x6 x7 x8 t =>
    if 8 ≤ x8 then (j_L_hangs_269   x1 x2 x3 x4 x5 x6 t)
    else (if x6 = 0 then (j_L_hangs_269   x1 x2 x3 x4 x5 x6 t)
    else (ob1 (q_trader x8 1 t) fun r179 =>
    ob1 (q_trader x8 0 t) fun r181 =>
    ob1 (q_trader x8 0 t) fun r183 =>
    if r183 < 0 then (j_L_hangs_202 (lp_L_hangs_24   k)  x1 x2 x3 x4 x5 x7 x8 (r179 - r181) t)
    else (ob1 (q_trader x8 1 t) fun r195 =>
    if r195 < 0 then (j_L_hangs_202 (lp_L_hangs_24   k)  x1 x2 x3 x4 x5 x7 x8 (r179 - r181) t)
    else (ob1 (q_trader x8 0 t) fun r198 =>
    if r198 = 0 then (j_L_hangs_93 (lp_L_hangs_24   k)  x1 x2 x3 x4 x5 x7 x8 (r179 - r181) t)
    else (ob1 (q_trader x8 1 t) fun r230 =>
    if r230 = 0 then (j_L_hangs_93 (lp_L_hangs_24   k)  x1 x2 x3 x4 x5 x7 x8 (r179 - r181) t)
    else (j_L_hangs_202 (lp_L_hangs_24   k)  x1 x2 x3 x4 x5 x7 x8 (r179 - r181) t))))))
def d_L_hangs (t : Td) : Option (Int32 × Td) :=
    ob1 (q_richest t) fun r1 =>
    lp_L_hangs_24   fuel 0 0 0 0 0 1 r1 0 t
set_option maxHeartbeats 16000000 in
set_option maxRecDepth 100000 in
theorem t_L_hangs_860 {p : Program} {l : Launch} {e : Env} {s : State} {m : MethodId} {below : List Frame} {meth : Method} {c : Code} {A : Nat → Prop} {Q : State → Prop} {D : va_G} {cI cC cE : ClassId} {a : Nat → Nat} {r0 : Int32} {o_t : Td} (hx : p.tables.exec = Jvm.exec) (hb : c.code = cL_hangs) (hml : c.maxLocals = 22) (hown : s.vm.findClass RL = some m.cls) (hts : ∀ w ∈ wsL_hangs, w.before [.ref (a 0)].toArray s = true) (hK : va_K D vwCl (kT cI cC cE) s) (hA : ∀ q, s.heap.size ≤ q → A q) (fin : ∀ (pc : Nat) (ls : Array Slot) (H : Heap) (locs : List Loc), (narrow .boolean (.int r0) = .int r0) → decode cL_hangs pc = .ok (.ireturn, 1) → va_P D vwCl (fl [tdW cI cC cE a o_t]) H → va_D A (fl [tdW cI cC cE a o_t]) → va_S A s.heap H locs → W p l e ({ frames := 6, cells := 0, slots := 0, locals := 140 } : Room) s m [.ref (a 0)].toArray below meth c H locs 0 0 Q (F0 m pc ls [.int r0])) (hz : narrow .boolean (.int r0) = .int r0) : ∀ (x1 : Int32) (x2 : Int32) (x3 : Int32) (x4 : Int32) (x5 : Int32) (x6 : Int32) (x8 : Int32) (x9 : Int32) (x10 : Int32) (x11 : Int32) (x12 : Int32) (x13 : Int32) (x14 : Int32) (x15 : Int32) (x16 : Int32) (x17 : Int32) (t : Td) (H : Heap) (locs : List Loc), va_P D vwCl (fl [tdW cI cC cE a t]) H → va_D A (fl [tdW cI cC cE a t]) → va_S A s.heap H locs → ∀ (ls : Array Slot), lv_has ls 22 [(0, .ref (a 0)), (1, .int x1), (2, .int x2), (3, .int x3), (4, .int x4), (5, .int x5), (6, .int x6), (8, .int x8), (9, .int x9), (10, .int x10), (11, .int x11), (12, .int x12), (13, .int x13), (14, .int x14), (15, .int x15), (16, .int x16), (17, .int x17)] → j_L_hangs_860   x1 x2 x3 x4 x5 x6 x8 x9 x10 x11 x12 x13 x14 x15 x16 x17 t = some (r0, o_t) → W p l e ({ frames := 6, cells := 0, slots := 0, locals := 140 } : Room) s m [.ref (a 0)].toArray below meth c H locs 0 0 Q (F0 m 860 ls []) := by
  intro x1 x2 x3 x4 x5 x6 x8 x9 x10 x11 x12 x13 x14 x15 x16 x17 t H locs hP hD hS ls hl h
  dsimp only [j_L_hangs_860] at h
  refine lv_aload_n hx hb dL_hangs_860 rfl (lv_at hl 0 rfl) ?_
  refine lv_bipush (v := 7) hx hb dL_hangs_861 (by decide) ?_
  refine lv_iconst (v := 0) hx hb dL_hangs_863 (by decide) ?_
  obtain ⟨r10, t12, hu11, h⟩ := ob2_el h
  refine kbi (ci := 5) (q := (RX5, TX5, 8)) (bs := [tdW cI cC cE a t]) (cs := [tdW cI cC cE a t]) (cs' := [tdW cI cC cE a t12]) (bs1 := [tdW cI cC cE a t12]) ⟨hx, hb, hml, hown, hts⟩ [0] [] (cq_ifRounds l D cI cC cE a _ t 7 0 r10 t12 hu11) (cwV 2 hts gL_hangs_X5_ifRounds rfl rfl rfl (by decide +kernel) ⟨Nat.le_of_ble_eq_true rfl, Nat.le_of_ble_eq_true rfl⟩) hK hP hD hS hA rfl rfl rfl rfl rfl rfl rfl rfl rfl hl.1 rfl (Nat.le_of_ble_eq_true rfl) dL_hangs_864 ⟨Nat.le_refl 0, Nat.le_refl 0⟩ (fun H locs hP hD hS => ?_)
  refine lv_istore (lv' := [(18, .int r10), (0, .ref (a 0)), (1, .int x1), (2, .int x2), (3, .int x3), (4, .int x4), (5, .int x5), (6, .int x6), (8, .int x8), (9, .int x9), (10, .int x10), (11, .int x11), (12, .int x12), (13, .int x13), (14, .int x14), (15, .int x15), (16, .int x16), (17, .int x17)]) hx hb dL_hangs_867 hl (by decide) rfl (fun ls hl => ?_)
  refine lv_iload hx hb dL_hangs_869 (lv_at hl 7 rfl) ?_
  refine lv_if_eq (tgt := 1141) hx hb dL_hangs_871 (by decide) (fun c13 => ?_) (fun c13 => ?_)
  · have h := (k_iB h).1 c13
    refine lv_iconst (v := 0) hx hb dL_hangs_1141 (by decide) ?_
    obtain ⟨rfl, rfl⟩ := inj2 (Option.some.inj h)
    exact fin _ _ _ _ hz dL_hangs_1142 hP hD hS
  · have h := (k_iB h).2 c13
    refine lv_iload_n hx hb dL_hangs_874 rfl (lv_at hl 2 rfl) ?_
    refine lv_aload_n hx hb dL_hangs_875 rfl (lv_at hl 1 rfl) ?_
    refine lv_bipush (v := 9) hx hb dL_hangs_876 (by decide) ?_
    obtain ⟨r14, hu15, h⟩ := ob1_el h
    refine kbi (ci := 5) (q := (RX5, TX5, 8)) (bs := [tdW cI cC cE a t12]) (cs := [tdW cI cC cE a t12]) (cs' := [tdW cI cC cE a t12]) (bs1 := [tdW cI cC cE a t12]) ⟨hx, hb, hml, hown, hts⟩ [0] [] (cq_count l D cI cC cE a _ t12 9 r14 hu15) (cwV 1 hts gL_hangs_X5_count rfl rfl rfl (by decide +kernel) ⟨Nat.le_of_ble_eq_true rfl, Nat.le_of_ble_eq_true rfl⟩) hK hP hD hS hA rfl rfl rfl rfl rfl rfl rfl rfl rfl hl.1 rfl (Nat.le_of_ble_eq_true rfl) dL_hangs_878 ⟨Nat.le_refl 0, Nat.le_refl 0⟩ (fun H locs hP hD hS => ?_)
    refine lv_iadd hx hb dL_hangs_881 ?_
    refine lv_sipush (v := 800) hx hb dL_hangs_882 (by decide) ?_
    refine lv_icmp_ne (tgt := 1141) hx hb dL_hangs_885 (by decide) (fun c16 => ?_) (fun c16 => ?_)
    · have h := (k_iB h).2 c16
      refine lv_iconst (v := 0) hx hb dL_hangs_1141 (by decide) ?_
      obtain ⟨rfl, rfl⟩ := inj2 (Option.some.inj h)
      exact fin _ _ _ _ hz dL_hangs_1142 hP hD hS
    · have h := (k_iB h).1 c16
      refine lv_iload_n hx hb dL_hangs_888 rfl (lv_at hl 3 rfl) ?_
      refine lv_aload_n hx hb dL_hangs_889 rfl (lv_at hl 1 rfl) ?_
      refine lv_bipush (v := 9) hx hb dL_hangs_890 (by decide) ?_
      obtain ⟨r17, hu18, h⟩ := ob1_el h
      refine kbi (ci := 5) (q := (RX5, TX5, 8)) (bs := [tdW cI cC cE a t12]) (cs := [tdW cI cC cE a t12]) (cs' := [tdW cI cC cE a t12]) (bs1 := [tdW cI cC cE a t12]) ⟨hx, hb, hml, hown, hts⟩ [0] [] (cq_count l D cI cC cE a _ t12 9 r17 hu18) (cwV 1 hts gL_hangs_X5_count rfl rfl rfl (by decide +kernel) ⟨Nat.le_of_ble_eq_true rfl, Nat.le_of_ble_eq_true rfl⟩) hK hP hD hS hA rfl rfl rfl rfl rfl rfl rfl rfl rfl hl.1 rfl (Nat.le_of_ble_eq_true rfl) dL_hangs_892 ⟨Nat.le_refl 0, Nat.le_refl 0⟩ (fun H locs hP hD hS => ?_)
      refine lv_icmp_ne (tgt := 1141) hx hb dL_hangs_895 (by decide) (fun c19 => ?_) (fun c19 => ?_)
      · have h := (k_iB h).2 c19
        refine lv_iconst (v := 0) hx hb dL_hangs_1141 (by decide) ?_
        obtain ⟨rfl, rfl⟩ := inj2 (Option.some.inj h)
        exact fin _ _ _ _ hz dL_hangs_1142 hP hD hS
      · have h := (k_iB h).1 c19
        refine lv_iload_n hx hb dL_hangs_898 rfl (lv_at hl 4 rfl) ?_
        refine lv_iload hx hb dL_hangs_899 (lv_at hl 8 rfl) ?_
        refine lv_icmp_ne (tgt := 1141) hx hb dL_hangs_901 (by decide) (fun c20 => ?_) (fun c20 => ?_)
        · have h := (k_iB h).2 c20
          refine lv_iconst (v := 0) hx hb dL_hangs_1141 (by decide) ?_
          obtain ⟨rfl, rfl⟩ := inj2 (Option.some.inj h)
          exact fin _ _ _ _ hz dL_hangs_1142 hP hD hS
        · have h := (k_iB h).1 c20
          refine lv_iload hx hb dL_hangs_904 (lv_at hl 5 rfl) ?_
          refine lv_iload hx hb dL_hangs_906 (lv_at hl 17 rfl) ?_
          refine lv_icmp_ne (tgt := 1141) hx hb dL_hangs_908 (by decide) (fun c21 => ?_) (fun c21 => ?_)
          · have h := (k_iB h).2 c21
            refine lv_iconst (v := 0) hx hb dL_hangs_1141 (by decide) ?_
            obtain ⟨rfl, rfl⟩ := inj2 (Option.some.inj h)
            exact fin _ _ _ _ hz dL_hangs_1142 hP hD hS
          · have h := (k_iB h).1 c21
            refine lv_iload hx hb dL_hangs_911 (lv_at hl 6 rfl) ?_
            refine lv_aload_n hx hb dL_hangs_913 rfl (lv_at hl 1 rfl) ?_
            refine lv_bipush (v := 10) hx hb dL_hangs_914 (by decide) ?_
            obtain ⟨r22, hu23, h⟩ := ob1_el h
            refine kbi (ci := 5) (q := (RX5, TX5, 8)) (bs := [tdW cI cC cE a t12]) (cs := [tdW cI cC cE a t12]) (cs' := [tdW cI cC cE a t12]) (bs1 := [tdW cI cC cE a t12]) ⟨hx, hb, hml, hown, hts⟩ [0] [] (cq_count l D cI cC cE a _ t12 10 r22 hu23) (cwV 1 hts gL_hangs_X5_count rfl rfl rfl (by decide +kernel) ⟨Nat.le_of_ble_eq_true rfl, Nat.le_of_ble_eq_true rfl⟩) hK hP hD hS hA rfl rfl rfl rfl rfl rfl rfl rfl rfl hl.1 rfl (Nat.le_of_ble_eq_true rfl) dL_hangs_916 ⟨Nat.le_refl 0, Nat.le_refl 0⟩ (fun H locs hP hD hS => ?_)
            refine lv_icmp_ne (tgt := 1141) hx hb dL_hangs_919 (by decide) (fun c24 => ?_) (fun c24 => ?_)
            · have h := (k_iB h).2 c24
              refine lv_iconst (v := 0) hx hb dL_hangs_1141 (by decide) ?_
              obtain ⟨rfl, rfl⟩ := inj2 (Option.some.inj h)
              exact fin _ _ _ _ hz dL_hangs_1142 hP hD hS
            · have h := (k_iB h).1 c24
              refine lv_iload hx hb dL_hangs_922 (lv_at hl 9 rfl) ?_
              refine lv_aload_n hx hb dL_hangs_924 rfl (lv_at hl 1 rfl) ?_
              refine lv_iconst (v := 2) hx hb dL_hangs_925 (by decide) ?_
              obtain ⟨r25, hu26, h⟩ := ob1_el h
              refine kbi (ci := 5) (q := (RX5, TX5, 8)) (bs := [tdW cI cC cE a t12]) (cs := [tdW cI cC cE a t12]) (cs' := [tdW cI cC cE a t12]) (bs1 := [tdW cI cC cE a t12]) ⟨hx, hb, hml, hown, hts⟩ [0] [] (cq_count l D cI cC cE a _ t12 2 r25 hu26) (cwV 1 hts gL_hangs_X5_count rfl rfl rfl (by decide +kernel) ⟨Nat.le_of_ble_eq_true rfl, Nat.le_of_ble_eq_true rfl⟩) hK hP hD hS hA rfl rfl rfl rfl rfl rfl rfl rfl rfl hl.1 rfl (Nat.le_of_ble_eq_true rfl) dL_hangs_926 ⟨Nat.le_refl 0, Nat.le_refl 0⟩ (fun H locs hP hD hS => ?_)
              refine lv_icmp_ne (tgt := 1141) hx hb dL_hangs_929 (by decide) (fun c27 => ?_) (fun c27 => ?_)
              · have h := (k_iB h).2 c27
                refine lv_iconst (v := 0) hx hb dL_hangs_1141 (by decide) ?_
                obtain ⟨rfl, rfl⟩ := inj2 (Option.some.inj h)
                exact fin _ _ _ _ hz dL_hangs_1142 hP hD hS
              · have h := (k_iB h).1 c27
                refine lv_iload hx hb dL_hangs_932 (lv_at hl 10 rfl) ?_
                refine lv_iload hx hb dL_hangs_934 (lv_at hl 13 rfl) ?_
                refine lv_icmp_ne (tgt := 1141) hx hb dL_hangs_936 (by decide) (fun c28 => ?_) (fun c28 => ?_)
                · have h := (k_iB h).2 c28
                  refine lv_iconst (v := 0) hx hb dL_hangs_1141 (by decide) ?_
                  obtain ⟨rfl, rfl⟩ := inj2 (Option.some.inj h)
                  exact fin _ _ _ _ hz dL_hangs_1142 hP hD hS
                · have h := (k_iB h).1 c28
                  refine lv_iload hx hb dL_hangs_939 (lv_at hl 13 rfl) ?_
                  refine lv_aload_n hx hb dL_hangs_941 rfl (lv_at hl 1 rfl) ?_
                  refine lv_iconst (v := 5) hx hb dL_hangs_942 (by decide) ?_
                  obtain ⟨r29, hu30, h⟩ := ob1_el h
                  refine kbi (ci := 5) (q := (RX5, TX5, 8)) (bs := [tdW cI cC cE a t12]) (cs := [tdW cI cC cE a t12]) (cs' := [tdW cI cC cE a t12]) (bs1 := [tdW cI cC cE a t12]) ⟨hx, hb, hml, hown, hts⟩ [0] [] (cq_count l D cI cC cE a _ t12 5 r29 hu30) (cwV 1 hts gL_hangs_X5_count rfl rfl rfl (by decide +kernel) ⟨Nat.le_of_ble_eq_true rfl, Nat.le_of_ble_eq_true rfl⟩) hK hP hD hS hA rfl rfl rfl rfl rfl rfl rfl rfl rfl hl.1 rfl (Nat.le_of_ble_eq_true rfl) dL_hangs_943 ⟨Nat.le_refl 0, Nat.le_refl 0⟩ (fun H locs hP hD hS => ?_)
                  refine lv_icmp_ne (tgt := 1141) hx hb dL_hangs_946 (by decide) (fun c31 => ?_) (fun c31 => ?_)
                  · have h := (k_iB h).2 c31
                    refine lv_iconst (v := 0) hx hb dL_hangs_1141 (by decide) ?_
                    obtain ⟨rfl, rfl⟩ := inj2 (Option.some.inj h)
                    exact fin _ _ _ _ hz dL_hangs_1142 hP hD hS
                  · have h := (k_iB h).1 c31
                    refine lv_iload hx hb dL_hangs_949 (lv_at hl 14 rfl) ?_
                    refine lv_aload_n hx hb dL_hangs_951 rfl (lv_at hl 1 rfl) ?_
                    refine lv_bipush (v := 6) hx hb dL_hangs_952 (by decide) ?_
                    obtain ⟨r32, hu33, h⟩ := ob1_el h
                    refine kbi (ci := 5) (q := (RX5, TX5, 8)) (bs := [tdW cI cC cE a t12]) (cs := [tdW cI cC cE a t12]) (cs' := [tdW cI cC cE a t12]) (bs1 := [tdW cI cC cE a t12]) ⟨hx, hb, hml, hown, hts⟩ [0] [] (cq_count l D cI cC cE a _ t12 6 r32 hu33) (cwV 1 hts gL_hangs_X5_count rfl rfl rfl (by decide +kernel) ⟨Nat.le_of_ble_eq_true rfl, Nat.le_of_ble_eq_true rfl⟩) hK hP hD hS hA rfl rfl rfl rfl rfl rfl rfl rfl rfl hl.1 rfl (Nat.le_of_ble_eq_true rfl) dL_hangs_954 ⟨Nat.le_refl 0, Nat.le_refl 0⟩ (fun H locs hP hD hS => ?_)
                    refine lv_icmp_ne (tgt := 1141) hx hb dL_hangs_957 (by decide) (fun c34 => ?_) (fun c34 => ?_)
                    · have h := (k_iB h).2 c34
                      refine lv_iconst (v := 0) hx hb dL_hangs_1141 (by decide) ?_
                      obtain ⟨rfl, rfl⟩ := inj2 (Option.some.inj h)
                      exact fin _ _ _ _ hz dL_hangs_1142 hP hD hS
                    · have h := (k_iB h).1 c34
                      refine lv_iload hx hb dL_hangs_960 (lv_at hl 15 rfl) ?_
                      refine lv_aload_n hx hb dL_hangs_962 rfl (lv_at hl 1 rfl) ?_
                      refine lv_bipush (v := 11) hx hb dL_hangs_963 (by decide) ?_
                      obtain ⟨r35, hu36, h⟩ := ob1_el h
                      refine kbi (ci := 5) (q := (RX5, TX5, 8)) (bs := [tdW cI cC cE a t12]) (cs := [tdW cI cC cE a t12]) (cs' := [tdW cI cC cE a t12]) (bs1 := [tdW cI cC cE a t12]) ⟨hx, hb, hml, hown, hts⟩ [0] [] (cq_count l D cI cC cE a _ t12 11 r35 hu36) (cwV 1 hts gL_hangs_X5_count rfl rfl rfl (by decide +kernel) ⟨Nat.le_of_ble_eq_true rfl, Nat.le_of_ble_eq_true rfl⟩) hK hP hD hS hA rfl rfl rfl rfl rfl rfl rfl rfl rfl hl.1 rfl (Nat.le_of_ble_eq_true rfl) dL_hangs_965 ⟨Nat.le_refl 0, Nat.le_refl 0⟩ (fun H locs hP hD hS => ?_)
                      refine lv_icmp_ne (tgt := 1141) hx hb dL_hangs_968 (by decide) (fun c37 => ?_) (fun c37 => ?_)
                      · have h := (k_iB h).2 c37
                        refine lv_iconst (v := 0) hx hb dL_hangs_1141 (by decide) ?_
                        obtain ⟨rfl, rfl⟩ := inj2 (Option.some.inj h)
                        exact fin _ _ _ _ hz dL_hangs_1142 hP hD hS
                      · have h := (k_iB h).1 c37
                        refine lv_iload hx hb dL_hangs_971 (lv_at hl 16 rfl) ?_
                        refine lv_aload_n hx hb dL_hangs_973 rfl (lv_at hl 1 rfl) ?_
                        refine lv_bipush (v := 7) hx hb dL_hangs_974 (by decide) ?_
                        obtain ⟨r38, hu39, h⟩ := ob1_el h
                        refine kbi (ci := 5) (q := (RX5, TX5, 8)) (bs := [tdW cI cC cE a t12]) (cs := [tdW cI cC cE a t12]) (cs' := [tdW cI cC cE a t12]) (bs1 := [tdW cI cC cE a t12]) ⟨hx, hb, hml, hown, hts⟩ [0] [] (cq_count l D cI cC cE a _ t12 7 r38 hu39) (cwV 1 hts gL_hangs_X5_count rfl rfl rfl (by decide +kernel) ⟨Nat.le_of_ble_eq_true rfl, Nat.le_of_ble_eq_true rfl⟩) hK hP hD hS hA rfl rfl rfl rfl rfl rfl rfl rfl rfl hl.1 rfl (Nat.le_of_ble_eq_true rfl) dL_hangs_976 ⟨Nat.le_refl 0, Nat.le_refl 0⟩ (fun H locs hP hD hS => ?_)
                        refine lv_icmp_ne (tgt := 1141) hx hb dL_hangs_979 (by decide) (fun c40 => ?_) (fun c40 => ?_)
                        · have h := (k_iB h).2 c40
                          refine lv_iconst (v := 0) hx hb dL_hangs_1141 (by decide) ?_
                          obtain ⟨rfl, rfl⟩ := inj2 (Option.some.inj h)
                          exact fin _ _ _ _ hz dL_hangs_1142 hP hD hS
                        · have h := (k_iB h).1 c40
                          refine lv_aload_n hx hb dL_hangs_982 rfl (lv_at hl 1 rfl) ?_
                          refine lv_bipush (v := 8) hx hb dL_hangs_983 (by decide) ?_
                          obtain ⟨r41, hu42, h⟩ := ob1_el h
                          refine kbi (ci := 5) (q := (RX5, TX5, 8)) (bs := [tdW cI cC cE a t12]) (cs := [tdW cI cC cE a t12]) (cs' := [tdW cI cC cE a t12]) (bs1 := [tdW cI cC cE a t12]) ⟨hx, hb, hml, hown, hts⟩ [0] [] (cq_count l D cI cC cE a _ t12 8 r41 hu42) (cwV 1 hts gL_hangs_X5_count rfl rfl rfl (by decide +kernel) ⟨Nat.le_of_ble_eq_true rfl, Nat.le_of_ble_eq_true rfl⟩) hK hP hD hS hA rfl rfl rfl rfl rfl rfl rfl rfl rfl hl.1 rfl (Nat.le_of_ble_eq_true rfl) dL_hangs_985 ⟨Nat.le_refl 0, Nat.le_refl 0⟩ (fun H locs hP hD hS => ?_)
                          refine lv_iconst (v := 2) hx hb dL_hangs_988 (by decide) ?_
                          refine lv_iload hx hb dL_hangs_989 (lv_at hl 16 rfl) ?_
                          refine lv_iload hx hb dL_hangs_991 (lv_at hl 13 rfl) ?_
                          refine lv_iadd hx hb dL_hangs_993 ?_
                          refine lv_imul hx hb dL_hangs_994 ?_
                          refine lv_icmp_lt (tgt := 1141) hx hb dL_hangs_995 (by decide) (fun c43 => ?_) (fun c43 => ?_)
                          · have h := (k_iB h).1 c43
                            refine lv_iconst (v := 0) hx hb dL_hangs_1141 (by decide) ?_
                            obtain ⟨rfl, rfl⟩ := inj2 (Option.some.inj h)
                            exact fin _ _ _ _ hz dL_hangs_1142 hP hD hS
                          · have h := (k_iB h).2 c43
                            refine lv_aload_n hx hb dL_hangs_998 rfl (lv_at hl 1 rfl) ?_
                            refine lv_bipush (v := 8) hx hb dL_hangs_999 (by decide) ?_
                            obtain ⟨r44, hu45, h⟩ := ob1_el h
                            refine kbi (ci := 5) (q := (RX5, TX5, 8)) (bs := [tdW cI cC cE a t12]) (cs := [tdW cI cC cE a t12]) (cs' := [tdW cI cC cE a t12]) (bs1 := [tdW cI cC cE a t12]) ⟨hx, hb, hml, hown, hts⟩ [0] [] (cq_count l D cI cC cE a _ t12 8 r44 hu45) (cwV 1 hts gL_hangs_X5_count rfl rfl rfl (by decide +kernel) ⟨Nat.le_of_ble_eq_true rfl, Nat.le_of_ble_eq_true rfl⟩) hK hP hD hS hA rfl rfl rfl rfl rfl rfl rfl rfl rfl hl.1 rfl (Nat.le_of_ble_eq_true rfl) dL_hangs_1001 ⟨Nat.le_refl 0, Nat.le_refl 0⟩ (fun H locs hP hD hS => ?_)
                            refine lv_iconst (v := 2) hx hb dL_hangs_1004 (by decide) ?_
                            refine lv_irem hx hb dL_hangs_1005 (by decide) ?_
                            refine lv_if_ne (tgt := 1141) hx hb dL_hangs_1006 (by decide) (fun c46 => ?_) (fun c46 => ?_)
                            · have h := (k_iB h).2 c46
                              refine lv_iconst (v := 0) hx hb dL_hangs_1141 (by decide) ?_
                              obtain ⟨rfl, rfl⟩ := inj2 (Option.some.inj h)
                              exact fin _ _ _ _ hz dL_hangs_1142 hP hD hS
                            · have h := (k_iB h).1 c46
                              refine lv_iload hx hb dL_hangs_1009 (lv_at hl 11 rfl) ?_
                              refine lv_aload_n hx hb dL_hangs_1011 rfl (lv_at hl 1 rfl) ?_
                              refine lv_iconst (v := 4) hx hb dL_hangs_1012 (by decide) ?_
                              obtain ⟨r47, hu48, h⟩ := ob1_el h
                              refine kbi (ci := 5) (q := (RX5, TX5, 8)) (bs := [tdW cI cC cE a t12]) (cs := [tdW cI cC cE a t12]) (cs' := [tdW cI cC cE a t12]) (bs1 := [tdW cI cC cE a t12]) ⟨hx, hb, hml, hown, hts⟩ [0] [] (cq_count l D cI cC cE a _ t12 4 r47 hu48) (cwV 1 hts gL_hangs_X5_count rfl rfl rfl (by decide +kernel) ⟨Nat.le_of_ble_eq_true rfl, Nat.le_of_ble_eq_true rfl⟩) hK hP hD hS hA rfl rfl rfl rfl rfl rfl rfl rfl rfl hl.1 rfl (Nat.le_of_ble_eq_true rfl) dL_hangs_1013 ⟨Nat.le_refl 0, Nat.le_refl 0⟩ (fun H locs hP hD hS => ?_)
                              refine lv_icmp_ne (tgt := 1141) hx hb dL_hangs_1016 (by decide) (fun c49 => ?_) (fun c49 => ?_)
                              · have h := (k_iB h).2 c49
                                refine lv_iconst (v := 0) hx hb dL_hangs_1141 (by decide) ?_
                                obtain ⟨rfl, rfl⟩ := inj2 (Option.some.inj h)
                                exact fin _ _ _ _ hz dL_hangs_1142 hP hD hS
                              · have h := (k_iB h).1 c49
                                refine lv_iload hx hb dL_hangs_1019 (lv_at hl 12 rfl) ?_
                                refine lv_iload hx hb dL_hangs_1021 (lv_at hl 17 rfl) ?_
                                refine lv_icmp_ne (tgt := 1141) hx hb dL_hangs_1023 (by decide) (fun c50 => ?_) (fun c50 => ?_)
                                · have h := (k_iB h).2 c50
                                  refine lv_iconst (v := 0) hx hb dL_hangs_1141 (by decide) ?_
                                  obtain ⟨rfl, rfl⟩ := inj2 (Option.some.inj h)
                                  exact fin _ _ _ _ hz dL_hangs_1142 hP hD hS
                                · have h := (k_iB h).1 c50
                                  refine lv_aload_n hx hb dL_hangs_1026 rfl (lv_at hl 1 rfl) ?_
                                  refine lv_iconst (v := 4) hx hb dL_hangs_1027 (by decide) ?_
                                  obtain ⟨r51, hu52, h⟩ := ob1_el h
                                  refine kbi (ci := 5) (q := (RX5, TX5, 8)) (bs := [tdW cI cC cE a t12]) (cs := [tdW cI cC cE a t12]) (cs' := [tdW cI cC cE a t12]) (bs1 := [tdW cI cC cE a t12]) ⟨hx, hb, hml, hown, hts⟩ [0] [] (cq_count l D cI cC cE a _ t12 4 r51 hu52) (cwV 1 hts gL_hangs_X5_count rfl rfl rfl (by decide +kernel) ⟨Nat.le_of_ble_eq_true rfl, Nat.le_of_ble_eq_true rfl⟩) hK hP hD hS hA rfl rfl rfl rfl rfl rfl rfl rfl rfl hl.1 rfl (Nat.le_of_ble_eq_true rfl) dL_hangs_1028 ⟨Nat.le_refl 0, Nat.le_refl 0⟩ (fun H locs hP hD hS => ?_)
                                  refine lv_iload hx hb dL_hangs_1031 (lv_at hl 13 rfl) ?_
                                  refine lv_iadd hx hb dL_hangs_1033 ?_
                                  refine lv_iload hx hb dL_hangs_1034 (lv_at hl 14 rfl) ?_
                                  refine lv_iadd hx hb dL_hangs_1036 ?_
                                  refine lv_iload hx hb dL_hangs_1037 (lv_at hl 17 rfl) ?_
                                  refine lv_icmp_ne (tgt := 1141) hx hb dL_hangs_1039 (by decide) (fun c53 => ?_) (fun c53 => ?_)
                                  · have h := (k_iB h).2 c53
                                    refine lv_iconst (v := 0) hx hb dL_hangs_1141 (by decide) ?_
                                    obtain ⟨rfl, rfl⟩ := inj2 (Option.some.inj h)
                                    exact fin _ _ _ _ hz dL_hangs_1142 hP hD hS
                                  · have h := (k_iB h).1 c53
                                    refine lv_aload_n hx hb dL_hangs_1042 rfl (lv_at hl 1 rfl) ?_
                                    refine lv_aload_n hx hb dL_hangs_1043 rfl (lv_at hl 1 rfl) ?_
                                    refine lv_iconst (v := 4) hx hb dL_hangs_1044 (by decide) ?_
                                    obtain ⟨r54, hu55, h⟩ := ob1_el h
                                    refine kbi (ci := 5) (q := (RX5, TX5, 8)) (bs := [tdW cI cC cE a t12]) (cs := [tdW cI cC cE a t12]) (cs' := [tdW cI cC cE a t12]) (bs1 := [tdW cI cC cE a t12]) ⟨hx, hb, hml, hown, hts⟩ [0] [] (cq_count l D cI cC cE a _ t12 4 r54 hu55) (cwV 1 hts gL_hangs_X5_count rfl rfl rfl (by decide +kernel) ⟨Nat.le_of_ble_eq_true rfl, Nat.le_of_ble_eq_true rfl⟩) hK hP hD hS hA rfl rfl rfl rfl rfl rfl rfl rfl rfl hl.1 rfl (Nat.le_of_ble_eq_true rfl) dL_hangs_1045 ⟨Nat.le_refl 0, Nat.le_refl 0⟩ (fun H locs hP hD hS => ?_)
                                    obtain ⟨r56, hu57, h⟩ := ob1_el h
                                    refine kbi (ci := 5) (q := (RX5, TX5, 8)) (bs := [tdW cI cC cE a t12]) (cs := [tdW cI cC cE a t12]) (cs' := [tdW cI cC cE a t12]) (bs1 := [tdW cI cC cE a t12]) ⟨hx, hb, hml, hown, hts⟩ [0] [] (cq_waits l D cI cC cE a _ t12 r54 r56 hu57) (cwV 1 hts gL_hangs_X5_waits rfl rfl rfl (by decide +kernel) ⟨Nat.le_of_ble_eq_true rfl, Nat.le_of_ble_eq_true rfl⟩) hK hP hD hS hA rfl rfl rfl rfl rfl rfl rfl rfl rfl hl.1 rfl (Nat.le_of_ble_eq_true rfl) dL_hangs_1048 ⟨Nat.le_refl 0, Nat.le_refl 0⟩ (fun H locs hP hD hS => ?_)
                                    refine lv_bipush (v := (-5)) hx hb dL_hangs_1051 (by decide) ?_
                                    refine lv_icmp_ne (tgt := 1141) hx hb dL_hangs_1053 (by decide) (fun c58 => ?_) (fun c58 => ?_)
                                    · have h := (k_iB h).2 c58
                                      refine lv_iconst (v := 0) hx hb dL_hangs_1141 (by decide) ?_
                                      obtain ⟨rfl, rfl⟩ := inj2 (Option.some.inj h)
                                      exact fin _ _ _ _ hz dL_hangs_1142 hP hD hS
                                    · have h := (k_iB h).1 c58
                                      refine lv_aload_n hx hb dL_hangs_1056 rfl (lv_at hl 1 rfl) ?_
                                      refine lv_bipush (v := 12) hx hb dL_hangs_1057 (by decide) ?_
                                      obtain ⟨r59, hu60, h⟩ := ob1_el h
                                      refine kbi (ci := 5) (q := (RX5, TX5, 8)) (bs := [tdW cI cC cE a t12]) (cs := [tdW cI cC cE a t12]) (cs' := [tdW cI cC cE a t12]) (bs1 := [tdW cI cC cE a t12]) ⟨hx, hb, hml, hown, hts⟩ [0] [] (cq_count l D cI cC cE a _ t12 12 r59 hu60) (cwV 1 hts gL_hangs_X5_count rfl rfl rfl (by decide +kernel) ⟨Nat.le_of_ble_eq_true rfl, Nat.le_of_ble_eq_true rfl⟩) hK hP hD hS hA rfl rfl rfl rfl rfl rfl rfl rfl rfl hl.1 rfl (Nat.le_of_ble_eq_true rfl) dL_hangs_1059 ⟨Nat.le_refl 0, Nat.le_refl 0⟩ (fun H locs hP hD hS => ?_)
                                      refine lv_if_lt (tgt := 1141) hx hb dL_hangs_1062 (by decide) (fun c61 => ?_) (fun c61 => ?_)
                                      · have h := (k_iB h).1 c61
                                        refine lv_iconst (v := 0) hx hb dL_hangs_1141 (by decide) ?_
                                        obtain ⟨rfl, rfl⟩ := inj2 (Option.some.inj h)
                                        exact fin _ _ _ _ hz dL_hangs_1142 hP hD hS
                                      · have h := (k_iB h).2 c61
                                        refine lv_aload_n hx hb dL_hangs_1065 rfl (lv_at hl 1 rfl) ?_
                                        refine lv_bipush (v := 12) hx hb dL_hangs_1066 (by decide) ?_
                                        obtain ⟨r62, hu63, h⟩ := ob1_el h
                                        refine kbi (ci := 5) (q := (RX5, TX5, 8)) (bs := [tdW cI cC cE a t12]) (cs := [tdW cI cC cE a t12]) (cs' := [tdW cI cC cE a t12]) (bs1 := [tdW cI cC cE a t12]) ⟨hx, hb, hml, hown, hts⟩ [0] [] (cq_count l D cI cC cE a _ t12 12 r62 hu63) (cwV 1 hts gL_hangs_X5_count rfl rfl rfl (by decide +kernel) ⟨Nat.le_of_ble_eq_true rfl, Nat.le_of_ble_eq_true rfl⟩) hK hP hD hS hA rfl rfl rfl rfl rfl rfl rfl rfl rfl hl.1 rfl (Nat.le_of_ble_eq_true rfl) dL_hangs_1068 ⟨Nat.le_refl 0, Nat.le_refl 0⟩ (fun H locs hP hD hS => ?_)
                                        refine lv_bipush (v := 19) hx hb dL_hangs_1071 (by decide) ?_
                                        refine lv_icmp_ge (tgt := 1141) hx hb dL_hangs_1073 (by decide) (fun c64 => ?_) (fun c64 => ?_)
                                        · have h := (k_iB h).1 c64
                                          refine lv_iconst (v := 0) hx hb dL_hangs_1141 (by decide) ?_
                                          obtain ⟨rfl, rfl⟩ := inj2 (Option.some.inj h)
                                          exact fin _ _ _ _ hz dL_hangs_1142 hP hD hS
                                        · have h := (k_iB h).2 c64
                                          refine lv_aload_n hx hb dL_hangs_1076 rfl (lv_at hl 1 rfl) ?_
                                          refine lv_bipush (v := 13) hx hb dL_hangs_1077 (by decide) ?_
                                          obtain ⟨r65, hu66, h⟩ := ob1_el h
                                          refine kbi (ci := 5) (q := (RX5, TX5, 8)) (bs := [tdW cI cC cE a t12]) (cs := [tdW cI cC cE a t12]) (cs' := [tdW cI cC cE a t12]) (bs1 := [tdW cI cC cE a t12]) ⟨hx, hb, hml, hown, hts⟩ [0] [] (cq_count l D cI cC cE a _ t12 13 r65 hu66) (cwV 1 hts gL_hangs_X5_count rfl rfl rfl (by decide +kernel) ⟨Nat.le_of_ble_eq_true rfl, Nat.le_of_ble_eq_true rfl⟩) hK hP hD hS hA rfl rfl rfl rfl rfl rfl rfl rfl rfl hl.1 rfl (Nat.le_of_ble_eq_true rfl) dL_hangs_1079 ⟨Nat.le_refl 0, Nat.le_refl 0⟩ (fun H locs hP hD hS => ?_)
                                          refine lv_if_lt (tgt := 1141) hx hb dL_hangs_1082 (by decide) (fun c67 => ?_) (fun c67 => ?_)
                                          · have h := (k_iB h).1 c67
                                            refine lv_iconst (v := 0) hx hb dL_hangs_1141 (by decide) ?_
                                            obtain ⟨rfl, rfl⟩ := inj2 (Option.some.inj h)
                                            exact fin _ _ _ _ hz dL_hangs_1142 hP hD hS
                                          · have h := (k_iB h).2 c67
                                            refine lv_aload_n hx hb dL_hangs_1085 rfl (lv_at hl 1 rfl) ?_
                                            refine lv_bipush (v := 13) hx hb dL_hangs_1086 (by decide) ?_
                                            obtain ⟨r68, hu69, h⟩ := ob1_el h
                                            refine kbi (ci := 5) (q := (RX5, TX5, 8)) (bs := [tdW cI cC cE a t12]) (cs := [tdW cI cC cE a t12]) (cs' := [tdW cI cC cE a t12]) (bs1 := [tdW cI cC cE a t12]) ⟨hx, hb, hml, hown, hts⟩ [0] [] (cq_count l D cI cC cE a _ t12 13 r68 hu69) (cwV 1 hts gL_hangs_X5_count rfl rfl rfl (by decide +kernel) ⟨Nat.le_of_ble_eq_true rfl, Nat.le_of_ble_eq_true rfl⟩) hK hP hD hS hA rfl rfl rfl rfl rfl rfl rfl rfl rfl hl.1 rfl (Nat.le_of_ble_eq_true rfl) dL_hangs_1088 ⟨Nat.le_refl 0, Nat.le_refl 0⟩ (fun H locs hP hD hS => ?_)
                                            refine lv_bipush (v := 19) hx hb dL_hangs_1091 (by decide) ?_
                                            refine lv_icmp_ge (tgt := 1141) hx hb dL_hangs_1093 (by decide) (fun c70 => ?_) (fun c70 => ?_)
                                            · have h := (k_iB h).1 c70
                                              refine lv_iconst (v := 0) hx hb dL_hangs_1141 (by decide) ?_
                                              obtain ⟨rfl, rfl⟩ := inj2 (Option.some.inj h)
                                              exact fin _ _ _ _ hz dL_hangs_1142 hP hD hS
                                            · have h := (k_iB h).2 c70
                                              refine lv_iload hx hb dL_hangs_1096 (lv_at hl 0 rfl) ?_
                                              refine lv_if_lt (tgt := 1141) hx hb dL_hangs_1098 (by decide) (fun c71 => ?_) (fun c71 => ?_)
                                              · have h := (k_iB h).1 c71
                                                refine lv_iconst (v := 0) hx hb dL_hangs_1141 (by decide) ?_
                                                obtain ⟨rfl, rfl⟩ := inj2 (Option.some.inj h)
                                                exact fin _ _ _ _ hz dL_hangs_1142 hP hD hS
                                              · have h := (k_iB h).2 c71
                                                refine lv_iload hx hb dL_hangs_1101 (lv_at hl 0 rfl) ?_
                                                refine lv_aload_n hx hb dL_hangs_1103 rfl (lv_at hl 1 rfl) ?_
                                                refine lv_iconst (v := 4) hx hb dL_hangs_1104 (by decide) ?_
                                                obtain ⟨r72, hu73, h⟩ := ob1_el h
                                                refine kbi (ci := 5) (q := (RX5, TX5, 8)) (bs := [tdW cI cC cE a t12]) (cs := [tdW cI cC cE a t12]) (cs' := [tdW cI cC cE a t12]) (bs1 := [tdW cI cC cE a t12]) ⟨hx, hb, hml, hown, hts⟩ [0] [] (cq_count l D cI cC cE a _ t12 4 r72 hu73) (cwV 1 hts gL_hangs_X5_count rfl rfl rfl (by decide +kernel) ⟨Nat.le_of_ble_eq_true rfl, Nat.le_of_ble_eq_true rfl⟩) hK hP hD hS hA rfl rfl rfl rfl rfl rfl rfl rfl rfl hl.1 rfl (Nat.le_of_ble_eq_true rfl) dL_hangs_1105 ⟨Nat.le_refl 0, Nat.le_refl 0⟩ (fun H locs hP hD hS => ?_)
                                                refine lv_icmp_gt (tgt := 1141) hx hb dL_hangs_1108 (by decide) (fun c74 => ?_) (fun c74 => ?_)
                                                · have h := (k_iB h).1 c74
                                                  refine lv_iconst (v := 0) hx hb dL_hangs_1141 (by decide) ?_
                                                  obtain ⟨rfl, rfl⟩ := inj2 (Option.some.inj h)
                                                  exact fin _ _ _ _ hz dL_hangs_1142 hP hD hS
                                                · have h := (k_iB h).2 c74
                                                  refine lv_iload hx hb dL_hangs_1111 (lv_at hl 0 rfl) ?_
                                                  refine lv_iload hx hb dL_hangs_1113 (lv_at hl 9 rfl) ?_
                                                  refine lv_icmp_gt (tgt := 1141) hx hb dL_hangs_1115 (by decide) (fun c75 => ?_) (fun c75 => ?_)
                                                  · have h := (k_iB h).1 c75
                                                    refine lv_iconst (v := 0) hx hb dL_hangs_1141 (by decide) ?_
                                                    obtain ⟨rfl, rfl⟩ := inj2 (Option.some.inj h)
                                                    exact fin _ _ _ _ hz dL_hangs_1142 hP hD hS
                                                  · have h := (k_iB h).2 c75
                                                    refine lv_aload_n hx hb dL_hangs_1118 rfl (lv_at hl 1 rfl) ?_
                                                    refine lv_bipush (v := 18) hx hb dL_hangs_1119 (by decide) ?_
                                                    obtain ⟨r76, hu77, h⟩ := ob1_el h
                                                    refine kbi (ci := 5) (q := (RX5, TX5, 8)) (bs := [tdW cI cC cE a t12]) (cs := [tdW cI cC cE a t12]) (cs' := [tdW cI cC cE a t12]) (bs1 := [tdW cI cC cE a t12]) ⟨hx, hb, hml, hown, hts⟩ [0] [] (cq_count l D cI cC cE a _ t12 18 r76 hu77) (cwV 1 hts gL_hangs_X5_count rfl rfl rfl (by decide +kernel) ⟨Nat.le_of_ble_eq_true rfl, Nat.le_of_ble_eq_true rfl⟩) hK hP hD hS hA rfl rfl rfl rfl rfl rfl rfl rfl rfl hl.1 rfl (Nat.le_of_ble_eq_true rfl) dL_hangs_1121 ⟨Nat.le_refl 0, Nat.le_refl 0⟩ (fun H locs hP hD hS => ?_)
                                                    refine lv_if_lt (tgt := 1141) hx hb dL_hangs_1124 (by decide) (fun c78 => ?_) (fun c78 => ?_)
                                                    · have h := (k_iB h).1 c78
                                                      refine lv_iconst (v := 0) hx hb dL_hangs_1141 (by decide) ?_
                                                      obtain ⟨rfl, rfl⟩ := inj2 (Option.some.inj h)
                                                      exact fin _ _ _ _ hz dL_hangs_1142 hP hD hS
                                                    · have h := (k_iB h).2 c78
                                                      refine lv_aload_n hx hb dL_hangs_1127 rfl (lv_at hl 1 rfl) ?_
                                                      refine lv_bipush (v := 18) hx hb dL_hangs_1128 (by decide) ?_
                                                      obtain ⟨r79, hu80, h⟩ := ob1_el h
                                                      refine kbi (ci := 5) (q := (RX5, TX5, 8)) (bs := [tdW cI cC cE a t12]) (cs := [tdW cI cC cE a t12]) (cs' := [tdW cI cC cE a t12]) (bs1 := [tdW cI cC cE a t12]) ⟨hx, hb, hml, hown, hts⟩ [0] [] (cq_count l D cI cC cE a _ t12 18 r79 hu80) (cwV 1 hts gL_hangs_X5_count rfl rfl rfl (by decide +kernel) ⟨Nat.le_of_ble_eq_true rfl, Nat.le_of_ble_eq_true rfl⟩) hK hP hD hS hA rfl rfl rfl rfl rfl rfl rfl rfl rfl hl.1 rfl (Nat.le_of_ble_eq_true rfl) dL_hangs_1130 ⟨Nat.le_refl 0, Nat.le_refl 0⟩ (fun H locs hP hD hS => ?_)
                                                      refine lv_iconst (v := 5) hx hb dL_hangs_1133 (by decide) ?_
                                                      refine lv_icmp_ge (tgt := 1141) hx hb dL_hangs_1134 (by decide) (fun c81 => ?_) (fun c81 => ?_)
                                                      · have h := (k_iB h).1 c81
                                                        refine lv_iconst (v := 0) hx hb dL_hangs_1141 (by decide) ?_
                                                        obtain ⟨rfl, rfl⟩ := inj2 (Option.some.inj h)
                                                        exact fin _ _ _ _ hz dL_hangs_1142 hP hD hS
                                                      · have h := (k_iB h).2 c81
                                                        refine lv_iconst (v := 1) hx hb dL_hangs_1137 (by decide) ?_
                                                        refine lv_goto (tgt := 1142) hx hb dL_hangs_1138 (by decide) ?_
                                                        obtain ⟨rfl, rfl⟩ := inj2 (Option.some.inj h)
                                                        exact fin _ _ _ _ hz dL_hangs_1142 hP hD hS
set_option maxHeartbeats 16000000 in
set_option maxRecDepth 100000 in
theorem t_L_hangs_828 {p : Program} {l : Launch} {e : Env} {s : State} {m : MethodId} {below : List Frame} {meth : Method} {c : Code} {A : Nat → Prop} {Q : State → Prop} {D : va_G} {cI cC cE : ClassId} {a : Nat → Nat} {r0 : Int32} {o_t : Td} (hx : p.tables.exec = Jvm.exec) (hb : c.code = cL_hangs) (hml : c.maxLocals = 22) (hown : s.vm.findClass RL = some m.cls) (hts : ∀ w ∈ wsL_hangs, w.before [.ref (a 0)].toArray s = true) (hK : va_K D vwCl (kT cI cC cE) s) (hA : ∀ q, s.heap.size ≤ q → A q) (fin : ∀ (pc : Nat) (ls : Array Slot) (H : Heap) (locs : List Loc), (narrow .boolean (.int r0) = .int r0) → decode cL_hangs pc = .ok (.ireturn, 1) → va_P D vwCl (fl [tdW cI cC cE a o_t]) H → va_D A (fl [tdW cI cC cE a o_t]) → va_S A s.heap H locs → W p l e ({ frames := 6, cells := 0, slots := 0, locals := 140 } : Room) s m [.ref (a 0)].toArray below meth c H locs 0 0 Q (F0 m pc ls [.int r0])) (hz : narrow .boolean (.int r0) = .int r0) : ∀ (LP523 : Int32 → Int32 → Int32 → Int32 → Int32 → Int32 → Int32 → Int32 → Int32 → Int32 → Int32 → Int32 → Int32 → Int32 → Int32 → Int32 → Int32 → Td → Option (Int32 × Td)), (∀ (x1 : Int32) (x2 : Int32) (x3 : Int32) (x4 : Int32) (x5 : Int32) (x6 : Int32) (x8 : Int32) (x9 : Int32) (x10 : Int32) (x11 : Int32) (x12 : Int32) (x13 : Int32) (x14 : Int32) (x15 : Int32) (x16 : Int32) (x17 : Int32) (x18 : Int32) (t : Td) (H : Heap) (locs : List Loc), va_P D vwCl (fl [tdW cI cC cE a t]) H → va_D A (fl [tdW cI cC cE a t]) → va_S A s.heap H locs → ∀ (ls : Array Slot), lv_has ls 22 [(0, .ref (a 0)), (1, .int x1), (2, .int x2), (3, .int x3), (4, .int x4), (5, .int x5), (6, .int x6), (8, .int x8), (9, .int x9), (10, .int x10), (11, .int x11), (12, .int x12), (13, .int x13), (14, .int x14), (15, .int x15), (16, .int x16), (17, .int x17), (18, .int x18)] → LP523 x1 x2 x3 x4 x5 x6 x8 x9 x10 x11 x12 x13 x14 x15 x16 x17 x18 t = some (r0, o_t) → W p l e ({ frames := 6, cells := 0, slots := 0, locals := 140 } : Room) s m [.ref (a 0)].toArray below meth c H locs 0 0 Q (F0 m 523 ls [])) → ∀ (x1 : Int32) (x2 : Int32) (x3 : Int32) (x4 : Int32) (x5 : Int32) (x6 : Int32) (x8 : Int32) (x9 : Int32) (x10 : Int32) (x11 : Int32) (x12 : Int32) (x13 : Int32) (x14 : Int32) (x15 : Int32) (x16 : Int32) (x17 : Int32) (x18 : Int32) (t : Td) (H : Heap) (locs : List Loc), va_P D vwCl (fl [tdW cI cC cE a t]) H → va_D A (fl [tdW cI cC cE a t]) → va_S A s.heap H locs → ∀ (ls : Array Slot), lv_has ls 22 [(0, .ref (a 0)), (1, .int x1), (2, .int x2), (3, .int x3), (4, .int x4), (5, .int x5), (6, .int x6), (8, .int x8), (9, .int x9), (10, .int x10), (11, .int x11), (12, .int x12), (13, .int x13), (14, .int x14), (15, .int x15), (16, .int x16), (17, .int x17), (18, .int x18)] → j_L_hangs_828 LP523  x1 x2 x3 x4 x5 x6 x8 x9 x10 x11 x12 x13 x14 x15 x16 x17 x18 t = some (r0, o_t) → W p l e ({ frames := 6, cells := 0, slots := 0, locals := 140 } : Room) s m [.ref (a 0)].toArray below meth c H locs 0 0 Q (F0 m 828 ls []) := by
  intro LP523 hLP523
  intro x1 x2 x3 x4 x5 x6 x8 x9 x10 x11 x12 x13 x14 x15 x16 x17 x18 t H locs hP hD hS ls hl h
  dsimp only [j_L_hangs_828] at h
  refine lv_iload hx hb dL_hangs_828 (lv_at hl 14 rfl) ?_
  refine lv_aload_n hx hb dL_hangs_830 rfl (lv_at hl 0 rfl) ?_
  refine lv_iload hx hb dL_hangs_831 (lv_at hl 17 rfl) ?_
  refine lv_bipush (v := 7) hx hb dL_hangs_833 (by decide) ?_
  obtain ⟨r93, hu94, h⟩ := ob1_el h
  refine kbi (ci := 5) (q := (RX5, TX5, 8)) (bs := [tdW cI cC cE a t]) (cs := [tdW cI cC cE a t]) (cs' := [tdW cI cC cE a t]) (bs1 := [tdW cI cC cE a t]) ⟨hx, hb, hml, hown, hts⟩ [0] [] (cq_answer l D cI cC cE a _ t x18 7 r93 hu94) (cwV 2 hts gL_hangs_X5_answer rfl rfl rfl (by decide +kernel) ⟨Nat.le_of_ble_eq_true rfl, Nat.le_of_ble_eq_true rfl⟩) hK hP hD hS hA rfl rfl rfl rfl rfl rfl rfl rfl rfl hl.1 rfl (Nat.le_of_ble_eq_true rfl) dL_hangs_835 ⟨Nat.le_refl 0, Nat.le_refl 0⟩ (fun H locs hP hD hS => ?_)
  refine lv_iadd hx hb dL_hangs_838 ?_
  refine lv_istore (lv' := [(15, .int (x15 + r93)), (0, .ref (a 0)), (1, .int x1), (2, .int x2), (3, .int x3), (4, .int x4), (5, .int x5), (6, .int x6), (8, .int x8), (9, .int x9), (10, .int x10), (11, .int x11), (12, .int x12), (13, .int x13), (14, .int x14), (16, .int x16), (17, .int x17), (18, .int x18)]) hx hb dL_hangs_839 hl (by decide) rfl (fun ls hl => ?_)
  refine lv_iload hx hb dL_hangs_841 (lv_at hl 15 rfl) ?_
  refine lv_aload_n hx hb dL_hangs_843 rfl (lv_at hl 1 rfl) ?_
  refine lv_iload hx hb dL_hangs_844 (lv_at hl 17 rfl) ?_
  refine lv_bipush (v := 6) hx hb dL_hangs_846 (by decide) ?_
  obtain ⟨r95, hu96, h⟩ := ob1_el h
  refine kbi (ci := 5) (q := (RX5, TX5, 8)) (bs := [tdW cI cC cE a t]) (cs := [tdW cI cC cE a t]) (cs' := [tdW cI cC cE a t]) (bs1 := [tdW cI cC cE a t]) ⟨hx, hb, hml, hown, hts⟩ [0] [] (cq_answer l D cI cC cE a _ t x18 6 r95 hu96) (cwV 2 hts gL_hangs_X5_answer rfl rfl rfl (by decide +kernel) ⟨Nat.le_of_ble_eq_true rfl, Nat.le_of_ble_eq_true rfl⟩) hK hP hD hS hA rfl rfl rfl rfl rfl rfl rfl rfl rfl hl.1 rfl (Nat.le_of_ble_eq_true rfl) dL_hangs_848 ⟨Nat.le_refl 0, Nat.le_refl 0⟩ (fun H locs hP hD hS => ?_)
  refine lv_iadd hx hb dL_hangs_851 ?_
  refine lv_istore (lv' := [(16, .int (x16 + r95)), (15, .int (x15 + r93)), (0, .ref (a 0)), (1, .int x1), (2, .int x2), (3, .int x3), (4, .int x4), (5, .int x5), (6, .int x6), (8, .int x8), (9, .int x9), (10, .int x10), (11, .int x11), (12, .int x12), (13, .int x13), (14, .int x14), (17, .int x17), (18, .int x18)]) hx hb dL_hangs_852 hl (by decide) rfl (fun ls hl => ?_)
  refine lv_iinc (v := (x18 + 1)) (lv' := [(18, .int (x18 + 1)), (16, .int (x16 + r95)), (15, .int (x15 + r93)), (0, .ref (a 0)), (1, .int x1), (2, .int x2), (3, .int x3), (4, .int x4), (5, .int x5), (6, .int x6), (8, .int x8), (9, .int x9), (10, .int x10), (11, .int x11), (12, .int x12), (13, .int x13), (14, .int x14), (17, .int x17)]) hx hb dL_hangs_854 hl (k := 17) rfl rfl (by decide) rfl (fun ls hl => ?_)
  refine lv_goto (tgt := 523) hx hb dL_hangs_857 (by decide) ?_
  exact hLP523 x1 x2 x3 x4 x5 x6 x8 x9 x10 x11 x12 x13 x14 (x15 + r93) (x16 + r95) x17 (x18 + 1) t _ _ hP hD hS _ (lv_sub hl [3, 4, 5, 6, 7, 8, 9, 10, 11, 12, 13, 14, 15, 16, 2, 1, 17, 0] rfl) h
set_option maxHeartbeats 16000000 in
set_option maxRecDepth 100000 in
theorem t_L_hangs_812 {p : Program} {l : Launch} {e : Env} {s : State} {m : MethodId} {below : List Frame} {meth : Method} {c : Code} {A : Nat → Prop} {Q : State → Prop} {D : va_G} {cI cC cE : ClassId} {a : Nat → Nat} {r0 : Int32} {o_t : Td} (hx : p.tables.exec = Jvm.exec) (hb : c.code = cL_hangs) (hml : c.maxLocals = 22) (hown : s.vm.findClass RL = some m.cls) (hts : ∀ w ∈ wsL_hangs, w.before [.ref (a 0)].toArray s = true) (hK : va_K D vwCl (kT cI cC cE) s) (hA : ∀ q, s.heap.size ≤ q → A q) (fin : ∀ (pc : Nat) (ls : Array Slot) (H : Heap) (locs : List Loc), (narrow .boolean (.int r0) = .int r0) → decode cL_hangs pc = .ok (.ireturn, 1) → va_P D vwCl (fl [tdW cI cC cE a o_t]) H → va_D A (fl [tdW cI cC cE a o_t]) → va_S A s.heap H locs → W p l e ({ frames := 6, cells := 0, slots := 0, locals := 140 } : Room) s m [.ref (a 0)].toArray below meth c H locs 0 0 Q (F0 m pc ls [.int r0])) (hz : narrow .boolean (.int r0) = .int r0) : ∀ (LP523 : Int32 → Int32 → Int32 → Int32 → Int32 → Int32 → Int32 → Int32 → Int32 → Int32 → Int32 → Int32 → Int32 → Int32 → Int32 → Int32 → Int32 → Td → Option (Int32 × Td)), (∀ (x1 : Int32) (x2 : Int32) (x3 : Int32) (x4 : Int32) (x5 : Int32) (x6 : Int32) (x8 : Int32) (x9 : Int32) (x10 : Int32) (x11 : Int32) (x12 : Int32) (x13 : Int32) (x14 : Int32) (x15 : Int32) (x16 : Int32) (x17 : Int32) (x18 : Int32) (t : Td) (H : Heap) (locs : List Loc), va_P D vwCl (fl [tdW cI cC cE a t]) H → va_D A (fl [tdW cI cC cE a t]) → va_S A s.heap H locs → ∀ (ls : Array Slot), lv_has ls 22 [(0, .ref (a 0)), (1, .int x1), (2, .int x2), (3, .int x3), (4, .int x4), (5, .int x5), (6, .int x6), (8, .int x8), (9, .int x9), (10, .int x10), (11, .int x11), (12, .int x12), (13, .int x13), (14, .int x14), (15, .int x15), (16, .int x16), (17, .int x17), (18, .int x18)] → LP523 x1 x2 x3 x4 x5 x6 x8 x9 x10 x11 x12 x13 x14 x15 x16 x17 x18 t = some (r0, o_t) → W p l e ({ frames := 6, cells := 0, slots := 0, locals := 140 } : Room) s m [.ref (a 0)].toArray below meth c H locs 0 0 Q (F0 m 523 ls [])) → ∀ (x1 : Int32) (x2 : Int32) (x3 : Int32) (x4 : Int32) (x5 : Int32) (x6 : Int32) (x8 : Int32) (x9 : Int32) (x10 : Int32) (x11 : Int32) (x12 : Int32) (x13 : Int32) (x14 : Int32) (x15 : Int32) (x16 : Int32) (x17 : Int32) (x18 : Int32) (x19 : Int32) (t : Td) (H : Heap) (locs : List Loc), va_P D vwCl (fl [tdW cI cC cE a t]) H → va_D A (fl [tdW cI cC cE a t]) → va_S A s.heap H locs → ∀ (ls : Array Slot), lv_has ls 22 [(0, .ref (a 0)), (1, .int x1), (2, .int x2), (3, .int x3), (4, .int x4), (5, .int x5), (6, .int x6), (8, .int x8), (9, .int x9), (10, .int x10), (11, .int x11), (12, .int x12), (13, .int x13), (14, .int x14), (15, .int x15), (16, .int x16), (17, .int x17), (18, .int x18), (19, .int x19)] → j_L_hangs_812 LP523  x1 x2 x3 x4 x5 x6 x8 x9 x10 x11 x12 x13 x14 x15 x16 x17 x18 x19 t = some (r0, o_t) → W p l e ({ frames := 6, cells := 0, slots := 0, locals := 140 } : Room) s m [.ref (a 0)].toArray below meth c H locs 0 0 Q (F0 m 812 ls []) := by
  intro LP523 hLP523
  intro x1 x2 x3 x4 x5 x6 x8 x9 x10 x11 x12 x13 x14 x15 x16 x17 x18 x19 t H locs hP hD hS ls hl h
  dsimp only [j_L_hangs_812] at h
  refine lv_iload hx hb dL_hangs_812 (lv_at hl 13 rfl) ?_
  refine lv_iload hx hb dL_hangs_814 (lv_at hl 18 rfl) ?_
  refine lv_iconst (v := 2) hx hb dL_hangs_816 (by decide) ?_
  refine lv_icmp_ne (tgt := 824) hx hb dL_hangs_817 (by decide) (fun c92 => ?_) (fun c92 => ?_)
  · have h := (k_iB h).2 c92
    refine lv_iconst (v := 0) hx hb dL_hangs_824 (by decide) ?_
    refine lv_iadd hx hb dL_hangs_825 ?_
    refine lv_istore (lv' := [(14, .int (x14 + 0)), (0, .ref (a 0)), (1, .int x1), (2, .int x2), (3, .int x3), (4, .int x4), (5, .int x5), (6, .int x6), (8, .int x8), (9, .int x9), (10, .int x10), (11, .int x11), (12, .int x12), (13, .int x13), (15, .int x15), (16, .int x16), (17, .int x17), (18, .int x18), (19, .int x19)]) hx hb dL_hangs_826 hl (by decide) rfl (fun ls hl => ?_)
    exact (t_L_hangs_828 hx hb hml hown hts hK hA fin hz) LP523 hLP523 x1 x2 x3 x4 x5 x6 x8 x9 x10 x11 x12 x13 (x14 + 0) x15 x16 x17 x18 t _ _ hP hD hS _ (lv_sub hl [1, 2, 3, 4, 5, 6, 7, 8, 9, 10, 11, 12, 13, 0, 14, 15, 16, 17] rfl) h
  · have h := (k_iB h).1 c92
    refine lv_iconst (v := 1) hx hb dL_hangs_820 (by decide) ?_
    refine lv_goto (tgt := 825) hx hb dL_hangs_821 (by decide) ?_
    refine lv_iadd hx hb dL_hangs_825 ?_
    refine lv_istore (lv' := [(14, .int (x14 + 1)), (0, .ref (a 0)), (1, .int x1), (2, .int x2), (3, .int x3), (4, .int x4), (5, .int x5), (6, .int x6), (8, .int x8), (9, .int x9), (10, .int x10), (11, .int x11), (12, .int x12), (13, .int x13), (15, .int x15), (16, .int x16), (17, .int x17), (18, .int x18), (19, .int x19)]) hx hb dL_hangs_826 hl (by decide) rfl (fun ls hl => ?_)
    exact (t_L_hangs_828 hx hb hml hown hts hK hA fin hz) LP523 hLP523 x1 x2 x3 x4 x5 x6 x8 x9 x10 x11 x12 x13 (x14 + 1) x15 x16 x17 x18 t _ _ hP hD hS _ (lv_sub hl [1, 2, 3, 4, 5, 6, 7, 8, 9, 10, 11, 12, 13, 0, 14, 15, 16, 17] rfl) h
set_option maxHeartbeats 16000000 in
set_option maxRecDepth 100000 in
theorem t_L_hangs_796 {p : Program} {l : Launch} {e : Env} {s : State} {m : MethodId} {below : List Frame} {meth : Method} {c : Code} {A : Nat → Prop} {Q : State → Prop} {D : va_G} {cI cC cE : ClassId} {a : Nat → Nat} {r0 : Int32} {o_t : Td} (hx : p.tables.exec = Jvm.exec) (hb : c.code = cL_hangs) (hml : c.maxLocals = 22) (hown : s.vm.findClass RL = some m.cls) (hts : ∀ w ∈ wsL_hangs, w.before [.ref (a 0)].toArray s = true) (hK : va_K D vwCl (kT cI cC cE) s) (hA : ∀ q, s.heap.size ≤ q → A q) (fin : ∀ (pc : Nat) (ls : Array Slot) (H : Heap) (locs : List Loc), (narrow .boolean (.int r0) = .int r0) → decode cL_hangs pc = .ok (.ireturn, 1) → va_P D vwCl (fl [tdW cI cC cE a o_t]) H → va_D A (fl [tdW cI cC cE a o_t]) → va_S A s.heap H locs → W p l e ({ frames := 6, cells := 0, slots := 0, locals := 140 } : Room) s m [.ref (a 0)].toArray below meth c H locs 0 0 Q (F0 m pc ls [.int r0])) (hz : narrow .boolean (.int r0) = .int r0) : ∀ (LP523 : Int32 → Int32 → Int32 → Int32 → Int32 → Int32 → Int32 → Int32 → Int32 → Int32 → Int32 → Int32 → Int32 → Int32 → Int32 → Int32 → Int32 → Td → Option (Int32 × Td)), (∀ (x1 : Int32) (x2 : Int32) (x3 : Int32) (x4 : Int32) (x5 : Int32) (x6 : Int32) (x8 : Int32) (x9 : Int32) (x10 : Int32) (x11 : Int32) (x12 : Int32) (x13 : Int32) (x14 : Int32) (x15 : Int32) (x16 : Int32) (x17 : Int32) (x18 : Int32) (t : Td) (H : Heap) (locs : List Loc), va_P D vwCl (fl [tdW cI cC cE a t]) H → va_D A (fl [tdW cI cC cE a t]) → va_S A s.heap H locs → ∀ (ls : Array Slot), lv_has ls 22 [(0, .ref (a 0)), (1, .int x1), (2, .int x2), (3, .int x3), (4, .int x4), (5, .int x5), (6, .int x6), (8, .int x8), (9, .int x9), (10, .int x10), (11, .int x11), (12, .int x12), (13, .int x13), (14, .int x14), (15, .int x15), (16, .int x16), (17, .int x17), (18, .int x18)] → LP523 x1 x2 x3 x4 x5 x6 x8 x9 x10 x11 x12 x13 x14 x15 x16 x17 x18 t = some (r0, o_t) → W p l e ({ frames := 6, cells := 0, slots := 0, locals := 140 } : Room) s m [.ref (a 0)].toArray below meth c H locs 0 0 Q (F0 m 523 ls [])) → ∀ (x1 : Int32) (x2 : Int32) (x3 : Int32) (x4 : Int32) (x5 : Int32) (x6 : Int32) (x8 : Int32) (x9 : Int32) (x10 : Int32) (x11 : Int32) (x12 : Int32) (x13 : Int32) (x14 : Int32) (x15 : Int32) (x16 : Int32) (x17 : Int32) (x18 : Int32) (x19 : Int32) (t : Td) (H : Heap) (locs : List Loc), va_P D vwCl (fl [tdW cI cC cE a t]) H → va_D A (fl [tdW cI cC cE a t]) → va_S A s.heap H locs → ∀ (ls : Array Slot), lv_has ls 22 [(0, .ref (a 0)), (1, .int x1), (2, .int x2), (3, .int x3), (4, .int x4), (5, .int x5), (6, .int x6), (8, .int x8), (9, .int x9), (10, .int x10), (11, .int x11), (12, .int x12), (13, .int x13), (14, .int x14), (15, .int x15), (16, .int x16), (17, .int x17), (18, .int x18), (19, .int x19)] → j_L_hangs_796 LP523  x1 x2 x3 x4 x5 x6 x8 x9 x10 x11 x12 x13 x14 x15 x16 x17 x18 x19 t = some (r0, o_t) → W p l e ({ frames := 6, cells := 0, slots := 0, locals := 140 } : Room) s m [.ref (a 0)].toArray below meth c H locs 0 0 Q (F0 m 796 ls []) := by
  intro LP523 hLP523
  intro x1 x2 x3 x4 x5 x6 x8 x9 x10 x11 x12 x13 x14 x15 x16 x17 x18 x19 t H locs hP hD hS ls hl h
  dsimp only [j_L_hangs_796] at h
  refine lv_iload hx hb dL_hangs_796 (lv_at hl 12 rfl) ?_
  refine lv_iload hx hb dL_hangs_798 (lv_at hl 18 rfl) ?_
  refine lv_iconst (v := 1) hx hb dL_hangs_800 (by decide) ?_
  refine lv_icmp_ne (tgt := 808) hx hb dL_hangs_801 (by decide) (fun c91 => ?_) (fun c91 => ?_)
  · have h := (k_iB h).2 c91
    refine lv_iconst (v := 0) hx hb dL_hangs_808 (by decide) ?_
    refine lv_iadd hx hb dL_hangs_809 ?_
    refine lv_istore (lv' := [(13, .int (x13 + 0)), (0, .ref (a 0)), (1, .int x1), (2, .int x2), (3, .int x3), (4, .int x4), (5, .int x5), (6, .int x6), (8, .int x8), (9, .int x9), (10, .int x10), (11, .int x11), (12, .int x12), (14, .int x14), (15, .int x15), (16, .int x16), (17, .int x17), (18, .int x18), (19, .int x19)]) hx hb dL_hangs_810 hl (by decide) rfl (fun ls hl => ?_)
    exact (t_L_hangs_812 hx hb hml hown hts hK hA fin hz) LP523 hLP523 x1 x2 x3 x4 x5 x6 x8 x9 x10 x11 x12 (x13 + 0) x14 x15 x16 x17 x18 x19 t _ _ hP hD hS _ (lv_sub hl [1, 2, 3, 4, 5, 6, 7, 8, 9, 10, 11, 12, 0, 13, 14, 15, 16, 17, 18] rfl) h
  · have h := (k_iB h).1 c91
    refine lv_iconst (v := 1) hx hb dL_hangs_804 (by decide) ?_
    refine lv_goto (tgt := 809) hx hb dL_hangs_805 (by decide) ?_
    refine lv_iadd hx hb dL_hangs_809 ?_
    refine lv_istore (lv' := [(13, .int (x13 + 1)), (0, .ref (a 0)), (1, .int x1), (2, .int x2), (3, .int x3), (4, .int x4), (5, .int x5), (6, .int x6), (8, .int x8), (9, .int x9), (10, .int x10), (11, .int x11), (12, .int x12), (14, .int x14), (15, .int x15), (16, .int x16), (17, .int x17), (18, .int x18), (19, .int x19)]) hx hb dL_hangs_810 hl (by decide) rfl (fun ls hl => ?_)
    exact (t_L_hangs_812 hx hb hml hown hts hK hA fin hz) LP523 hLP523 x1 x2 x3 x4 x5 x6 x8 x9 x10 x11 x12 (x13 + 1) x14 x15 x16 x17 x18 x19 t _ _ hP hD hS _ (lv_sub hl [1, 2, 3, 4, 5, 6, 7, 8, 9, 10, 11, 12, 0, 13, 14, 15, 16, 17, 18] rfl) h
set_option maxHeartbeats 16000000 in
set_option maxRecDepth 100000 in
theorem t_L_hangs_793 {p : Program} {l : Launch} {e : Env} {s : State} {m : MethodId} {below : List Frame} {meth : Method} {c : Code} {A : Nat → Prop} {Q : State → Prop} {D : va_G} {cI cC cE : ClassId} {a : Nat → Nat} {r0 : Int32} {o_t : Td} (hx : p.tables.exec = Jvm.exec) (hb : c.code = cL_hangs) (hml : c.maxLocals = 22) (hown : s.vm.findClass RL = some m.cls) (hts : ∀ w ∈ wsL_hangs, w.before [.ref (a 0)].toArray s = true) (hK : va_K D vwCl (kT cI cC cE) s) (hA : ∀ q, s.heap.size ≤ q → A q) (fin : ∀ (pc : Nat) (ls : Array Slot) (H : Heap) (locs : List Loc), (narrow .boolean (.int r0) = .int r0) → decode cL_hangs pc = .ok (.ireturn, 1) → va_P D vwCl (fl [tdW cI cC cE a o_t]) H → va_D A (fl [tdW cI cC cE a o_t]) → va_S A s.heap H locs → W p l e ({ frames := 6, cells := 0, slots := 0, locals := 140 } : Room) s m [.ref (a 0)].toArray below meth c H locs 0 0 Q (F0 m pc ls [.int r0])) (hz : narrow .boolean (.int r0) = .int r0) : ∀ (LP523 : Int32 → Int32 → Int32 → Int32 → Int32 → Int32 → Int32 → Int32 → Int32 → Int32 → Int32 → Int32 → Int32 → Int32 → Int32 → Int32 → Int32 → Td → Option (Int32 × Td)), (∀ (x1 : Int32) (x2 : Int32) (x3 : Int32) (x4 : Int32) (x5 : Int32) (x6 : Int32) (x8 : Int32) (x9 : Int32) (x10 : Int32) (x11 : Int32) (x12 : Int32) (x13 : Int32) (x14 : Int32) (x15 : Int32) (x16 : Int32) (x17 : Int32) (x18 : Int32) (t : Td) (H : Heap) (locs : List Loc), va_P D vwCl (fl [tdW cI cC cE a t]) H → va_D A (fl [tdW cI cC cE a t]) → va_S A s.heap H locs → ∀ (ls : Array Slot), lv_has ls 22 [(0, .ref (a 0)), (1, .int x1), (2, .int x2), (3, .int x3), (4, .int x4), (5, .int x5), (6, .int x6), (8, .int x8), (9, .int x9), (10, .int x10), (11, .int x11), (12, .int x12), (13, .int x13), (14, .int x14), (15, .int x15), (16, .int x16), (17, .int x17), (18, .int x18)] → LP523 x1 x2 x3 x4 x5 x6 x8 x9 x10 x11 x12 x13 x14 x15 x16 x17 x18 t = some (r0, o_t) → W p l e ({ frames := 6, cells := 0, slots := 0, locals := 140 } : Room) s m [.ref (a 0)].toArray below meth c H locs 0 0 Q (F0 m 523 ls [])) → ∀ (x1 : Int32) (x2 : Int32) (x3 : Int32) (x4 : Int32) (x5 : Int32) (x8 : Int32) (x9 : Int32) (x10 : Int32) (x11 : Int32) (x12 : Int32) (x13 : Int32) (x14 : Int32) (x15 : Int32) (x16 : Int32) (x17 : Int32) (x18 : Int32) (x19 : Int32) (t : Td) (H : Heap) (locs : List Loc), va_P D vwCl (fl [tdW cI cC cE a t]) H → va_D A (fl [tdW cI cC cE a t]) → va_S A s.heap H locs → ∀ (ls : Array Slot), lv_has ls 22 [(0, .ref (a 0)), (1, .int x1), (2, .int x2), (3, .int x3), (4, .int x4), (5, .int x5), (8, .int x8), (9, .int x9), (10, .int x10), (11, .int x11), (12, .int x12), (13, .int x13), (14, .int x14), (15, .int x15), (16, .int x16), (17, .int x17), (18, .int x18), (19, .int x19)] → j_L_hangs_793 LP523  x1 x2 x3 x4 x5 x8 x9 x10 x11 x12 x13 x14 x15 x16 x17 x18 x19 t = some (r0, o_t) → W p l e ({ frames := 6, cells := 0, slots := 0, locals := 140 } : Room) s m [.ref (a 0)].toArray below meth c H locs 0 0 Q (F0 m 793 ls []) := by
  intro LP523 hLP523
  intro x1 x2 x3 x4 x5 x8 x9 x10 x11 x12 x13 x14 x15 x16 x17 x18 x19 t H locs hP hD hS ls hl h
  dsimp only [j_L_hangs_793] at h
  refine lv_iconst (v := 0) hx hb dL_hangs_793 (by decide) ?_
  refine lv_istore (lv' := [(6, .int 0), (0, .ref (a 0)), (1, .int x1), (2, .int x2), (3, .int x3), (4, .int x4), (5, .int x5), (8, .int x8), (9, .int x9), (10, .int x10), (11, .int x11), (12, .int x12), (13, .int x13), (14, .int x14), (15, .int x15), (16, .int x16), (17, .int x17), (18, .int x18), (19, .int x19)]) hx hb dL_hangs_794 hl (by decide) rfl (fun ls hl => ?_)
  exact (t_L_hangs_796 hx hb hml hown hts hK hA fin hz) LP523 hLP523 x1 x2 x3 x4 x5 0 x8 x9 x10 x11 x12 x13 x14 x15 x16 x17 x18 x19 t _ _ hP hD hS _ (lv_sub hl [1, 2, 3, 4, 5, 6, 0, 7, 8, 9, 10, 11, 12, 13, 14, 15, 16, 17, 18] rfl) h
set_option maxHeartbeats 16000000 in
set_option maxRecDepth 100000 in
theorem t_L_hangs_767 {p : Program} {l : Launch} {e : Env} {s : State} {m : MethodId} {below : List Frame} {meth : Method} {c : Code} {A : Nat → Prop} {Q : State → Prop} {D : va_G} {cI cC cE : ClassId} {a : Nat → Nat} {r0 : Int32} {o_t : Td} (hx : p.tables.exec = Jvm.exec) (hb : c.code = cL_hangs) (hml : c.maxLocals = 22) (hown : s.vm.findClass RL = some m.cls) (hts : ∀ w ∈ wsL_hangs, w.before [.ref (a 0)].toArray s = true) (hK : va_K D vwCl (kT cI cC cE) s) (hA : ∀ q, s.heap.size ≤ q → A q) (fin : ∀ (pc : Nat) (ls : Array Slot) (H : Heap) (locs : List Loc), (narrow .boolean (.int r0) = .int r0) → decode cL_hangs pc = .ok (.ireturn, 1) → va_P D vwCl (fl [tdW cI cC cE a o_t]) H → va_D A (fl [tdW cI cC cE a o_t]) → va_S A s.heap H locs → W p l e ({ frames := 6, cells := 0, slots := 0, locals := 140 } : Room) s m [.ref (a 0)].toArray below meth c H locs 0 0 Q (F0 m pc ls [.int r0])) (hz : narrow .boolean (.int r0) = .int r0) : ∀ (LP523 : Int32 → Int32 → Int32 → Int32 → Int32 → Int32 → Int32 → Int32 → Int32 → Int32 → Int32 → Int32 → Int32 → Int32 → Int32 → Int32 → Int32 → Td → Option (Int32 × Td)), (∀ (x1 : Int32) (x2 : Int32) (x3 : Int32) (x4 : Int32) (x5 : Int32) (x6 : Int32) (x8 : Int32) (x9 : Int32) (x10 : Int32) (x11 : Int32) (x12 : Int32) (x13 : Int32) (x14 : Int32) (x15 : Int32) (x16 : Int32) (x17 : Int32) (x18 : Int32) (t : Td) (H : Heap) (locs : List Loc), va_P D vwCl (fl [tdW cI cC cE a t]) H → va_D A (fl [tdW cI cC cE a t]) → va_S A s.heap H locs → ∀ (ls : Array Slot), lv_has ls 22 [(0, .ref (a 0)), (1, .int x1), (2, .int x2), (3, .int x3), (4, .int x4), (5, .int x5), (6, .int x6), (8, .int x8), (9, .int x9), (10, .int x10), (11, .int x11), (12, .int x12), (13, .int x13), (14, .int x14), (15, .int x15), (16, .int x16), (17, .int x17), (18, .int x18)] → LP523 x1 x2 x3 x4 x5 x6 x8 x9 x10 x11 x12 x13 x14 x15 x16 x17 x18 t = some (r0, o_t) → W p l e ({ frames := 6, cells := 0, slots := 0, locals := 140 } : Room) s m [.ref (a 0)].toArray below meth c H locs 0 0 Q (F0 m 523 ls [])) → ∀ (x1 : Int32) (x2 : Int32) (x3 : Int32) (x4 : Int32) (x5 : Int32) (x8 : Int32) (x9 : Int32) (x10 : Int32) (x11 : Int32) (x12 : Int32) (x13 : Int32) (x14 : Int32) (x15 : Int32) (x16 : Int32) (x17 : Int32) (x18 : Int32) (x19 : Int32) (t : Td) (H : Heap) (locs : List Loc), va_P D vwCl (fl [tdW cI cC cE a t]) H → va_D A (fl [tdW cI cC cE a t]) → va_S A s.heap H locs → ∀ (ls : Array Slot), lv_has ls 22 [(0, .ref (a 0)), (1, .int x1), (2, .int x2), (3, .int x3), (4, .int x4), (5, .int x5), (8, .int x8), (9, .int x9), (10, .int x10), (11, .int x11), (12, .int x12), (13, .int x13), (14, .int x14), (15, .int x15), (16, .int x16), (17, .int x17), (18, .int x18), (19, .int x19)] → j_L_hangs_767 LP523  x1 x2 x3 x4 x5 x8 x9 x10 x11 x12 x13 x14 x15 x16 x17 x18 x19 t = some (r0, o_t) → W p l e ({ frames := 6, cells := 0, slots := 0, locals := 140 } : Room) s m [.ref (a 0)].toArray below meth c H locs 0 0 Q (F0 m 767 ls []) := by
  intro LP523 hLP523
  intro x1 x2 x3 x4 x5 x8 x9 x10 x11 x12 x13 x14 x15 x16 x17 x18 x19 t H locs hP hD hS ls hl h
  dsimp only [j_L_hangs_767] at h
  refine lv_aload_n hx hb dL_hangs_767 rfl (lv_at hl 0 rfl) ?_
  refine lv_iload hx hb dL_hangs_768 (lv_at hl 16 rfl) ?_
  refine lv_iconst (v := 0) hx hb dL_hangs_770 (by decide) ?_
  obtain ⟨r121, hu122, h⟩ := ob1_el h
  refine kbi (ci := 5) (q := (RX5, TX5, 8)) (bs := [tdW cI cC cE a t]) (cs := [tdW cI cC cE a t]) (cs' := [tdW cI cC cE a t]) (bs1 := [tdW cI cC cE a t]) ⟨hx, hb, hml, hown, hts⟩ [0] [] (cq_answer l D cI cC cE a _ t x18 0 r121 hu122) (cwV 2 hts gL_hangs_X5_answer rfl rfl rfl (by decide +kernel) ⟨Nat.le_of_ble_eq_true rfl, Nat.le_of_ble_eq_true rfl⟩) hK hP hD hS hA rfl rfl rfl rfl rfl rfl rfl rfl rfl hl.1 rfl (Nat.le_of_ble_eq_true rfl) dL_hangs_771 ⟨Nat.le_refl 0, Nat.le_refl 0⟩ (fun H locs hP hD hS => ?_)
  refine lv_aload_n hx hb dL_hangs_774 rfl (lv_at hl 0 rfl) ?_
  refine lv_aload_n hx hb dL_hangs_775 rfl (lv_at hl 0 rfl) ?_
  refine lv_iload hx hb dL_hangs_776 (lv_at hl 16 rfl) ?_
  refine lv_iconst (v := 1) hx hb dL_hangs_778 (by decide) ?_
  obtain ⟨r123, hu124, h⟩ := ob1_el h
  refine kbi (ci := 5) (q := (RX5, TX5, 8)) (bs := [tdW cI cC cE a t]) (cs := [tdW cI cC cE a t]) (cs' := [tdW cI cC cE a t]) (bs1 := [tdW cI cC cE a t]) ⟨hx, hb, hml, hown, hts⟩ [0] [] (cq_answer l D cI cC cE a _ t x18 1 r123 hu124) (cwV 2 hts gL_hangs_X5_answer rfl rfl rfl (by decide +kernel) ⟨Nat.le_of_ble_eq_true rfl, Nat.le_of_ble_eq_true rfl⟩) hK hP hD hS hA rfl rfl rfl rfl rfl rfl rfl rfl rfl hl.1 rfl (Nat.le_of_ble_eq_true rfl) dL_hangs_779 ⟨Nat.le_refl 0, Nat.le_refl 0⟩ (fun H locs hP hD hS => ?_)
  refine lv_iconst (v := 0) hx hb dL_hangs_782 (by decide) ?_
  obtain ⟨r125, hu126, h⟩ := ob1_el h
  refine kbi (ci := 5) (q := (RX5, TX5, 8)) (bs := [tdW cI cC cE a t]) (cs := [tdW cI cC cE a t]) (cs' := [tdW cI cC cE a t]) (bs1 := [tdW cI cC cE a t]) ⟨hx, hb, hml, hown, hts⟩ [0] [] (cq_riddle l D cI cC cE a _ t r123 0 r125 hu126) (cwV 2 hts gL_hangs_X5_riddle rfl rfl rfl (by decide +kernel) ⟨Nat.le_of_ble_eq_true rfl, Nat.le_of_ble_eq_true rfl⟩) hK hP hD hS hA rfl rfl rfl rfl rfl rfl rfl rfl rfl hl.1 rfl (Nat.le_of_ble_eq_true rfl) dL_hangs_783 ⟨Nat.le_refl 0, Nat.le_refl 0⟩ (fun H locs hP hD hS => ?_)
  refine lv_icmp_eq (tgt := 793) hx hb dL_hangs_786 (by decide) (fun c127 => ?_) (fun c127 => ?_)
  · have h := (k_iB h).1 c127
    exact (t_L_hangs_793 hx hb hml hown hts hK hA fin hz) LP523 hLP523 x1 x2 x3 x4 x5 x8 x9 x10 x11 x12 x13 x14 x15 x16 x17 x18 x19 t _ _ hP hD hS _ (lv_sub hl [0, 1, 2, 3, 4, 5, 6, 7, 8, 9, 10, 11, 12, 13, 14, 15, 16, 17] rfl) h
  · have h := (k_iB h).2 c127
    refine lv_iconst (v := 1) hx hb dL_hangs_789 (by decide) ?_
    refine lv_goto (tgt := 794) hx hb dL_hangs_790 (by decide) ?_
    refine lv_istore (lv' := [(6, .int 1), (0, .ref (a 0)), (1, .int x1), (2, .int x2), (3, .int x3), (4, .int x4), (5, .int x5), (8, .int x8), (9, .int x9), (10, .int x10), (11, .int x11), (12, .int x12), (13, .int x13), (14, .int x14), (15, .int x15), (16, .int x16), (17, .int x17), (18, .int x18), (19, .int x19)]) hx hb dL_hangs_794 hl (by decide) rfl (fun ls hl => ?_)
    exact (t_L_hangs_796 hx hb hml hown hts hK hA fin hz) LP523 hLP523 x1 x2 x3 x4 x5 1 x8 x9 x10 x11 x12 x13 x14 x15 x16 x17 x18 x19 t _ _ hP hD hS _ (lv_sub hl [1, 2, 3, 4, 5, 6, 0, 7, 8, 9, 10, 11, 12, 13, 14, 15, 16, 17, 18] rfl) h
set_option maxHeartbeats 16000000 in
set_option maxRecDepth 100000 in
theorem t_L_hangs_737 {p : Program} {l : Launch} {e : Env} {s : State} {m : MethodId} {below : List Frame} {meth : Method} {c : Code} {A : Nat → Prop} {Q : State → Prop} {D : va_G} {cI cC cE : ClassId} {a : Nat → Nat} {r0 : Int32} {o_t : Td} (hx : p.tables.exec = Jvm.exec) (hb : c.code = cL_hangs) (hml : c.maxLocals = 22) (hown : s.vm.findClass RL = some m.cls) (hts : ∀ w ∈ wsL_hangs, w.before [.ref (a 0)].toArray s = true) (hK : va_K D vwCl (kT cI cC cE) s) (hA : ∀ q, s.heap.size ≤ q → A q) (fin : ∀ (pc : Nat) (ls : Array Slot) (H : Heap) (locs : List Loc), (narrow .boolean (.int r0) = .int r0) → decode cL_hangs pc = .ok (.ireturn, 1) → va_P D vwCl (fl [tdW cI cC cE a o_t]) H → va_D A (fl [tdW cI cC cE a o_t]) → va_S A s.heap H locs → W p l e ({ frames := 6, cells := 0, slots := 0, locals := 140 } : Room) s m [.ref (a 0)].toArray below meth c H locs 0 0 Q (F0 m pc ls [.int r0])) (hz : narrow .boolean (.int r0) = .int r0) : ∀ (LP523 : Int32 → Int32 → Int32 → Int32 → Int32 → Int32 → Int32 → Int32 → Int32 → Int32 → Int32 → Int32 → Int32 → Int32 → Int32 → Int32 → Int32 → Td → Option (Int32 × Td)), (∀ (x1 : Int32) (x2 : Int32) (x3 : Int32) (x4 : Int32) (x5 : Int32) (x6 : Int32) (x8 : Int32) (x9 : Int32) (x10 : Int32) (x11 : Int32) (x12 : Int32) (x13 : Int32) (x14 : Int32) (x15 : Int32) (x16 : Int32) (x17 : Int32) (x18 : Int32) (t : Td) (H : Heap) (locs : List Loc), va_P D vwCl (fl [tdW cI cC cE a t]) H → va_D A (fl [tdW cI cC cE a t]) → va_S A s.heap H locs → ∀ (ls : Array Slot), lv_has ls 22 [(0, .ref (a 0)), (1, .int x1), (2, .int x2), (3, .int x3), (4, .int x4), (5, .int x5), (6, .int x6), (8, .int x8), (9, .int x9), (10, .int x10), (11, .int x11), (12, .int x12), (13, .int x13), (14, .int x14), (15, .int x15), (16, .int x16), (17, .int x17), (18, .int x18)] → LP523 x1 x2 x3 x4 x5 x6 x8 x9 x10 x11 x12 x13 x14 x15 x16 x17 x18 t = some (r0, o_t) → W p l e ({ frames := 6, cells := 0, slots := 0, locals := 140 } : Room) s m [.ref (a 0)].toArray below meth c H locs 0 0 Q (F0 m 523 ls [])) → ∀ (x1 : Int32) (x2 : Int32) (x3 : Int32) (x4 : Int32) (x5 : Int32) (x8 : Int32) (x9 : Int32) (x10 : Int32) (x11 : Int32) (x12 : Int32) (x13 : Int32) (x14 : Int32) (x15 : Int32) (x16 : Int32) (x17 : Int32) (x18 : Int32) (x19 : Int32) (t : Td) (H : Heap) (locs : List Loc), va_P D vwCl (fl [tdW cI cC cE a t]) H → va_D A (fl [tdW cI cC cE a t]) → va_S A s.heap H locs → ∀ (ls : Array Slot), lv_has ls 22 [(0, .ref (a 0)), (1, .int x1), (2, .int x2), (3, .int x3), (4, .int x4), (5, .int x5), (8, .int x8), (9, .int x9), (10, .int x10), (11, .int x11), (12, .int x12), (13, .int x13), (14, .int x14), (15, .int x15), (16, .int x16), (17, .int x17), (18, .int x18), (19, .int x19)] → j_L_hangs_737 LP523  x1 x2 x3 x4 x5 x8 x9 x10 x11 x12 x13 x14 x15 x16 x17 x18 x19 t = some (r0, o_t) → W p l e ({ frames := 6, cells := 0, slots := 0, locals := 140 } : Room) s m [.ref (a 0)].toArray below meth c H locs 0 0 Q (F0 m 737 ls []) := by
  intro LP523 hLP523
  intro x1 x2 x3 x4 x5 x8 x9 x10 x11 x12 x13 x14 x15 x16 x17 x18 x19 t H locs hP hD hS ls hl h
  dsimp only [j_L_hangs_737] at h
  refine lv_iload hx hb dL_hangs_737 (lv_at hl 17 rfl) ?_
  refine lv_iconst (v := 1) hx hb dL_hangs_739 (by decide) ?_
  refine lv_icmp_ne (tgt := 747) hx hb dL_hangs_740 (by decide) (fun c117 => ?_) (fun c117 => ?_)
  · have h := (k_iB h).2 c117
    refine lv_iconst (v := 0) hx hb dL_hangs_747 (by decide) ?_
    refine lv_aload_n hx hb dL_hangs_748 rfl (lv_at hl 0 rfl) ?_
    refine lv_iload hx hb dL_hangs_749 (lv_at hl 16 rfl) ?_
    refine lv_bipush (v := 7) hx hb dL_hangs_751 (by decide) ?_
    obtain ⟨r118, hu119, h⟩ := ob1_el h
    refine kbi (ci := 5) (q := (RX5, TX5, 8)) (bs := [tdW cI cC cE a t]) (cs := [tdW cI cC cE a t]) (cs' := [tdW cI cC cE a t]) (bs1 := [tdW cI cC cE a t]) ⟨hx, hb, hml, hown, hts⟩ [0] [] (cq_answer l D cI cC cE a _ t x18 7 r118 hu119) (cwV 2 hts gL_hangs_X5_answer rfl rfl rfl (by decide +kernel) ⟨Nat.le_of_ble_eq_true rfl, Nat.le_of_ble_eq_true rfl⟩) hK hP hD hS hA rfl rfl rfl rfl rfl rfl rfl rfl rfl hl.1 rfl (Nat.le_of_ble_eq_true rfl) dL_hangs_753 ⟨Nat.le_refl 0, Nat.le_refl 0⟩ (fun H locs hP hD hS => ?_)
    refine lv_if_le (tgt := 763) hx hb dL_hangs_756 (by decide) (fun c120 => ?_) (fun c120 => ?_)
    · have h := (k_iB h).1 c120
      refine lv_iconst (v := 0) hx hb dL_hangs_763 (by decide) ?_
      refine lv_icmp_ne (tgt := 793) hx hb dL_hangs_764 (by decide) (fun c => absurd c (by decide)) (fun _ => ?_)
      exact (t_L_hangs_767 hx hb hml hown hts hK hA fin hz) LP523 hLP523 x1 x2 x3 x4 x5 x8 x9 x10 x11 x12 x13 x14 x15 x16 x17 x18 x19 t _ _ hP hD hS _ (lv_sub hl [0, 1, 2, 3, 4, 5, 6, 7, 8, 9, 10, 11, 12, 13, 14, 15, 16, 17] rfl) h
    · have h := (k_iB h).2 c120
      refine lv_iconst (v := 1) hx hb dL_hangs_759 (by decide) ?_
      refine lv_goto (tgt := 764) hx hb dL_hangs_760 (by decide) ?_
      refine lv_icmp_ne (tgt := 793) hx hb dL_hangs_764 (by decide) (fun _ => ?_) (fun c => absurd c (by decide))
      exact (t_L_hangs_793 hx hb hml hown hts hK hA fin hz) LP523 hLP523 x1 x2 x3 x4 x5 x8 x9 x10 x11 x12 x13 x14 x15 x16 x17 x18 x19 t _ _ hP hD hS _ (lv_sub hl [0, 1, 2, 3, 4, 5, 6, 7, 8, 9, 10, 11, 12, 13, 14, 15, 16, 17] rfl) h
  · have h := (k_iB h).1 c117
    refine lv_iconst (v := 1) hx hb dL_hangs_743 (by decide) ?_
    refine lv_goto (tgt := 748) hx hb dL_hangs_744 (by decide) ?_
    refine lv_aload_n hx hb dL_hangs_748 rfl (lv_at hl 0 rfl) ?_
    refine lv_iload hx hb dL_hangs_749 (lv_at hl 16 rfl) ?_
    refine lv_bipush (v := 7) hx hb dL_hangs_751 (by decide) ?_
    obtain ⟨r128, hu129, h⟩ := ob1_el h
    refine kbi (ci := 5) (q := (RX5, TX5, 8)) (bs := [tdW cI cC cE a t]) (cs := [tdW cI cC cE a t]) (cs' := [tdW cI cC cE a t]) (bs1 := [tdW cI cC cE a t]) ⟨hx, hb, hml, hown, hts⟩ [0] [] (cq_answer l D cI cC cE a _ t x18 7 r128 hu129) (cwV 2 hts gL_hangs_X5_answer rfl rfl rfl (by decide +kernel) ⟨Nat.le_of_ble_eq_true rfl, Nat.le_of_ble_eq_true rfl⟩) hK hP hD hS hA rfl rfl rfl rfl rfl rfl rfl rfl rfl hl.1 rfl (Nat.le_of_ble_eq_true rfl) dL_hangs_753 ⟨Nat.le_refl 0, Nat.le_refl 0⟩ (fun H locs hP hD hS => ?_)
    refine lv_if_le (tgt := 763) hx hb dL_hangs_756 (by decide) (fun c130 => ?_) (fun c130 => ?_)
    · have h := (k_iB h).1 c130
      refine lv_iconst (v := 0) hx hb dL_hangs_763 (by decide) ?_
      refine lv_icmp_ne (tgt := 793) hx hb dL_hangs_764 (by decide) (fun _ => ?_) (fun c => absurd c (by decide))
      exact (t_L_hangs_793 hx hb hml hown hts hK hA fin hz) LP523 hLP523 x1 x2 x3 x4 x5 x8 x9 x10 x11 x12 x13 x14 x15 x16 x17 x18 x19 t _ _ hP hD hS _ (lv_sub hl [0, 1, 2, 3, 4, 5, 6, 7, 8, 9, 10, 11, 12, 13, 14, 15, 16, 17] rfl) h
    · have h := (k_iB h).2 c130
      refine lv_iconst (v := 1) hx hb dL_hangs_759 (by decide) ?_
      refine lv_goto (tgt := 764) hx hb dL_hangs_760 (by decide) ?_
      refine lv_icmp_ne (tgt := 793) hx hb dL_hangs_764 (by decide) (fun c => absurd c (by decide)) (fun _ => ?_)
      exact (t_L_hangs_767 hx hb hml hown hts hK hA fin hz) LP523 hLP523 x1 x2 x3 x4 x5 x8 x9 x10 x11 x12 x13 x14 x15 x16 x17 x18 x19 t _ _ hP hD hS _ (lv_sub hl [0, 1, 2, 3, 4, 5, 6, 7, 8, 9, 10, 11, 12, 13, 14, 15, 16, 17] rfl) h
set_option maxHeartbeats 16000000 in
set_option maxRecDepth 100000 in
theorem t_L_hangs_677 {p : Program} {l : Launch} {e : Env} {s : State} {m : MethodId} {below : List Frame} {meth : Method} {c : Code} {A : Nat → Prop} {Q : State → Prop} {D : va_G} {cI cC cE : ClassId} {a : Nat → Nat} {r0 : Int32} {o_t : Td} (hx : p.tables.exec = Jvm.exec) (hb : c.code = cL_hangs) (hml : c.maxLocals = 22) (hown : s.vm.findClass RL = some m.cls) (hts : ∀ w ∈ wsL_hangs, w.before [.ref (a 0)].toArray s = true) (hK : va_K D vwCl (kT cI cC cE) s) (hA : ∀ q, s.heap.size ≤ q → A q) (fin : ∀ (pc : Nat) (ls : Array Slot) (H : Heap) (locs : List Loc), (narrow .boolean (.int r0) = .int r0) → decode cL_hangs pc = .ok (.ireturn, 1) → va_P D vwCl (fl [tdW cI cC cE a o_t]) H → va_D A (fl [tdW cI cC cE a o_t]) → va_S A s.heap H locs → W p l e ({ frames := 6, cells := 0, slots := 0, locals := 140 } : Room) s m [.ref (a 0)].toArray below meth c H locs 0 0 Q (F0 m pc ls [.int r0])) (hz : narrow .boolean (.int r0) = .int r0) : ∀ (LP523 : Int32 → Int32 → Int32 → Int32 → Int32 → Int32 → Int32 → Int32 → Int32 → Int32 → Int32 → Int32 → Int32 → Int32 → Int32 → Int32 → Int32 → Td → Option (Int32 × Td)), (∀ (x1 : Int32) (x2 : Int32) (x3 : Int32) (x4 : Int32) (x5 : Int32) (x6 : Int32) (x8 : Int32) (x9 : Int32) (x10 : Int32) (x11 : Int32) (x12 : Int32) (x13 : Int32) (x14 : Int32) (x15 : Int32) (x16 : Int32) (x17 : Int32) (x18 : Int32) (t : Td) (H : Heap) (locs : List Loc), va_P D vwCl (fl [tdW cI cC cE a t]) H → va_D A (fl [tdW cI cC cE a t]) → va_S A s.heap H locs → ∀ (ls : Array Slot), lv_has ls 22 [(0, .ref (a 0)), (1, .int x1), (2, .int x2), (3, .int x3), (4, .int x4), (5, .int x5), (6, .int x6), (8, .int x8), (9, .int x9), (10, .int x10), (11, .int x11), (12, .int x12), (13, .int x13), (14, .int x14), (15, .int x15), (16, .int x16), (17, .int x17), (18, .int x18)] → LP523 x1 x2 x3 x4 x5 x6 x8 x9 x10 x11 x12 x13 x14 x15 x16 x17 x18 t = some (r0, o_t) → W p l e ({ frames := 6, cells := 0, slots := 0, locals := 140 } : Room) s m [.ref (a 0)].toArray below meth c H locs 0 0 Q (F0 m 523 ls [])) → ∀ (x1 : Int32) (x2 : Int32) (x3 : Int32) (x4 : Int32) (x5 : Int32) (x8 : Int32) (x9 : Int32) (x10 : Int32) (x11 : Int32) (x12 : Int32) (x13 : Int32) (x14 : Int32) (x15 : Int32) (x16 : Int32) (x17 : Int32) (x18 : Int32) (x19 : Int32) (x21 : Int32) (t : Td) (H : Heap) (locs : List Loc), va_P D vwCl (fl [tdW cI cC cE a t]) H → va_D A (fl [tdW cI cC cE a t]) → va_S A s.heap H locs → ∀ (ls : Array Slot), lv_has ls 22 [(0, .ref (a 0)), (1, .int x1), (2, .int x2), (3, .int x3), (4, .int x4), (5, .int x5), (8, .int x8), (9, .int x9), (10, .int x10), (11, .int x11), (12, .int x12), (13, .int x13), (14, .int x14), (15, .int x15), (16, .int x16), (17, .int x17), (18, .int x18), (19, .int x19), (21, .int x21)] → j_L_hangs_677 LP523  x1 x2 x3 x4 x5 x8 x9 x10 x11 x12 x13 x14 x15 x16 x17 x18 x19 x21 t = some (r0, o_t) → W p l e ({ frames := 6, cells := 0, slots := 0, locals := 140 } : Room) s m [.ref (a 0)].toArray below meth c H locs 0 0 Q (F0 m 677 ls []) := by
  intro LP523 hLP523
  intro x1 x2 x3 x4 x5 x8 x9 x10 x11 x12 x13 x14 x15 x16 x17 x18 x19 x21 t H locs hP hD hS ls hl h
  dsimp only [j_L_hangs_677] at h
  refine lv_iload hx hb dL_hangs_677 (lv_at hl 18 rfl) ?_
  refine lv_iconst (v := 4) hx hb dL_hangs_679 (by decide) ?_
  refine lv_icmp_ge (tgt := 793) hx hb dL_hangs_680 (by decide) (fun c106 => ?_) (fun c106 => ?_)
  · have h := (k_iB h).1 c106
    exact (t_L_hangs_793 hx hb hml hown hts hK hA fin hz) LP523 hLP523 x1 x2 x3 x4 x5 x8 x9 x10 x11 x12 x13 x14 x15 x16 x17 x18 x19 t _ _ hP hD hS _ (lv_sub hl [0, 1, 2, 3, 4, 5, 6, 7, 8, 9, 10, 11, 12, 13, 14, 15, 16, 17] rfl) h
  · have h := (k_iB h).2 c106
    refine lv_aload_n hx hb dL_hangs_683 rfl (lv_at hl 0 rfl) ?_
    refine lv_iload hx hb dL_hangs_684 (lv_at hl 16 rfl) ?_
    refine lv_bipush (v := 6) hx hb dL_hangs_686 (by decide) ?_
    obtain ⟨r107, hu108, h⟩ := ob1_el h
    refine kbi (ci := 5) (q := (RX5, TX5, 8)) (bs := [tdW cI cC cE a t]) (cs := [tdW cI cC cE a t]) (cs' := [tdW cI cC cE a t]) (bs1 := [tdW cI cC cE a t]) ⟨hx, hb, hml, hown, hts⟩ [0] [] (cq_answer l D cI cC cE a _ t x18 6 r107 hu108) (cwV 2 hts gL_hangs_X5_answer rfl rfl rfl (by decide +kernel) ⟨Nat.le_of_ble_eq_true rfl, Nat.le_of_ble_eq_true rfl⟩) hK hP hD hS hA rfl rfl rfl rfl rfl rfl rfl rfl rfl hl.1 rfl (Nat.le_of_ble_eq_true rfl) dL_hangs_688 ⟨Nat.le_refl 0, Nat.le_refl 0⟩ (fun H locs hP hD hS => ?_)
    refine lv_if_lt (tgt := 793) hx hb dL_hangs_691 (by decide) (fun c109 => ?_) (fun c109 => ?_)
    · have h := (k_iB h).1 c109
      exact (t_L_hangs_793 hx hb hml hown hts hK hA fin hz) LP523 hLP523 x1 x2 x3 x4 x5 x8 x9 x10 x11 x12 x13 x14 x15 x16 x17 x18 x19 t _ _ hP hD hS _ (lv_sub hl [0, 1, 2, 3, 4, 5, 6, 7, 8, 9, 10, 11, 12, 13, 14, 15, 16, 17] rfl) h
    · have h := (k_iB h).2 c109
      refine lv_aload_n hx hb dL_hangs_694 rfl (lv_at hl 0 rfl) ?_
      refine lv_iload hx hb dL_hangs_695 (lv_at hl 16 rfl) ?_
      refine lv_bipush (v := 6) hx hb dL_hangs_697 (by decide) ?_
      obtain ⟨r110, hu111, h⟩ := ob1_el h
      refine kbi (ci := 5) (q := (RX5, TX5, 8)) (bs := [tdW cI cC cE a t]) (cs := [tdW cI cC cE a t]) (cs' := [tdW cI cC cE a t]) (bs1 := [tdW cI cC cE a t]) ⟨hx, hb, hml, hown, hts⟩ [0] [] (cq_answer l D cI cC cE a _ t x18 6 r110 hu111) (cwV 2 hts gL_hangs_X5_answer rfl rfl rfl (by decide +kernel) ⟨Nat.le_of_ble_eq_true rfl, Nat.le_of_ble_eq_true rfl⟩) hK hP hD hS hA rfl rfl rfl rfl rfl rfl rfl rfl rfl hl.1 rfl (Nat.le_of_ble_eq_true rfl) dL_hangs_699 ⟨Nat.le_refl 0, Nat.le_refl 0⟩ (fun H locs hP hD hS => ?_)
      refine lv_iconst (v := 4) hx hb dL_hangs_702 (by decide) ?_
      refine lv_icmp_ge (tgt := 793) hx hb dL_hangs_703 (by decide) (fun c112 => ?_) (fun c112 => ?_)
      · have h := (k_iB h).1 c112
        exact (t_L_hangs_793 hx hb hml hown hts hK hA fin hz) LP523 hLP523 x1 x2 x3 x4 x5 x8 x9 x10 x11 x12 x13 x14 x15 x16 x17 x18 x19 t _ _ hP hD hS _ (lv_sub hl [0, 1, 2, 3, 4, 5, 6, 7, 8, 9, 10, 11, 12, 13, 14, 15, 16, 17] rfl) h
      · have h := (k_iB h).2 c112
        refine lv_aload_n hx hb dL_hangs_706 rfl (lv_at hl 0 rfl) ?_
        refine lv_iload hx hb dL_hangs_707 (lv_at hl 16 rfl) ?_
        refine lv_bipush (v := 6) hx hb dL_hangs_709 (by decide) ?_
        obtain ⟨r113, hu114, h⟩ := ob1_el h
        refine kbi (ci := 5) (q := (RX5, TX5, 8)) (bs := [tdW cI cC cE a t]) (cs := [tdW cI cC cE a t]) (cs' := [tdW cI cC cE a t]) (bs1 := [tdW cI cC cE a t]) ⟨hx, hb, hml, hown, hts⟩ [0] [] (cq_answer l D cI cC cE a _ t x18 6 r113 hu114) (cwV 2 hts gL_hangs_X5_answer rfl rfl rfl (by decide +kernel) ⟨Nat.le_of_ble_eq_true rfl, Nat.le_of_ble_eq_true rfl⟩) hK hP hD hS hA rfl rfl rfl rfl rfl rfl rfl rfl rfl hl.1 rfl (Nat.le_of_ble_eq_true rfl) dL_hangs_711 ⟨Nat.le_refl 0, Nat.le_refl 0⟩ (fun H locs hP hD hS => ?_)
        refine lv_iconst (v := 3) hx hb dL_hangs_714 (by decide) ?_
        refine lv_icmp_ne (tgt := 722) hx hb dL_hangs_715 (by decide) (fun c115 => ?_) (fun c115 => ?_)
        · have h := (k_iB h).2 c115
          refine lv_iconst (v := 0) hx hb dL_hangs_722 (by decide) ?_
          refine lv_iload hx hb dL_hangs_723 (lv_at hl 18 rfl) ?_
          refine lv_iconst (v := 3) hx hb dL_hangs_725 (by decide) ?_
          refine lv_icmp_ne (tgt := 733) hx hb dL_hangs_726 (by decide) (fun c116 => ?_) (fun c116 => ?_)
          · have h := (k_iB h).2 c116
            refine lv_iconst (v := 0) hx hb dL_hangs_733 (by decide) ?_
            refine lv_icmp_ne (tgt := 793) hx hb dL_hangs_734 (by decide) (fun c => absurd c (by decide)) (fun _ => ?_)
            exact (t_L_hangs_737 hx hb hml hown hts hK hA fin hz) LP523 hLP523 x1 x2 x3 x4 x5 x8 x9 x10 x11 x12 x13 x14 x15 x16 x17 x18 x19 t _ _ hP hD hS _ (lv_sub hl [0, 1, 2, 3, 4, 5, 6, 7, 8, 9, 10, 11, 12, 13, 14, 15, 16, 17] rfl) h
          · have h := (k_iB h).1 c116
            refine lv_iconst (v := 1) hx hb dL_hangs_729 (by decide) ?_
            refine lv_goto (tgt := 734) hx hb dL_hangs_730 (by decide) ?_
            refine lv_icmp_ne (tgt := 793) hx hb dL_hangs_734 (by decide) (fun _ => ?_) (fun c => absurd c (by decide))
            exact (t_L_hangs_793 hx hb hml hown hts hK hA fin hz) LP523 hLP523 x1 x2 x3 x4 x5 x8 x9 x10 x11 x12 x13 x14 x15 x16 x17 x18 x19 t _ _ hP hD hS _ (lv_sub hl [0, 1, 2, 3, 4, 5, 6, 7, 8, 9, 10, 11, 12, 13, 14, 15, 16, 17] rfl) h
        · have h := (k_iB h).1 c115
          refine lv_iconst (v := 1) hx hb dL_hangs_718 (by decide) ?_
          refine lv_goto (tgt := 723) hx hb dL_hangs_719 (by decide) ?_
          refine lv_iload hx hb dL_hangs_723 (lv_at hl 18 rfl) ?_
          refine lv_iconst (v := 3) hx hb dL_hangs_725 (by decide) ?_
          refine lv_icmp_ne (tgt := 733) hx hb dL_hangs_726 (by decide) (fun c131 => ?_) (fun c131 => ?_)
          · have h := (k_iB h).2 c131
            refine lv_iconst (v := 0) hx hb dL_hangs_733 (by decide) ?_
            refine lv_icmp_ne (tgt := 793) hx hb dL_hangs_734 (by decide) (fun _ => ?_) (fun c => absurd c (by decide))
            exact (t_L_hangs_793 hx hb hml hown hts hK hA fin hz) LP523 hLP523 x1 x2 x3 x4 x5 x8 x9 x10 x11 x12 x13 x14 x15 x16 x17 x18 x19 t _ _ hP hD hS _ (lv_sub hl [0, 1, 2, 3, 4, 5, 6, 7, 8, 9, 10, 11, 12, 13, 14, 15, 16, 17] rfl) h
          · have h := (k_iB h).1 c131
            refine lv_iconst (v := 1) hx hb dL_hangs_729 (by decide) ?_
            refine lv_goto (tgt := 734) hx hb dL_hangs_730 (by decide) ?_
            refine lv_icmp_ne (tgt := 793) hx hb dL_hangs_734 (by decide) (fun c => absurd c (by decide)) (fun _ => ?_)
            exact (t_L_hangs_737 hx hb hml hown hts hK hA fin hz) LP523 hLP523 x1 x2 x3 x4 x5 x8 x9 x10 x11 x12 x13 x14 x15 x16 x17 x18 x19 t _ _ hP hD hS _ (lv_sub hl [0, 1, 2, 3, 4, 5, 6, 7, 8, 9, 10, 11, 12, 13, 14, 15, 16, 17] rfl) h
set_option maxHeartbeats 16000000 in
set_option maxRecDepth 100000 in
theorem t_L_hangs_653 {p : Program} {l : Launch} {e : Env} {s : State} {m : MethodId} {below : List Frame} {meth : Method} {c : Code} {A : Nat → Prop} {Q : State → Prop} {D : va_G} {cI cC cE : ClassId} {a : Nat → Nat} {r0 : Int32} {o_t : Td} (hx : p.tables.exec = Jvm.exec) (hb : c.code = cL_hangs) (hml : c.maxLocals = 22) (hown : s.vm.findClass RL = some m.cls) (hts : ∀ w ∈ wsL_hangs, w.before [.ref (a 0)].toArray s = true) (hK : va_K D vwCl (kT cI cC cE) s) (hA : ∀ q, s.heap.size ≤ q → A q) (fin : ∀ (pc : Nat) (ls : Array Slot) (H : Heap) (locs : List Loc), (narrow .boolean (.int r0) = .int r0) → decode cL_hangs pc = .ok (.ireturn, 1) → va_P D vwCl (fl [tdW cI cC cE a o_t]) H → va_D A (fl [tdW cI cC cE a o_t]) → va_S A s.heap H locs → W p l e ({ frames := 6, cells := 0, slots := 0, locals := 140 } : Room) s m [.ref (a 0)].toArray below meth c H locs 0 0 Q (F0 m pc ls [.int r0])) (hz : narrow .boolean (.int r0) = .int r0) : ∀ (LP523 : Int32 → Int32 → Int32 → Int32 → Int32 → Int32 → Int32 → Int32 → Int32 → Int32 → Int32 → Int32 → Int32 → Int32 → Int32 → Int32 → Int32 → Td → Option (Int32 × Td)), (∀ (x1 : Int32) (x2 : Int32) (x3 : Int32) (x4 : Int32) (x5 : Int32) (x6 : Int32) (x8 : Int32) (x9 : Int32) (x10 : Int32) (x11 : Int32) (x12 : Int32) (x13 : Int32) (x14 : Int32) (x15 : Int32) (x16 : Int32) (x17 : Int32) (x18 : Int32) (t : Td) (H : Heap) (locs : List Loc), va_P D vwCl (fl [tdW cI cC cE a t]) H → va_D A (fl [tdW cI cC cE a t]) → va_S A s.heap H locs → ∀ (ls : Array Slot), lv_has ls 22 [(0, .ref (a 0)), (1, .int x1), (2, .int x2), (3, .int x3), (4, .int x4), (5, .int x5), (6, .int x6), (8, .int x8), (9, .int x9), (10, .int x10), (11, .int x11), (12, .int x12), (13, .int x13), (14, .int x14), (15, .int x15), (16, .int x16), (17, .int x17), (18, .int x18)] → LP523 x1 x2 x3 x4 x5 x6 x8 x9 x10 x11 x12 x13 x14 x15 x16 x17 x18 t = some (r0, o_t) → W p l e ({ frames := 6, cells := 0, slots := 0, locals := 140 } : Room) s m [.ref (a 0)].toArray below meth c H locs 0 0 Q (F0 m 523 ls [])) → ∀ (x1 : Int32) (x2 : Int32) (x3 : Int32) (x4 : Int32) (x5 : Int32) (x8 : Int32) (x9 : Int32) (x10 : Int32) (x11 : Int32) (x12 : Int32) (x13 : Int32) (x14 : Int32) (x15 : Int32) (x16 : Int32) (x17 : Int32) (x18 : Int32) (x19 : Int32) (x21 : Int32) (t : Td) (H : Heap) (locs : List Loc), va_P D vwCl (fl [tdW cI cC cE a t]) H → va_D A (fl [tdW cI cC cE a t]) → va_S A s.heap H locs → ∀ (ls : Array Slot), lv_has ls 22 [(0, .ref (a 0)), (1, .int x1), (2, .int x2), (3, .int x3), (4, .int x4), (5, .int x5), (8, .int x8), (9, .int x9), (10, .int x10), (11, .int x11), (12, .int x12), (13, .int x13), (14, .int x14), (15, .int x15), (16, .int x16), (17, .int x17), (18, .int x18), (19, .int x19), (21, .int x21)] → j_L_hangs_653 LP523  x1 x2 x3 x4 x5 x8 x9 x10 x11 x12 x13 x14 x15 x16 x17 x18 x19 x21 t = some (r0, o_t) → W p l e ({ frames := 6, cells := 0, slots := 0, locals := 140 } : Room) s m [.ref (a 0)].toArray below meth c H locs 0 0 Q (F0 m 653 ls []) := by
  intro LP523 hLP523
  intro x1 x2 x3 x4 x5 x8 x9 x10 x11 x12 x13 x14 x15 x16 x17 x18 x19 x21 t H locs hP hD hS ls hl h
  dsimp only [j_L_hangs_653] at h
  refine lv_iload hx hb dL_hangs_653 (lv_at hl 17 rfl) ?_
  refine lv_iconst (v := 2) hx hb dL_hangs_655 (by decide) ?_
  refine lv_icmp_ne (tgt := 663) hx hb dL_hangs_656 (by decide) (fun c104 => ?_) (fun c104 => ?_)
  · have h := (k_iB h).2 c104
    refine lv_iconst (v := 0) hx hb dL_hangs_663 (by decide) ?_
    refine lv_iload hx hb dL_hangs_664 (lv_at hl 18 rfl) ?_
    refine lv_if_le (tgt := 673) hx hb dL_hangs_666 (by decide) (fun c105 => ?_) (fun c105 => ?_)
    · have h := (k_iB h).1 c105
      refine lv_iconst (v := 0) hx hb dL_hangs_673 (by decide) ?_
      refine lv_icmp_ne (tgt := 793) hx hb dL_hangs_674 (by decide) (fun c => absurd c (by decide)) (fun _ => ?_)
      exact (t_L_hangs_677 hx hb hml hown hts hK hA fin hz) LP523 hLP523 x1 x2 x3 x4 x5 x8 x9 x10 x11 x12 x13 x14 x15 x16 x17 x18 x19 x21 t _ _ hP hD hS _ (lv_sub hl [0, 1, 2, 3, 4, 5, 6, 7, 8, 9, 10, 11, 12, 13, 14, 15, 16, 17, 18] rfl) h
    · have h := (k_iB h).2 c105
      refine lv_iconst (v := 1) hx hb dL_hangs_669 (by decide) ?_
      refine lv_goto (tgt := 674) hx hb dL_hangs_670 (by decide) ?_
      refine lv_icmp_ne (tgt := 793) hx hb dL_hangs_674 (by decide) (fun _ => ?_) (fun c => absurd c (by decide))
      exact (t_L_hangs_793 hx hb hml hown hts hK hA fin hz) LP523 hLP523 x1 x2 x3 x4 x5 x8 x9 x10 x11 x12 x13 x14 x15 x16 x17 x18 x19 t _ _ hP hD hS _ (lv_sub hl [0, 1, 2, 3, 4, 5, 6, 7, 8, 9, 10, 11, 12, 13, 14, 15, 16, 17] rfl) h
  · have h := (k_iB h).1 c104
    refine lv_iconst (v := 1) hx hb dL_hangs_659 (by decide) ?_
    refine lv_goto (tgt := 664) hx hb dL_hangs_660 (by decide) ?_
    refine lv_iload hx hb dL_hangs_664 (lv_at hl 18 rfl) ?_
    refine lv_if_le (tgt := 673) hx hb dL_hangs_666 (by decide) (fun c132 => ?_) (fun c132 => ?_)
    · have h := (k_iB h).1 c132
      refine lv_iconst (v := 0) hx hb dL_hangs_673 (by decide) ?_
      refine lv_icmp_ne (tgt := 793) hx hb dL_hangs_674 (by decide) (fun _ => ?_) (fun c => absurd c (by decide))
      exact (t_L_hangs_793 hx hb hml hown hts hK hA fin hz) LP523 hLP523 x1 x2 x3 x4 x5 x8 x9 x10 x11 x12 x13 x14 x15 x16 x17 x18 x19 t _ _ hP hD hS _ (lv_sub hl [0, 1, 2, 3, 4, 5, 6, 7, 8, 9, 10, 11, 12, 13, 14, 15, 16, 17] rfl) h
    · have h := (k_iB h).2 c132
      refine lv_iconst (v := 1) hx hb dL_hangs_669 (by decide) ?_
      refine lv_goto (tgt := 674) hx hb dL_hangs_670 (by decide) ?_
      refine lv_icmp_ne (tgt := 793) hx hb dL_hangs_674 (by decide) (fun c => absurd c (by decide)) (fun _ => ?_)
      exact (t_L_hangs_677 hx hb hml hown hts hK hA fin hz) LP523 hLP523 x1 x2 x3 x4 x5 x8 x9 x10 x11 x12 x13 x14 x15 x16 x17 x18 x19 x21 t _ _ hP hD hS _ (lv_sub hl [0, 1, 2, 3, 4, 5, 6, 7, 8, 9, 10, 11, 12, 13, 14, 15, 16, 17, 18] rfl) h
set_option maxHeartbeats 16000000 in
set_option maxRecDepth 100000 in
theorem t_L_hangs_604 {p : Program} {l : Launch} {e : Env} {s : State} {m : MethodId} {below : List Frame} {meth : Method} {c : Code} {A : Nat → Prop} {Q : State → Prop} {D : va_G} {cI cC cE : ClassId} {a : Nat → Nat} {r0 : Int32} {o_t : Td} (hx : p.tables.exec = Jvm.exec) (hb : c.code = cL_hangs) (hml : c.maxLocals = 22) (hown : s.vm.findClass RL = some m.cls) (hts : ∀ w ∈ wsL_hangs, w.before [.ref (a 0)].toArray s = true) (hK : va_K D vwCl (kT cI cC cE) s) (hA : ∀ q, s.heap.size ≤ q → A q) (fin : ∀ (pc : Nat) (ls : Array Slot) (H : Heap) (locs : List Loc), (narrow .boolean (.int r0) = .int r0) → decode cL_hangs pc = .ok (.ireturn, 1) → va_P D vwCl (fl [tdW cI cC cE a o_t]) H → va_D A (fl [tdW cI cC cE a o_t]) → va_S A s.heap H locs → W p l e ({ frames := 6, cells := 0, slots := 0, locals := 140 } : Room) s m [.ref (a 0)].toArray below meth c H locs 0 0 Q (F0 m pc ls [.int r0])) (hz : narrow .boolean (.int r0) = .int r0) : ∀ (LP523 : Int32 → Int32 → Int32 → Int32 → Int32 → Int32 → Int32 → Int32 → Int32 → Int32 → Int32 → Int32 → Int32 → Int32 → Int32 → Int32 → Int32 → Td → Option (Int32 × Td)), (∀ (x1 : Int32) (x2 : Int32) (x3 : Int32) (x4 : Int32) (x5 : Int32) (x6 : Int32) (x8 : Int32) (x9 : Int32) (x10 : Int32) (x11 : Int32) (x12 : Int32) (x13 : Int32) (x14 : Int32) (x15 : Int32) (x16 : Int32) (x17 : Int32) (x18 : Int32) (t : Td) (H : Heap) (locs : List Loc), va_P D vwCl (fl [tdW cI cC cE a t]) H → va_D A (fl [tdW cI cC cE a t]) → va_S A s.heap H locs → ∀ (ls : Array Slot), lv_has ls 22 [(0, .ref (a 0)), (1, .int x1), (2, .int x2), (3, .int x3), (4, .int x4), (5, .int x5), (6, .int x6), (8, .int x8), (9, .int x9), (10, .int x10), (11, .int x11), (12, .int x12), (13, .int x13), (14, .int x14), (15, .int x15), (16, .int x16), (17, .int x17), (18, .int x18)] → LP523 x1 x2 x3 x4 x5 x6 x8 x9 x10 x11 x12 x13 x14 x15 x16 x17 x18 t = some (r0, o_t) → W p l e ({ frames := 6, cells := 0, slots := 0, locals := 140 } : Room) s m [.ref (a 0)].toArray below meth c H locs 0 0 Q (F0 m 523 ls [])) → ∀ (x1 : Int32) (x2 : Int32) (x3 : Int32) (x4 : Int32) (x5 : Int32) (x8 : Int32) (x9 : Int32) (x10 : Int32) (x11 : Int32) (x12 : Int32) (x13 : Int32) (x14 : Int32) (x15 : Int32) (x16 : Int32) (x17 : Int32) (x18 : Int32) (x19 : Int32) (x20 : Int32) (x21 : Int32) (t : Td) (H : Heap) (locs : List Loc), va_P D vwCl (fl [tdW cI cC cE a t]) H → va_D A (fl [tdW cI cC cE a t]) → va_S A s.heap H locs → ∀ (ls : Array Slot), lv_has ls 22 [(0, .ref (a 0)), (1, .int x1), (2, .int x2), (3, .int x3), (4, .int x4), (5, .int x5), (8, .int x8), (9, .int x9), (10, .int x10), (11, .int x11), (12, .int x12), (13, .int x13), (14, .int x14), (15, .int x15), (16, .int x16), (17, .int x17), (18, .int x18), (19, .int x19), (20, .int x20), (21, .int x21)] → j_L_hangs_604 LP523  x1 x2 x3 x4 x5 x8 x9 x10 x11 x12 x13 x14 x15 x16 x17 x18 x19 x20 x21 t = some (r0, o_t) → W p l e ({ frames := 6, cells := 0, slots := 0, locals := 140 } : Room) s m [.ref (a 0)].toArray below meth c H locs 0 0 Q (F0 m 604 ls []) := by
  intro LP523 hLP523
  intro x1 x2 x3 x4 x5 x8 x9 x10 x11 x12 x13 x14 x15 x16 x17 x18 x19 x20 x21 t H locs hP hD hS ls hl h
  dsimp only [j_L_hangs_604] at h
  refine lv_iload hx hb dL_hangs_604 (lv_at hl 17 rfl) ?_
  refine lv_if_ne (tgt := 642) hx hb dL_hangs_606 (by decide) (fun c100 => ?_) (fun c100 => ?_)
  · have h := (k_iB h).2 c100
    refine lv_aload_n hx hb dL_hangs_642 rfl (lv_at hl 0 rfl) ?_
    refine lv_iload hx hb dL_hangs_643 (lv_at hl 16 rfl) ?_
    obtain ⟨r101, hu102, h⟩ := ob1_el h
    refine kbi (ci := 5) (q := (RX5, TX5, 8)) (bs := [tdW cI cC cE a t]) (cs := [tdW cI cC cE a t]) (cs' := [tdW cI cC cE a t]) (bs1 := [tdW cI cC cE a t]) ⟨hx, hb, hml, hown, hts⟩ [0] [] (cq_reason l D cI cC cE a _ t x18 r101 hu102) (cwV 1 hts gL_hangs_X5_reason rfl rfl rfl (by decide +kernel) ⟨Nat.le_of_ble_eq_true rfl, Nat.le_of_ble_eq_true rfl⟩) hK hP hD hS hA rfl rfl rfl rfl rfl rfl rfl rfl rfl hl.1 rfl (Nat.le_of_ble_eq_true rfl) dL_hangs_645 ⟨Nat.le_refl 0, Nat.le_refl 0⟩ (fun H locs hP hD hS => ?_)
    refine lv_bipush (v := (-4)) hx hb dL_hangs_648 (by decide) ?_
    refine lv_icmp_ne (tgt := 793) hx hb dL_hangs_650 (by decide) (fun c103 => ?_) (fun c103 => ?_)
    · have h := (k_iB h).2 c103
      exact (t_L_hangs_793 hx hb hml hown hts hK hA fin hz) LP523 hLP523 x1 x2 x3 x4 x5 x8 x9 x10 x11 x12 x13 x14 x15 x16 x17 x18 x19 t _ _ hP hD hS _ (lv_sub hl [0, 1, 2, 3, 4, 5, 6, 7, 8, 9, 10, 11, 12, 13, 14, 15, 16, 17] rfl) h
    · have h := (k_iB h).1 c103
      exact (t_L_hangs_653 hx hb hml hown hts hK hA fin hz) LP523 hLP523 x1 x2 x3 x4 x5 x8 x9 x10 x11 x12 x13 x14 x15 x16 x17 x18 x19 x21 t _ _ hP hD hS _ (lv_sub hl [0, 1, 2, 3, 4, 5, 6, 7, 8, 9, 10, 11, 12, 13, 14, 15, 16, 17, 19] rfl) h
  · have h := (k_iB h).1 c100
    refine lv_aload_n hx hb dL_hangs_609 rfl (lv_at hl 0 rfl) ?_
    refine lv_iload hx hb dL_hangs_610 (lv_at hl 18 rfl) ?_
    obtain ⟨r133, hu134, h⟩ := ob1_el h
    refine kbi (ci := 5) (q := (RX5, TX5, 8)) (bs := [tdW cI cC cE a t]) (cs := [tdW cI cC cE a t]) (cs' := [tdW cI cC cE a t]) (bs1 := [tdW cI cC cE a t]) ⟨hx, hb, hml, hown, hts⟩ [0] [] (cq_waits l D cI cC cE a _ t x20 r133 hu134) (cwV 1 hts gL_hangs_X5_waits rfl rfl rfl (by decide +kernel) ⟨Nat.le_of_ble_eq_true rfl, Nat.le_of_ble_eq_true rfl⟩) hK hP hD hS hA rfl rfl rfl rfl rfl rfl rfl rfl rfl hl.1 rfl (Nat.le_of_ble_eq_true rfl) dL_hangs_612 ⟨Nat.le_refl 0, Nat.le_refl 0⟩ (fun H locs hP hD hS => ?_)
    refine lv_iload hx hb dL_hangs_615 (lv_at hl 16 rfl) ?_
    refine lv_icmp_ne (tgt := 793) hx hb dL_hangs_617 (by decide) (fun c135 => ?_) (fun c135 => ?_)
    · have h := (k_iB h).2 c135
      exact (t_L_hangs_793 hx hb hml hown hts hK hA fin hz) LP523 hLP523 x1 x2 x3 x4 x5 x8 x9 x10 x11 x12 x13 x14 x15 x16 x17 x18 x19 t _ _ hP hD hS _ (lv_sub hl [0, 1, 2, 3, 4, 5, 6, 7, 8, 9, 10, 11, 12, 13, 14, 15, 16, 17] rfl) h
    · have h := (k_iB h).1 c135
      refine lv_aload_n hx hb dL_hangs_620 rfl (lv_at hl 0 rfl) ?_
      refine lv_iload hx hb dL_hangs_621 (lv_at hl 16 rfl) ?_
      obtain ⟨r136, hu137, h⟩ := ob1_el h
      refine kbi (ci := 5) (q := (RX5, TX5, 8)) (bs := [tdW cI cC cE a t]) (cs := [tdW cI cC cE a t]) (cs' := [tdW cI cC cE a t]) (bs1 := [tdW cI cC cE a t]) ⟨hx, hb, hml, hown, hts⟩ [0] [] (cq_reason l D cI cC cE a _ t x18 r136 hu137) (cwV 1 hts gL_hangs_X5_reason rfl rfl rfl (by decide +kernel) ⟨Nat.le_of_ble_eq_true rfl, Nat.le_of_ble_eq_true rfl⟩) hK hP hD hS hA rfl rfl rfl rfl rfl rfl rfl rfl rfl hl.1 rfl (Nat.le_of_ble_eq_true rfl) dL_hangs_623 ⟨Nat.le_refl 0, Nat.le_refl 0⟩ (fun H locs hP hD hS => ?_)
      refine lv_if_lt (tgt := 793) hx hb dL_hangs_626 (by decide) (fun c138 => ?_) (fun c138 => ?_)
      · have h := (k_iB h).1 c138
        exact (t_L_hangs_793 hx hb hml hown hts hK hA fin hz) LP523 hLP523 x1 x2 x3 x4 x5 x8 x9 x10 x11 x12 x13 x14 x15 x16 x17 x18 x19 t _ _ hP hD hS _ (lv_sub hl [0, 1, 2, 3, 4, 5, 6, 7, 8, 9, 10, 11, 12, 13, 14, 15, 16, 17] rfl) h
      · have h := (k_iB h).2 c138
        refine lv_aload_n hx hb dL_hangs_629 rfl (lv_at hl 0 rfl) ?_
        refine lv_iload hx hb dL_hangs_630 (lv_at hl 16 rfl) ?_
        obtain ⟨r139, hu140, h⟩ := ob1_el h
        refine kbi (ci := 5) (q := (RX5, TX5, 8)) (bs := [tdW cI cC cE a t]) (cs := [tdW cI cC cE a t]) (cs' := [tdW cI cC cE a t]) (bs1 := [tdW cI cC cE a t]) ⟨hx, hb, hml, hown, hts⟩ [0] [] (cq_reason l D cI cC cE a _ t x18 r139 hu140) (cwV 1 hts gL_hangs_X5_reason rfl rfl rfl (by decide +kernel) ⟨Nat.le_of_ble_eq_true rfl, Nat.le_of_ble_eq_true rfl⟩) hK hP hD hS hA rfl rfl rfl rfl rfl rfl rfl rfl rfl hl.1 rfl (Nat.le_of_ble_eq_true rfl) dL_hangs_632 ⟨Nat.le_refl 0, Nat.le_refl 0⟩ (fun H locs hP hD hS => ?_)
        refine lv_iconst (v := 5) hx hb dL_hangs_635 (by decide) ?_
        refine lv_icmp_ge (tgt := 793) hx hb dL_hangs_636 (by decide) (fun c141 => ?_) (fun c141 => ?_)
        · have h := (k_iB h).1 c141
          exact (t_L_hangs_793 hx hb hml hown hts hK hA fin hz) LP523 hLP523 x1 x2 x3 x4 x5 x8 x9 x10 x11 x12 x13 x14 x15 x16 x17 x18 x19 t _ _ hP hD hS _ (lv_sub hl [0, 1, 2, 3, 4, 5, 6, 7, 8, 9, 10, 11, 12, 13, 14, 15, 16, 17] rfl) h
        · have h := (k_iB h).2 c141
          refine lv_goto (tgt := 653) hx hb dL_hangs_639 (by decide) ?_
          exact (t_L_hangs_653 hx hb hml hown hts hK hA fin hz) LP523 hLP523 x1 x2 x3 x4 x5 x8 x9 x10 x11 x12 x13 x14 x15 x16 x17 x18 x19 x21 t _ _ hP hD hS _ (lv_sub hl [0, 1, 2, 3, 4, 5, 6, 7, 8, 9, 10, 11, 12, 13, 14, 15, 16, 17, 19] rfl) h
set_option maxHeartbeats 16000000 in
set_option maxRecDepth 100000 in
theorem t_L_hangs_523 {p : Program} {l : Launch} {e : Env} {s : State} {m : MethodId} {below : List Frame} {meth : Method} {c : Code} {A : Nat → Prop} {Q : State → Prop} {D : va_G} {cI cC cE : ClassId} {a : Nat → Nat} {r0 : Int32} {o_t : Td} (hx : p.tables.exec = Jvm.exec) (hb : c.code = cL_hangs) (hml : c.maxLocals = 22) (hown : s.vm.findClass RL = some m.cls) (hts : ∀ w ∈ wsL_hangs, w.before [.ref (a 0)].toArray s = true) (hK : va_K D vwCl (kT cI cC cE) s) (hA : ∀ q, s.heap.size ≤ q → A q) (fin : ∀ (pc : Nat) (ls : Array Slot) (H : Heap) (locs : List Loc), (narrow .boolean (.int r0) = .int r0) → decode cL_hangs pc = .ok (.ireturn, 1) → va_P D vwCl (fl [tdW cI cC cE a o_t]) H → va_D A (fl [tdW cI cC cE a o_t]) → va_S A s.heap H locs → W p l e ({ frames := 6, cells := 0, slots := 0, locals := 140 } : Room) s m [.ref (a 0)].toArray below meth c H locs 0 0 Q (F0 m pc ls [.int r0])) (hz : narrow .boolean (.int r0) = .int r0) : ∀ (k : Nat), ∀ (x1 : Int32) (x2 : Int32) (x3 : Int32) (x4 : Int32) (x5 : Int32) (x6 : Int32) (x8 : Int32) (x9 : Int32) (x10 : Int32) (x11 : Int32) (x12 : Int32) (x13 : Int32) (x14 : Int32) (x15 : Int32) (x16 : Int32) (x17 : Int32) (x18 : Int32) (t : Td) (H : Heap) (locs : List Loc), va_P D vwCl (fl [tdW cI cC cE a t]) H → va_D A (fl [tdW cI cC cE a t]) → va_S A s.heap H locs → ∀ (ls : Array Slot), lv_has ls 22 [(0, .ref (a 0)), (1, .int x1), (2, .int x2), (3, .int x3), (4, .int x4), (5, .int x5), (6, .int x6), (8, .int x8), (9, .int x9), (10, .int x10), (11, .int x11), (12, .int x12), (13, .int x13), (14, .int x14), (15, .int x15), (16, .int x16), (17, .int x17), (18, .int x18)] → lp_L_hangs_523   k x1 x2 x3 x4 x5 x6 x8 x9 x10 x11 x12 x13 x14 x15 x16 x17 x18 t = some (r0, o_t) → W p l e ({ frames := 6, cells := 0, slots := 0, locals := 140 } : Room) s m [.ref (a 0)].toArray below meth c H locs 0 0 Q (F0 m 523 ls []) := by
  intro k
  induction k with
  | zero =>
    intro x1 x2 x3 x4 x5 x6 x8 x9 x10 x11 x12 x13 x14 x15 x16 x17 x18 t H locs hP hD hS ls hl h
    exact k_none h
  | succ k ih =>
    intro x1 x2 x3 x4 x5 x6 x8 x9 x10 x11 x12 x13 x14 x15 x16 x17 x18 t H locs hP hD hS ls hl h
    dsimp only [lp_L_hangs_523] at h
    refine lv_iload hx hb dL_hangs_523 (lv_at hl 17 rfl) ?_
    refine lv_iload hx hb dL_hangs_525 (lv_at hl 16 rfl) ?_
    refine lv_icmp_ge (tgt := 860) hx hb dL_hangs_527 (by decide) (fun c9 => ?_) (fun c9 => ?_)
    · have h := (k_iB h).1 c9
      exact (t_L_hangs_860 hx hb hml hown hts hK hA fin hz)   x1 x2 x3 x4 x5 x6 x8 x9 x10 x11 x12 x13 x14 x15 x16 x17 t _ _ hP hD hS _ (lv_sub hl [0, 1, 2, 3, 4, 5, 6, 7, 8, 9, 10, 11, 12, 13, 14, 15, 16] rfl) h
    · have h := (k_iB h).2 c9
      refine lv_iload hx hb dL_hangs_530 (lv_at hl 17 rfl) ?_
      refine lv_bipush (v := 40) hx hb dL_hangs_532 (by decide) ?_
      refine lv_icmp_ge (tgt := 860) hx hb dL_hangs_534 (by decide) (fun c82 => ?_) (fun c82 => ?_)
      · have h := (k_iB h).1 c82
        exact (t_L_hangs_860 hx hb hml hown hts hK hA fin hz)   x1 x2 x3 x4 x5 x6 x8 x9 x10 x11 x12 x13 x14 x15 x16 x17 t _ _ hP hD hS _ (lv_sub hl [0, 1, 2, 3, 4, 5, 6, 7, 8, 9, 10, 11, 12, 13, 14, 15, 16] rfl) h
      · have h := (k_iB h).2 c82
        refine lv_iload hx hb dL_hangs_537 (lv_at hl 6 rfl) ?_
        refine lv_if_eq (tgt := 860) hx hb dL_hangs_539 (by decide) (fun c83 => ?_) (fun c83 => ?_)
        · have h := (k_iB h).1 c83
          exact (t_L_hangs_860 hx hb hml hown hts hK hA fin hz)   x1 x2 x3 x4 x5 x6 x8 x9 x10 x11 x12 x13 x14 x15 x16 x17 t _ _ hP hD hS _ (lv_sub hl [0, 1, 2, 3, 4, 5, 6, 7, 8, 9, 10, 11, 12, 13, 14, 15, 16] rfl) h
        · have h := (k_iB h).2 c83
          refine lv_aload_n hx hb dL_hangs_542 rfl (lv_at hl 0 rfl) ?_
          refine lv_iload hx hb dL_hangs_543 (lv_at hl 17 rfl) ?_
          refine lv_iconst (v := 4) hx hb dL_hangs_545 (by decide) ?_
          obtain ⟨r84, hu85, h⟩ := ob1_el h
          refine kbi (ci := 5) (q := (RX5, TX5, 8)) (bs := [tdW cI cC cE a t]) (cs := [tdW cI cC cE a t]) (cs' := [tdW cI cC cE a t]) (bs1 := [tdW cI cC cE a t]) ⟨hx, hb, hml, hown, hts⟩ [0] [] (cq_answer l D cI cC cE a _ t x18 4 r84 hu85) (cwV 2 hts gL_hangs_X5_answer rfl rfl rfl (by decide +kernel) ⟨Nat.le_of_ble_eq_true rfl, Nat.le_of_ble_eq_true rfl⟩) hK hP hD hS hA rfl rfl rfl rfl rfl rfl rfl rfl rfl hl.1 rfl (Nat.le_of_ble_eq_true rfl) dL_hangs_546 ⟨Nat.le_refl 0, Nat.le_refl 0⟩ (fun H locs hP hD hS => ?_)
          refine lv_istore (lv' := [(19, .int r84), (0, .ref (a 0)), (1, .int x1), (2, .int x2), (3, .int x3), (4, .int x4), (5, .int x5), (6, .int x6), (8, .int x8), (9, .int x9), (10, .int x10), (11, .int x11), (12, .int x12), (13, .int x13), (14, .int x14), (15, .int x15), (16, .int x16), (17, .int x17), (18, .int x18)]) hx hb dL_hangs_549 hl (by decide) rfl (fun ls hl => ?_)
          refine lv_aload_n hx hb dL_hangs_551 rfl (lv_at hl 1 rfl) ?_
          refine lv_iload hx hb dL_hangs_552 (lv_at hl 18 rfl) ?_
          refine lv_bipush (v := 8) hx hb dL_hangs_554 (by decide) ?_
          obtain ⟨r86, hu87, h⟩ := ob1_el h
          refine kbi (ci := 5) (q := (RX5, TX5, 8)) (bs := [tdW cI cC cE a t]) (cs := [tdW cI cC cE a t]) (cs' := [tdW cI cC cE a t]) (bs1 := [tdW cI cC cE a t]) ⟨hx, hb, hml, hown, hts⟩ [0] [] (cq_answer l D cI cC cE a _ t x18 8 r86 hu87) (cwV 2 hts gL_hangs_X5_answer rfl rfl rfl (by decide +kernel) ⟨Nat.le_of_ble_eq_true rfl, Nat.le_of_ble_eq_true rfl⟩) hK hP hD hS hA rfl rfl rfl rfl rfl rfl rfl rfl rfl hl.1 rfl (Nat.le_of_ble_eq_true rfl) dL_hangs_556 ⟨Nat.le_refl 0, Nat.le_refl 0⟩ (fun H locs hP hD hS => ?_)
          refine lv_istore (lv' := [(20, .int r86), (19, .int r84), (0, .ref (a 0)), (1, .int x1), (2, .int x2), (3, .int x3), (4, .int x4), (5, .int x5), (6, .int x6), (8, .int x8), (9, .int x9), (10, .int x10), (11, .int x11), (12, .int x12), (13, .int x13), (14, .int x14), (15, .int x15), (16, .int x16), (17, .int x17), (18, .int x18)]) hx hb dL_hangs_559 hl (by decide) rfl (fun ls hl => ?_)
          refine lv_aload_n hx hb dL_hangs_561 rfl (lv_at hl 2 rfl) ?_
          refine lv_iload hx hb dL_hangs_562 (lv_at hl 19 rfl) ?_
          refine lv_iconst (v := 5) hx hb dL_hangs_564 (by decide) ?_
          obtain ⟨r88, hu89, h⟩ := ob1_el h
          refine kbi (ci := 5) (q := (RX5, TX5, 8)) (bs := [tdW cI cC cE a t]) (cs := [tdW cI cC cE a t]) (cs' := [tdW cI cC cE a t]) (bs1 := [tdW cI cC cE a t]) ⟨hx, hb, hml, hown, hts⟩ [0] [] (cq_answer l D cI cC cE a _ t x18 5 r88 hu89) (cwV 2 hts gL_hangs_X5_answer rfl rfl rfl (by decide +kernel) ⟨Nat.le_of_ble_eq_true rfl, Nat.le_of_ble_eq_true rfl⟩) hK hP hD hS hA rfl rfl rfl rfl rfl rfl rfl rfl rfl hl.1 rfl (Nat.le_of_ble_eq_true rfl) dL_hangs_565 ⟨Nat.le_refl 0, Nat.le_refl 0⟩ (fun H locs hP hD hS => ?_)
          refine lv_istore (lv' := [(21, .int r88), (20, .int r86), (19, .int r84), (0, .ref (a 0)), (1, .int x1), (2, .int x2), (3, .int x3), (4, .int x4), (5, .int x5), (6, .int x6), (8, .int x8), (9, .int x9), (10, .int x10), (11, .int x11), (12, .int x12), (13, .int x13), (14, .int x14), (15, .int x15), (16, .int x16), (17, .int x17), (18, .int x18)]) hx hb dL_hangs_568 hl (by decide) rfl (fun ls hl => ?_)
          refine lv_iload hx hb dL_hangs_570 (lv_at hl 2 rfl) ?_
          refine lv_if_lt (tgt := 793) hx hb dL_hangs_572 (by decide) (fun c90 => ?_) (fun c90 => ?_)
          · have h := (k_iB h).1 c90
            exact (t_L_hangs_793 hx hb hml hown hts hK hA fin hz) (lp_L_hangs_523   k) ih x1 x2 x3 x4 x5 x8 x9 x10 x11 x12 x13 x14 x15 x16 x17 x18 r84 t _ _ hP hD hS _ (lv_sub hl [3, 4, 5, 6, 7, 8, 10, 11, 12, 13, 14, 15, 16, 17, 18, 19, 20, 2] rfl) h
          · have h := (k_iB h).2 c90
            refine lv_iload hx hb dL_hangs_575 (lv_at hl 2 rfl) ?_
            refine lv_iconst (v := 3) hx hb dL_hangs_577 (by decide) ?_
            refine lv_icmp_ge (tgt := 793) hx hb dL_hangs_578 (by decide) (fun c97 => ?_) (fun c97 => ?_)
            · have h := (k_iB h).1 c97
              exact (t_L_hangs_793 hx hb hml hown hts hK hA fin hz) (lp_L_hangs_523   k) ih x1 x2 x3 x4 x5 x8 x9 x10 x11 x12 x13 x14 x15 x16 x17 x18 r84 t _ _ hP hD hS _ (lv_sub hl [3, 4, 5, 6, 7, 8, 10, 11, 12, 13, 14, 15, 16, 17, 18, 19, 20, 2] rfl) h
            · have h := (k_iB h).2 c97
              refine lv_iload hx hb dL_hangs_581 (lv_at hl 2 rfl) ?_
              refine lv_if_ne (tgt := 590) hx hb dL_hangs_583 (by decide) (fun c98 => ?_) (fun c98 => ?_)
              · have h := (k_iB h).2 c98
                refine lv_iconst (v := 0) hx hb dL_hangs_590 (by decide) ?_
                refine lv_iload hx hb dL_hangs_591 (lv_at hl 1 rfl) ?_
                refine lv_if_lt (tgt := 600) hx hb dL_hangs_593 (by decide) (fun c99 => ?_) (fun c99 => ?_)
                · have h := (k_iB h).1 c99
                  refine lv_iconst (v := 0) hx hb dL_hangs_600 (by decide) ?_
                  refine lv_icmp_ne (tgt := 793) hx hb dL_hangs_601 (by decide) (fun c => absurd c (by decide)) (fun _ => ?_)
                  exact (t_L_hangs_604 hx hb hml hown hts hK hA fin hz) (lp_L_hangs_523   k) ih x1 x2 x3 x4 x5 x8 x9 x10 x11 x12 x13 x14 x15 x16 x17 x18 r84 r86 r88 t _ _ hP hD hS _ (lv_sub hl [3, 4, 5, 6, 7, 8, 10, 11, 12, 13, 14, 15, 16, 17, 18, 19, 20, 2, 1, 0] rfl) h
                · have h := (k_iB h).2 c99
                  refine lv_iconst (v := 1) hx hb dL_hangs_596 (by decide) ?_
                  refine lv_goto (tgt := 601) hx hb dL_hangs_597 (by decide) ?_
                  refine lv_icmp_ne (tgt := 793) hx hb dL_hangs_601 (by decide) (fun _ => ?_) (fun c => absurd c (by decide))
                  exact (t_L_hangs_793 hx hb hml hown hts hK hA fin hz) (lp_L_hangs_523   k) ih x1 x2 x3 x4 x5 x8 x9 x10 x11 x12 x13 x14 x15 x16 x17 x18 r84 t _ _ hP hD hS _ (lv_sub hl [3, 4, 5, 6, 7, 8, 10, 11, 12, 13, 14, 15, 16, 17, 18, 19, 20, 2] rfl) h
              · have h := (k_iB h).1 c98
                refine lv_iconst (v := 1) hx hb dL_hangs_586 (by decide) ?_
                refine lv_goto (tgt := 591) hx hb dL_hangs_587 (by decide) ?_
                refine lv_iload hx hb dL_hangs_591 (lv_at hl 1 rfl) ?_
                refine lv_if_lt (tgt := 600) hx hb dL_hangs_593 (by decide) (fun c142 => ?_) (fun c142 => ?_)
                · have h := (k_iB h).1 c142
                  refine lv_iconst (v := 0) hx hb dL_hangs_600 (by decide) ?_
                  refine lv_icmp_ne (tgt := 793) hx hb dL_hangs_601 (by decide) (fun _ => ?_) (fun c => absurd c (by decide))
                  exact (t_L_hangs_793 hx hb hml hown hts hK hA fin hz) (lp_L_hangs_523   k) ih x1 x2 x3 x4 x5 x8 x9 x10 x11 x12 x13 x14 x15 x16 x17 x18 r84 t _ _ hP hD hS _ (lv_sub hl [3, 4, 5, 6, 7, 8, 10, 11, 12, 13, 14, 15, 16, 17, 18, 19, 20, 2] rfl) h
                · have h := (k_iB h).2 c142
                  refine lv_iconst (v := 1) hx hb dL_hangs_596 (by decide) ?_
                  refine lv_goto (tgt := 601) hx hb dL_hangs_597 (by decide) ?_
                  refine lv_icmp_ne (tgt := 793) hx hb dL_hangs_601 (by decide) (fun c => absurd c (by decide)) (fun _ => ?_)
                  exact (t_L_hangs_604 hx hb hml hown hts hK hA fin hz) (lp_L_hangs_523   k) ih x1 x2 x3 x4 x5 x8 x9 x10 x11 x12 x13 x14 x15 x16 x17 x18 r84 r86 r88 t _ _ hP hD hS _ (lv_sub hl [3, 4, 5, 6, 7, 8, 10, 11, 12, 13, 14, 15, 16, 17, 18, 19, 20, 2, 1, 0] rfl) h
set_option maxHeartbeats 16000000 in
set_option maxRecDepth 100000 in
theorem t_L_hangs_501 {p : Program} {l : Launch} {e : Env} {s : State} {m : MethodId} {below : List Frame} {meth : Method} {c : Code} {A : Nat → Prop} {Q : State → Prop} {D : va_G} {cI cC cE : ClassId} {a : Nat → Nat} {r0 : Int32} {o_t : Td} (hx : p.tables.exec = Jvm.exec) (hb : c.code = cL_hangs) (hml : c.maxLocals = 22) (hown : s.vm.findClass RL = some m.cls) (hts : ∀ w ∈ wsL_hangs, w.before [.ref (a 0)].toArray s = true) (hK : va_K D vwCl (kT cI cC cE) s) (hA : ∀ q, s.heap.size ≤ q → A q) (fin : ∀ (pc : Nat) (ls : Array Slot) (H : Heap) (locs : List Loc), (narrow .boolean (.int r0) = .int r0) → decode cL_hangs pc = .ok (.ireturn, 1) → va_P D vwCl (fl [tdW cI cC cE a o_t]) H → va_D A (fl [tdW cI cC cE a o_t]) → va_S A s.heap H locs → W p l e ({ frames := 6, cells := 0, slots := 0, locals := 140 } : Room) s m [.ref (a 0)].toArray below meth c H locs 0 0 Q (F0 m pc ls [.int r0])) (hz : narrow .boolean (.int r0) = .int r0) : ∀ (x1 : Int32) (x2 : Int32) (x3 : Int32) (x4 : Int32) (x5 : Int32) (x6 : Int32) (x8 : Int32) (x9 : Int32) (x10 : Int32) (x11 : Int32) (x12 : Int32) (t : Td) (H : Heap) (locs : List Loc), va_P D vwCl (fl [tdW cI cC cE a t]) H → va_D A (fl [tdW cI cC cE a t]) → va_S A s.heap H locs → ∀ (ls : Array Slot), lv_has ls 22 [(0, .ref (a 0)), (1, .int x1), (2, .int x2), (3, .int x3), (4, .int x4), (5, .int x5), (6, .int x6), (8, .int x8), (9, .int x9), (10, .int x10), (11, .int x11), (12, .int x12)] → j_L_hangs_501   x1 x2 x3 x4 x5 x6 x8 x9 x10 x11 x12 t = some (r0, o_t) → W p l e ({ frames := 6, cells := 0, slots := 0, locals := 140 } : Room) s m [.ref (a 0)].toArray below meth c H locs 0 0 Q (F0 m 501 ls []) := by
  intro x1 x2 x3 x4 x5 x6 x8 x9 x10 x11 x12 t H locs hP hD hS ls hl h
  dsimp only [j_L_hangs_501] at h
  refine lv_iconst (v := 0) hx hb dL_hangs_501 (by decide) ?_
  refine lv_istore (lv' := [(13, .int 0), (0, .ref (a 0)), (1, .int x1), (2, .int x2), (3, .int x3), (4, .int x4), (5, .int x5), (6, .int x6), (8, .int x8), (9, .int x9), (10, .int x10), (11, .int x11), (12, .int x12)]) hx hb dL_hangs_502 hl (by decide) rfl (fun ls hl => ?_)
  refine lv_iconst (v := 0) hx hb dL_hangs_504 (by decide) ?_
  refine lv_istore (lv' := [(14, .int 0), (13, .int 0), (0, .ref (a 0)), (1, .int x1), (2, .int x2), (3, .int x3), (4, .int x4), (5, .int x5), (6, .int x6), (8, .int x8), (9, .int x9), (10, .int x10), (11, .int x11), (12, .int x12)]) hx hb dL_hangs_505 hl (by decide) rfl (fun ls hl => ?_)
  refine lv_iconst (v := 0) hx hb dL_hangs_507 (by decide) ?_
  refine lv_istore (lv' := [(15, .int 0), (14, .int 0), (13, .int 0), (0, .ref (a 0)), (1, .int x1), (2, .int x2), (3, .int x3), (4, .int x4), (5, .int x5), (6, .int x6), (8, .int x8), (9, .int x9), (10, .int x10), (11, .int x11), (12, .int x12)]) hx hb dL_hangs_508 hl (by decide) rfl (fun ls hl => ?_)
  refine lv_iconst (v := 0) hx hb dL_hangs_510 (by decide) ?_
  refine lv_istore (lv' := [(16, .int 0), (15, .int 0), (14, .int 0), (13, .int 0), (0, .ref (a 0)), (1, .int x1), (2, .int x2), (3, .int x3), (4, .int x4), (5, .int x5), (6, .int x6), (8, .int x8), (9, .int x9), (10, .int x10), (11, .int x11), (12, .int x12)]) hx hb dL_hangs_511 hl (by decide) rfl (fun ls hl => ?_)
  refine lv_aload_n hx hb dL_hangs_513 rfl (lv_at hl 4 rfl) ?_
  refine lv_iconst (v := 3) hx hb dL_hangs_514 (by decide) ?_
  obtain ⟨r7, hu8, h⟩ := ob1_el h
  refine kbi (ci := 5) (q := (RX5, TX5, 8)) (bs := [tdW cI cC cE a t]) (cs := [tdW cI cC cE a t]) (cs' := [tdW cI cC cE a t]) (bs1 := [tdW cI cC cE a t]) ⟨hx, hb, hml, hown, hts⟩ [0] [] (cq_count l D cI cC cE a _ t 3 r7 hu8) (cwV 1 hts gL_hangs_X5_count rfl rfl rfl (by decide +kernel) ⟨Nat.le_of_ble_eq_true rfl, Nat.le_of_ble_eq_true rfl⟩) hK hP hD hS hA rfl rfl rfl rfl rfl rfl rfl rfl rfl hl.1 rfl (Nat.le_of_ble_eq_true rfl) dL_hangs_515 ⟨Nat.le_refl 0, Nat.le_refl 0⟩ (fun H locs hP hD hS => ?_)
  refine lv_istore (lv' := [(17, .int r7), (16, .int 0), (15, .int 0), (14, .int 0), (13, .int 0), (0, .ref (a 0)), (1, .int x1), (2, .int x2), (3, .int x3), (4, .int x4), (5, .int x5), (6, .int x6), (8, .int x8), (9, .int x9), (10, .int x10), (11, .int x11), (12, .int x12)]) hx hb dL_hangs_518 hl (by decide) rfl (fun ls hl => ?_)
  refine lv_iconst (v := 0) hx hb dL_hangs_520 (by decide) ?_
  refine lv_istore (lv' := [(18, .int 0), (17, .int r7), (16, .int 0), (15, .int 0), (14, .int 0), (13, .int 0), (0, .ref (a 0)), (1, .int x1), (2, .int x2), (3, .int x3), (4, .int x4), (5, .int x5), (6, .int x6), (8, .int x8), (9, .int x9), (10, .int x10), (11, .int x11), (12, .int x12)]) hx hb dL_hangs_521 hl (by decide) rfl (fun ls hl => ?_)
  exact (t_L_hangs_523 hx hb hml hown hts hK hA fin hz)   fuel x1 x2 x3 x4 x5 x6 x8 x9 x10 x11 x12 0 0 0 0 r7 0 t _ _ hP hD hS _ (lv_sub hl [6, 7, 8, 9, 10, 11, 12, 13, 14, 15, 16, 17, 5, 4, 3, 2, 1, 0] rfl) h
set_option maxHeartbeats 16000000 in
set_option maxRecDepth 100000 in
theorem t_L_hangs_471 {p : Program} {l : Launch} {e : Env} {s : State} {m : MethodId} {below : List Frame} {meth : Method} {c : Code} {A : Nat → Prop} {Q : State → Prop} {D : va_G} {cI cC cE : ClassId} {a : Nat → Nat} {r0 : Int32} {o_t : Td} (hx : p.tables.exec = Jvm.exec) (hb : c.code = cL_hangs) (hml : c.maxLocals = 22) (hown : s.vm.findClass RL = some m.cls) (hts : ∀ w ∈ wsL_hangs, w.before [.ref (a 0)].toArray s = true) (hK : va_K D vwCl (kT cI cC cE) s) (hA : ∀ q, s.heap.size ≤ q → A q) (fin : ∀ (pc : Nat) (ls : Array Slot) (H : Heap) (locs : List Loc), (narrow .boolean (.int r0) = .int r0) → decode cL_hangs pc = .ok (.ireturn, 1) → va_P D vwCl (fl [tdW cI cC cE a o_t]) H → va_D A (fl [tdW cI cC cE a o_t]) → va_S A s.heap H locs → W p l e ({ frames := 6, cells := 0, slots := 0, locals := 140 } : Room) s m [.ref (a 0)].toArray below meth c H locs 0 0 Q (F0 m pc ls [.int r0])) (hz : narrow .boolean (.int r0) = .int r0) : ∀ (LP291 : Int32 → Int32 → Int32 → Int32 → Int32 → Int32 → Int32 → Int32 → Int32 → Int32 → Int32 → Int32 → Td → Option (Int32 × Td)), (∀ (x1 : Int32) (x2 : Int32) (x3 : Int32) (x4 : Int32) (x5 : Int32) (x6 : Int32) (x8 : Int32) (x9 : Int32) (x10 : Int32) (x11 : Int32) (x12 : Int32) (x13 : Int32) (t : Td) (H : Heap) (locs : List Loc), va_P D vwCl (fl [tdW cI cC cE a t]) H → va_D A (fl [tdW cI cC cE a t]) → va_S A s.heap H locs → ∀ (ls : Array Slot), lv_has ls 22 [(0, .ref (a 0)), (1, .int x1), (2, .int x2), (3, .int x3), (4, .int x4), (5, .int x5), (6, .int x6), (8, .int x8), (9, .int x9), (10, .int x10), (11, .int x11), (12, .int x12), (13, .int x13)] → LP291 x1 x2 x3 x4 x5 x6 x8 x9 x10 x11 x12 x13 t = some (r0, o_t) → W p l e ({ frames := 6, cells := 0, slots := 0, locals := 140 } : Room) s m [.ref (a 0)].toArray below meth c H locs 0 0 Q (F0 m 291 ls [])) → ∀ (x1 : Int32) (x2 : Int32) (x3 : Int32) (x4 : Int32) (x5 : Int32) (x6 : Int32) (x8 : Int32) (x9 : Int32) (x10 : Int32) (x11 : Int32) (x12 : Int32) (x13 : Int32) (t : Td) (H : Heap) (locs : List Loc), va_P D vwCl (fl [tdW cI cC cE a t]) H → va_D A (fl [tdW cI cC cE a t]) → va_S A s.heap H locs → ∀ (ls : Array Slot), lv_has ls 22 [(0, .ref (a 0)), (1, .int x1), (2, .int x2), (3, .int x3), (4, .int x4), (5, .int x5), (6, .int x6), (8, .int x8), (9, .int x9), (10, .int x10), (11, .int x11), (12, .int x12), (13, .int x13)] → j_L_hangs_471 LP291  x1 x2 x3 x4 x5 x6 x8 x9 x10 x11 x12 x13 t = some (r0, o_t) → W p l e ({ frames := 6, cells := 0, slots := 0, locals := 140 } : Room) s m [.ref (a 0)].toArray below meth c H locs 0 0 Q (F0 m 471 ls []) := by
  intro LP291 hLP291
  intro x1 x2 x3 x4 x5 x6 x8 x9 x10 x11 x12 x13 t H locs hP hD hS ls hl h
  dsimp only [j_L_hangs_471] at h
  refine lv_iload hx hb dL_hangs_471 (lv_at hl 10 rfl) ?_
  refine lv_aload_n hx hb dL_hangs_473 rfl (lv_at hl 0 rfl) ?_
  refine lv_iload hx hb dL_hangs_474 (lv_at hl 12 rfl) ?_
  refine lv_iconst (v := 5) hx hb dL_hangs_476 (by decide) ?_
  obtain ⟨r152, hu153, h⟩ := ob1_el h
  refine kbi (ci := 5) (q := (RX5, TX5, 8)) (bs := [tdW cI cC cE a t]) (cs := [tdW cI cC cE a t]) (cs' := [tdW cI cC cE a t]) (bs1 := [tdW cI cC cE a t]) ⟨hx, hb, hml, hown, hts⟩ [0] [] (cq_riddle l D cI cC cE a _ t x13 5 r152 hu153) (cwV 2 hts gL_hangs_X5_riddle rfl rfl rfl (by decide +kernel) ⟨Nat.le_of_ble_eq_true rfl, Nat.le_of_ble_eq_true rfl⟩) hK hP hD hS hA rfl rfl rfl rfl rfl rfl rfl rfl rfl hl.1 rfl (Nat.le_of_ble_eq_true rfl) dL_hangs_477 ⟨Nat.le_refl 0, Nat.le_refl 0⟩ (fun H locs hP hD hS => ?_)
  refine lv_iadd hx hb dL_hangs_480 ?_
  refine lv_istore (lv' := [(11, .int (x11 + r152)), (0, .ref (a 0)), (1, .int x1), (2, .int x2), (3, .int x3), (4, .int x4), (5, .int x5), (6, .int x6), (8, .int x8), (9, .int x9), (10, .int x10), (12, .int x12), (13, .int x13)]) hx hb dL_hangs_481 hl (by decide) rfl (fun ls hl => ?_)
  refine lv_iload hx hb dL_hangs_483 (lv_at hl 11 rfl) ?_
  refine lv_aload_n hx hb dL_hangs_485 rfl (lv_at hl 1 rfl) ?_
  refine lv_iload hx hb dL_hangs_486 (lv_at hl 12 rfl) ?_
  refine lv_iconst (v := 4) hx hb dL_hangs_488 (by decide) ?_
  obtain ⟨r154, hu155, h⟩ := ob1_el h
  refine kbi (ci := 5) (q := (RX5, TX5, 8)) (bs := [tdW cI cC cE a t]) (cs := [tdW cI cC cE a t]) (cs' := [tdW cI cC cE a t]) (bs1 := [tdW cI cC cE a t]) ⟨hx, hb, hml, hown, hts⟩ [0] [] (cq_riddle l D cI cC cE a _ t x13 4 r154 hu155) (cwV 2 hts gL_hangs_X5_riddle rfl rfl rfl (by decide +kernel) ⟨Nat.le_of_ble_eq_true rfl, Nat.le_of_ble_eq_true rfl⟩) hK hP hD hS hA rfl rfl rfl rfl rfl rfl rfl rfl rfl hl.1 rfl (Nat.le_of_ble_eq_true rfl) dL_hangs_489 ⟨Nat.le_refl 0, Nat.le_refl 0⟩ (fun H locs hP hD hS => ?_)
  refine lv_iadd hx hb dL_hangs_492 ?_
  refine lv_istore (lv' := [(12, .int (x12 + r154)), (11, .int (x11 + r152)), (0, .ref (a 0)), (1, .int x1), (2, .int x2), (3, .int x3), (4, .int x4), (5, .int x5), (6, .int x6), (8, .int x8), (9, .int x9), (10, .int x10), (13, .int x13)]) hx hb dL_hangs_493 hl (by decide) rfl (fun ls hl => ?_)
  refine lv_iinc (v := (x13 + 1)) (lv' := [(13, .int (x13 + 1)), (12, .int (x12 + r154)), (11, .int (x11 + r152)), (0, .ref (a 0)), (1, .int x1), (2, .int x2), (3, .int x3), (4, .int x4), (5, .int x5), (6, .int x6), (8, .int x8), (9, .int x9), (10, .int x10)]) hx hb dL_hangs_495 hl (k := 12) rfl rfl (by decide) rfl (fun ls hl => ?_)
  refine lv_goto (tgt := 291) hx hb dL_hangs_498 (by decide) ?_
  exact hLP291 x1 x2 x3 x4 x5 x6 x8 x9 x10 (x11 + r152) (x12 + r154) (x13 + 1) t _ _ hP hD hS _ (lv_sub hl [3, 4, 5, 6, 7, 8, 9, 10, 11, 12, 2, 1, 0] rfl) h
set_option maxHeartbeats 16000000 in
set_option maxRecDepth 100000 in
theorem t_L_hangs_455 {p : Program} {l : Launch} {e : Env} {s : State} {m : MethodId} {below : List Frame} {meth : Method} {c : Code} {A : Nat → Prop} {Q : State → Prop} {D : va_G} {cI cC cE : ClassId} {a : Nat → Nat} {r0 : Int32} {o_t : Td} (hx : p.tables.exec = Jvm.exec) (hb : c.code = cL_hangs) (hml : c.maxLocals = 22) (hown : s.vm.findClass RL = some m.cls) (hts : ∀ w ∈ wsL_hangs, w.before [.ref (a 0)].toArray s = true) (hK : va_K D vwCl (kT cI cC cE) s) (hA : ∀ q, s.heap.size ≤ q → A q) (fin : ∀ (pc : Nat) (ls : Array Slot) (H : Heap) (locs : List Loc), (narrow .boolean (.int r0) = .int r0) → decode cL_hangs pc = .ok (.ireturn, 1) → va_P D vwCl (fl [tdW cI cC cE a o_t]) H → va_D A (fl [tdW cI cC cE a o_t]) → va_S A s.heap H locs → W p l e ({ frames := 6, cells := 0, slots := 0, locals := 140 } : Room) s m [.ref (a 0)].toArray below meth c H locs 0 0 Q (F0 m pc ls [.int r0])) (hz : narrow .boolean (.int r0) = .int r0) : ∀ (LP291 : Int32 → Int32 → Int32 → Int32 → Int32 → Int32 → Int32 → Int32 → Int32 → Int32 → Int32 → Int32 → Td → Option (Int32 × Td)), (∀ (x1 : Int32) (x2 : Int32) (x3 : Int32) (x4 : Int32) (x5 : Int32) (x6 : Int32) (x8 : Int32) (x9 : Int32) (x10 : Int32) (x11 : Int32) (x12 : Int32) (x13 : Int32) (t : Td) (H : Heap) (locs : List Loc), va_P D vwCl (fl [tdW cI cC cE a t]) H → va_D A (fl [tdW cI cC cE a t]) → va_S A s.heap H locs → ∀ (ls : Array Slot), lv_has ls 22 [(0, .ref (a 0)), (1, .int x1), (2, .int x2), (3, .int x3), (4, .int x4), (5, .int x5), (6, .int x6), (8, .int x8), (9, .int x9), (10, .int x10), (11, .int x11), (12, .int x12), (13, .int x13)] → LP291 x1 x2 x3 x4 x5 x6 x8 x9 x10 x11 x12 x13 t = some (r0, o_t) → W p l e ({ frames := 6, cells := 0, slots := 0, locals := 140 } : Room) s m [.ref (a 0)].toArray below meth c H locs 0 0 Q (F0 m 291 ls [])) → ∀ (x1 : Int32) (x2 : Int32) (x3 : Int32) (x4 : Int32) (x5 : Int32) (x6 : Int32) (x8 : Int32) (x9 : Int32) (x10 : Int32) (x11 : Int32) (x12 : Int32) (x13 : Int32) (x14 : Int32) (t : Td) (H : Heap) (locs : List Loc), va_P D vwCl (fl [tdW cI cC cE a t]) H → va_D A (fl [tdW cI cC cE a t]) → va_S A s.heap H locs → ∀ (ls : Array Slot), lv_has ls 22 [(0, .ref (a 0)), (1, .int x1), (2, .int x2), (3, .int x3), (4, .int x4), (5, .int x5), (6, .int x6), (8, .int x8), (9, .int x9), (10, .int x10), (11, .int x11), (12, .int x12), (13, .int x13), (14, .int x14)] → j_L_hangs_455 LP291  x1 x2 x3 x4 x5 x6 x8 x9 x10 x11 x12 x13 x14 t = some (r0, o_t) → W p l e ({ frames := 6, cells := 0, slots := 0, locals := 140 } : Room) s m [.ref (a 0)].toArray below meth c H locs 0 0 Q (F0 m 455 ls []) := by
  intro LP291 hLP291
  intro x1 x2 x3 x4 x5 x6 x8 x9 x10 x11 x12 x13 x14 t H locs hP hD hS ls hl h
  dsimp only [j_L_hangs_455] at h
  refine lv_iload hx hb dL_hangs_455 (lv_at hl 9 rfl) ?_
  refine lv_iload hx hb dL_hangs_457 (lv_at hl 13 rfl) ?_
  refine lv_iconst (v := 1) hx hb dL_hangs_459 (by decide) ?_
  refine lv_icmp_ne (tgt := 467) hx hb dL_hangs_460 (by decide) (fun c151 => ?_) (fun c151 => ?_)
  · have h := (k_iB h).2 c151
    refine lv_iconst (v := 0) hx hb dL_hangs_467 (by decide) ?_
    refine lv_iadd hx hb dL_hangs_468 ?_
    refine lv_istore (lv' := [(10, .int (x10 + 0)), (0, .ref (a 0)), (1, .int x1), (2, .int x2), (3, .int x3), (4, .int x4), (5, .int x5), (6, .int x6), (8, .int x8), (9, .int x9), (11, .int x11), (12, .int x12), (13, .int x13), (14, .int x14)]) hx hb dL_hangs_469 hl (by decide) rfl (fun ls hl => ?_)
    exact (t_L_hangs_471 hx hb hml hown hts hK hA fin hz) LP291 hLP291 x1 x2 x3 x4 x5 x6 x8 x9 (x10 + 0) x11 x12 x13 t _ _ hP hD hS _ (lv_sub hl [1, 2, 3, 4, 5, 6, 7, 8, 9, 0, 10, 11, 12] rfl) h
  · have h := (k_iB h).1 c151
    refine lv_iconst (v := 1) hx hb dL_hangs_463 (by decide) ?_
    refine lv_goto (tgt := 468) hx hb dL_hangs_464 (by decide) ?_
    refine lv_iadd hx hb dL_hangs_468 ?_
    refine lv_istore (lv' := [(10, .int (x10 + 1)), (0, .ref (a 0)), (1, .int x1), (2, .int x2), (3, .int x3), (4, .int x4), (5, .int x5), (6, .int x6), (8, .int x8), (9, .int x9), (11, .int x11), (12, .int x12), (13, .int x13), (14, .int x14)]) hx hb dL_hangs_469 hl (by decide) rfl (fun ls hl => ?_)
    exact (t_L_hangs_471 hx hb hml hown hts hK hA fin hz) LP291 hLP291 x1 x2 x3 x4 x5 x6 x8 x9 (x10 + 1) x11 x12 x13 t _ _ hP hD hS _ (lv_sub hl [1, 2, 3, 4, 5, 6, 7, 8, 9, 0, 10, 11, 12] rfl) h
set_option maxHeartbeats 16000000 in
set_option maxRecDepth 100000 in
theorem t_L_hangs_440 {p : Program} {l : Launch} {e : Env} {s : State} {m : MethodId} {below : List Frame} {meth : Method} {c : Code} {A : Nat → Prop} {Q : State → Prop} {D : va_G} {cI cC cE : ClassId} {a : Nat → Nat} {r0 : Int32} {o_t : Td} (hx : p.tables.exec = Jvm.exec) (hb : c.code = cL_hangs) (hml : c.maxLocals = 22) (hown : s.vm.findClass RL = some m.cls) (hts : ∀ w ∈ wsL_hangs, w.before [.ref (a 0)].toArray s = true) (hK : va_K D vwCl (kT cI cC cE) s) (hA : ∀ q, s.heap.size ≤ q → A q) (fin : ∀ (pc : Nat) (ls : Array Slot) (H : Heap) (locs : List Loc), (narrow .boolean (.int r0) = .int r0) → decode cL_hangs pc = .ok (.ireturn, 1) → va_P D vwCl (fl [tdW cI cC cE a o_t]) H → va_D A (fl [tdW cI cC cE a o_t]) → va_S A s.heap H locs → W p l e ({ frames := 6, cells := 0, slots := 0, locals := 140 } : Room) s m [.ref (a 0)].toArray below meth c H locs 0 0 Q (F0 m pc ls [.int r0])) (hz : narrow .boolean (.int r0) = .int r0) : ∀ (LP291 : Int32 → Int32 → Int32 → Int32 → Int32 → Int32 → Int32 → Int32 → Int32 → Int32 → Int32 → Int32 → Td → Option (Int32 × Td)), (∀ (x1 : Int32) (x2 : Int32) (x3 : Int32) (x4 : Int32) (x5 : Int32) (x6 : Int32) (x8 : Int32) (x9 : Int32) (x10 : Int32) (x11 : Int32) (x12 : Int32) (x13 : Int32) (t : Td) (H : Heap) (locs : List Loc), va_P D vwCl (fl [tdW cI cC cE a t]) H → va_D A (fl [tdW cI cC cE a t]) → va_S A s.heap H locs → ∀ (ls : Array Slot), lv_has ls 22 [(0, .ref (a 0)), (1, .int x1), (2, .int x2), (3, .int x3), (4, .int x4), (5, .int x5), (6, .int x6), (8, .int x8), (9, .int x9), (10, .int x10), (11, .int x11), (12, .int x12), (13, .int x13)] → LP291 x1 x2 x3 x4 x5 x6 x8 x9 x10 x11 x12 x13 t = some (r0, o_t) → W p l e ({ frames := 6, cells := 0, slots := 0, locals := 140 } : Room) s m [.ref (a 0)].toArray below meth c H locs 0 0 Q (F0 m 291 ls [])) → ∀ (x1 : Int32) (x2 : Int32) (x3 : Int32) (x4 : Int32) (x5 : Int32) (x6 : Int32) (x8 : Int32) (x9 : Int32) (x10 : Int32) (x11 : Int32) (x12 : Int32) (x13 : Int32) (x14 : Int32) (t : Td) (H : Heap) (locs : List Loc), va_P D vwCl (fl [tdW cI cC cE a t]) H → va_D A (fl [tdW cI cC cE a t]) → va_S A s.heap H locs → ∀ (ls : Array Slot), lv_has ls 22 [(0, .ref (a 0)), (1, .int x1), (2, .int x2), (3, .int x3), (4, .int x4), (5, .int x5), (6, .int x6), (8, .int x8), (9, .int x9), (10, .int x10), (11, .int x11), (12, .int x12), (13, .int x13), (14, .int x14)] → j_L_hangs_440 LP291  x1 x2 x3 x4 x5 x6 x8 x9 x10 x11 x12 x13 x14 t = some (r0, o_t) → W p l e ({ frames := 6, cells := 0, slots := 0, locals := 140 } : Room) s m [.ref (a 0)].toArray below meth c H locs 0 0 Q (F0 m 440 ls []) := by
  intro LP291 hLP291
  intro x1 x2 x3 x4 x5 x6 x8 x9 x10 x11 x12 x13 x14 t H locs hP hD hS ls hl h
  dsimp only [j_L_hangs_440] at h
  refine lv_iload hx hb dL_hangs_440 (lv_at hl 8 rfl) ?_
  refine lv_iload hx hb dL_hangs_442 (lv_at hl 13 rfl) ?_
  refine lv_if_ne (tgt := 451) hx hb dL_hangs_444 (by decide) (fun c150 => ?_) (fun c150 => ?_)
  · have h := (k_iB h).2 c150
    refine lv_iconst (v := 0) hx hb dL_hangs_451 (by decide) ?_
    refine lv_iadd hx hb dL_hangs_452 ?_
    refine lv_istore (lv' := [(9, .int (x9 + 0)), (0, .ref (a 0)), (1, .int x1), (2, .int x2), (3, .int x3), (4, .int x4), (5, .int x5), (6, .int x6), (8, .int x8), (10, .int x10), (11, .int x11), (12, .int x12), (13, .int x13), (14, .int x14)]) hx hb dL_hangs_453 hl (by decide) rfl (fun ls hl => ?_)
    exact (t_L_hangs_455 hx hb hml hown hts hK hA fin hz) LP291 hLP291 x1 x2 x3 x4 x5 x6 x8 (x9 + 0) x10 x11 x12 x13 x14 t _ _ hP hD hS _ (lv_sub hl [1, 2, 3, 4, 5, 6, 7, 8, 0, 9, 10, 11, 12, 13] rfl) h
  · have h := (k_iB h).1 c150
    refine lv_iconst (v := 1) hx hb dL_hangs_447 (by decide) ?_
    refine lv_goto (tgt := 452) hx hb dL_hangs_448 (by decide) ?_
    refine lv_iadd hx hb dL_hangs_452 ?_
    refine lv_istore (lv' := [(9, .int (x9 + 1)), (0, .ref (a 0)), (1, .int x1), (2, .int x2), (3, .int x3), (4, .int x4), (5, .int x5), (6, .int x6), (8, .int x8), (10, .int x10), (11, .int x11), (12, .int x12), (13, .int x13), (14, .int x14)]) hx hb dL_hangs_453 hl (by decide) rfl (fun ls hl => ?_)
    exact (t_L_hangs_455 hx hb hml hown hts hK hA fin hz) LP291 hLP291 x1 x2 x3 x4 x5 x6 x8 (x9 + 1) x10 x11 x12 x13 x14 t _ _ hP hD hS _ (lv_sub hl [1, 2, 3, 4, 5, 6, 7, 8, 0, 9, 10, 11, 12, 13] rfl) h
set_option maxHeartbeats 16000000 in
set_option maxRecDepth 100000 in
theorem t_L_hangs_437 {p : Program} {l : Launch} {e : Env} {s : State} {m : MethodId} {below : List Frame} {meth : Method} {c : Code} {A : Nat → Prop} {Q : State → Prop} {D : va_G} {cI cC cE : ClassId} {a : Nat → Nat} {r0 : Int32} {o_t : Td} (hx : p.tables.exec = Jvm.exec) (hb : c.code = cL_hangs) (hml : c.maxLocals = 22) (hown : s.vm.findClass RL = some m.cls) (hts : ∀ w ∈ wsL_hangs, w.before [.ref (a 0)].toArray s = true) (hK : va_K D vwCl (kT cI cC cE) s) (hA : ∀ q, s.heap.size ≤ q → A q) (fin : ∀ (pc : Nat) (ls : Array Slot) (H : Heap) (locs : List Loc), (narrow .boolean (.int r0) = .int r0) → decode cL_hangs pc = .ok (.ireturn, 1) → va_P D vwCl (fl [tdW cI cC cE a o_t]) H → va_D A (fl [tdW cI cC cE a o_t]) → va_S A s.heap H locs → W p l e ({ frames := 6, cells := 0, slots := 0, locals := 140 } : Room) s m [.ref (a 0)].toArray below meth c H locs 0 0 Q (F0 m pc ls [.int r0])) (hz : narrow .boolean (.int r0) = .int r0) : ∀ (LP291 : Int32 → Int32 → Int32 → Int32 → Int32 → Int32 → Int32 → Int32 → Int32 → Int32 → Int32 → Int32 → Td → Option (Int32 × Td)), (∀ (x1 : Int32) (x2 : Int32) (x3 : Int32) (x4 : Int32) (x5 : Int32) (x6 : Int32) (x8 : Int32) (x9 : Int32) (x10 : Int32) (x11 : Int32) (x12 : Int32) (x13 : Int32) (t : Td) (H : Heap) (locs : List Loc), va_P D vwCl (fl [tdW cI cC cE a t]) H → va_D A (fl [tdW cI cC cE a t]) → va_S A s.heap H locs → ∀ (ls : Array Slot), lv_has ls 22 [(0, .ref (a 0)), (1, .int x1), (2, .int x2), (3, .int x3), (4, .int x4), (5, .int x5), (6, .int x6), (8, .int x8), (9, .int x9), (10, .int x10), (11, .int x11), (12, .int x12), (13, .int x13)] → LP291 x1 x2 x3 x4 x5 x6 x8 x9 x10 x11 x12 x13 t = some (r0, o_t) → W p l e ({ frames := 6, cells := 0, slots := 0, locals := 140 } : Room) s m [.ref (a 0)].toArray below meth c H locs 0 0 Q (F0 m 291 ls [])) → ∀ (x1 : Int32) (x2 : Int32) (x3 : Int32) (x4 : Int32) (x5 : Int32) (x8 : Int32) (x9 : Int32) (x10 : Int32) (x11 : Int32) (x12 : Int32) (x13 : Int32) (x14 : Int32) (t : Td) (H : Heap) (locs : List Loc), va_P D vwCl (fl [tdW cI cC cE a t]) H → va_D A (fl [tdW cI cC cE a t]) → va_S A s.heap H locs → ∀ (ls : Array Slot), lv_has ls 22 [(0, .ref (a 0)), (1, .int x1), (2, .int x2), (3, .int x3), (4, .int x4), (5, .int x5), (8, .int x8), (9, .int x9), (10, .int x10), (11, .int x11), (12, .int x12), (13, .int x13), (14, .int x14)] → j_L_hangs_437 LP291  x1 x2 x3 x4 x5 x8 x9 x10 x11 x12 x13 x14 t = some (r0, o_t) → W p l e ({ frames := 6, cells := 0, slots := 0, locals := 140 } : Room) s m [.ref (a 0)].toArray below meth c H locs 0 0 Q (F0 m 437 ls []) := by
  intro LP291 hLP291
  intro x1 x2 x3 x4 x5 x8 x9 x10 x11 x12 x13 x14 t H locs hP hD hS ls hl h
  dsimp only [j_L_hangs_437] at h
  refine lv_iconst (v := 0) hx hb dL_hangs_437 (by decide) ?_
  refine lv_istore (lv' := [(6, .int 0), (0, .ref (a 0)), (1, .int x1), (2, .int x2), (3, .int x3), (4, .int x4), (5, .int x5), (8, .int x8), (9, .int x9), (10, .int x10), (11, .int x11), (12, .int x12), (13, .int x13), (14, .int x14)]) hx hb dL_hangs_438 hl (by decide) rfl (fun ls hl => ?_)
  exact (t_L_hangs_440 hx hb hml hown hts hK hA fin hz) LP291 hLP291 x1 x2 x3 x4 x5 0 x8 x9 x10 x11 x12 x13 x14 t _ _ hP hD hS _ (lv_sub hl [1, 2, 3, 4, 5, 6, 0, 7, 8, 9, 10, 11, 12, 13] rfl) h
set_option maxHeartbeats 16000000 in
set_option maxRecDepth 100000 in
theorem t_L_hangs_394 {p : Program} {l : Launch} {e : Env} {s : State} {m : MethodId} {below : List Frame} {meth : Method} {c : Code} {A : Nat → Prop} {Q : State → Prop} {D : va_G} {cI cC cE : ClassId} {a : Nat → Nat} {r0 : Int32} {o_t : Td} (hx : p.tables.exec = Jvm.exec) (hb : c.code = cL_hangs) (hml : c.maxLocals = 22) (hown : s.vm.findClass RL = some m.cls) (hts : ∀ w ∈ wsL_hangs, w.before [.ref (a 0)].toArray s = true) (hK : va_K D vwCl (kT cI cC cE) s) (hA : ∀ q, s.heap.size ≤ q → A q) (fin : ∀ (pc : Nat) (ls : Array Slot) (H : Heap) (locs : List Loc), (narrow .boolean (.int r0) = .int r0) → decode cL_hangs pc = .ok (.ireturn, 1) → va_P D vwCl (fl [tdW cI cC cE a o_t]) H → va_D A (fl [tdW cI cC cE a o_t]) → va_S A s.heap H locs → W p l e ({ frames := 6, cells := 0, slots := 0, locals := 140 } : Room) s m [.ref (a 0)].toArray below meth c H locs 0 0 Q (F0 m pc ls [.int r0])) (hz : narrow .boolean (.int r0) = .int r0) : ∀ (LP291 : Int32 → Int32 → Int32 → Int32 → Int32 → Int32 → Int32 → Int32 → Int32 → Int32 → Int32 → Int32 → Td → Option (Int32 × Td)), (∀ (x1 : Int32) (x2 : Int32) (x3 : Int32) (x4 : Int32) (x5 : Int32) (x6 : Int32) (x8 : Int32) (x9 : Int32) (x10 : Int32) (x11 : Int32) (x12 : Int32) (x13 : Int32) (t : Td) (H : Heap) (locs : List Loc), va_P D vwCl (fl [tdW cI cC cE a t]) H → va_D A (fl [tdW cI cC cE a t]) → va_S A s.heap H locs → ∀ (ls : Array Slot), lv_has ls 22 [(0, .ref (a 0)), (1, .int x1), (2, .int x2), (3, .int x3), (4, .int x4), (5, .int x5), (6, .int x6), (8, .int x8), (9, .int x9), (10, .int x10), (11, .int x11), (12, .int x12), (13, .int x13)] → LP291 x1 x2 x3 x4 x5 x6 x8 x9 x10 x11 x12 x13 t = some (r0, o_t) → W p l e ({ frames := 6, cells := 0, slots := 0, locals := 140 } : Room) s m [.ref (a 0)].toArray below meth c H locs 0 0 Q (F0 m 291 ls [])) → ∀ (x1 : Int32) (x2 : Int32) (x3 : Int32) (x4 : Int32) (x5 : Int32) (x8 : Int32) (x9 : Int32) (x10 : Int32) (x11 : Int32) (x12 : Int32) (x13 : Int32) (x14 : Int32) (t : Td) (H : Heap) (locs : List Loc), va_P D vwCl (fl [tdW cI cC cE a t]) H → va_D A (fl [tdW cI cC cE a t]) → va_S A s.heap H locs → ∀ (ls : Array Slot), lv_has ls 22 [(0, .ref (a 0)), (1, .int x1), (2, .int x2), (3, .int x3), (4, .int x4), (5, .int x5), (8, .int x8), (9, .int x9), (10, .int x10), (11, .int x11), (12, .int x12), (13, .int x13), (14, .int x14)] → j_L_hangs_394 LP291  x1 x2 x3 x4 x5 x8 x9 x10 x11 x12 x13 x14 t = some (r0, o_t) → W p l e ({ frames := 6, cells := 0, slots := 0, locals := 140 } : Room) s m [.ref (a 0)].toArray below meth c H locs 0 0 Q (F0 m 394 ls []) := by
  intro LP291 hLP291
  intro x1 x2 x3 x4 x5 x8 x9 x10 x11 x12 x13 x14 t H locs hP hD hS ls hl h
  dsimp only [j_L_hangs_394] at h
  refine lv_aload_n hx hb dL_hangs_394 rfl (lv_at hl 0 rfl) ?_
  refine lv_iload hx hb dL_hangs_395 (lv_at hl 11 rfl) ?_
  refine lv_iconst (v := 1) hx hb dL_hangs_397 (by decide) ?_
  obtain ⟨r160, hu161, h⟩ := ob1_el h
  refine kbi (ci := 5) (q := (RX5, TX5, 8)) (bs := [tdW cI cC cE a t]) (cs := [tdW cI cC cE a t]) (cs' := [tdW cI cC cE a t]) (bs1 := [tdW cI cC cE a t]) ⟨hx, hb, hml, hown, hts⟩ [0] [] (cq_riddle l D cI cC cE a _ t x13 1 r160 hu161) (cwV 2 hts gL_hangs_X5_riddle rfl rfl rfl (by decide +kernel) ⟨Nat.le_of_ble_eq_true rfl, Nat.le_of_ble_eq_true rfl⟩) hK hP hD hS hA rfl rfl rfl rfl rfl rfl rfl rfl rfl hl.1 rfl (Nat.le_of_ble_eq_true rfl) dL_hangs_398 ⟨Nat.le_refl 0, Nat.le_refl 0⟩ (fun H locs hP hD hS => ?_)
  refine lv_if_le (tgt := 437) hx hb dL_hangs_401 (by decide) (fun c162 => ?_) (fun c162 => ?_)
  · have h := (k_iB h).1 c162
    exact (t_L_hangs_437 hx hb hml hown hts hK hA fin hz) LP291 hLP291 x1 x2 x3 x4 x5 x8 x9 x10 x11 x12 x13 x14 t _ _ hP hD hS _ (lv_sub hl [0, 1, 2, 3, 4, 5, 6, 7, 8, 9, 10, 11, 12] rfl) h
  · have h := (k_iB h).2 c162
    refine lv_aload_n hx hb dL_hangs_404 rfl (lv_at hl 0 rfl) ?_
    refine lv_iload hx hb dL_hangs_405 (lv_at hl 11 rfl) ?_
    refine lv_iconst (v := 1) hx hb dL_hangs_407 (by decide) ?_
    obtain ⟨r163, hu164, h⟩ := ob1_el h
    refine kbi (ci := 5) (q := (RX5, TX5, 8)) (bs := [tdW cI cC cE a t]) (cs := [tdW cI cC cE a t]) (cs' := [tdW cI cC cE a t]) (bs1 := [tdW cI cC cE a t]) ⟨hx, hb, hml, hown, hts⟩ [0] [] (cq_riddle l D cI cC cE a _ t x13 1 r163 hu164) (cwV 2 hts gL_hangs_X5_riddle rfl rfl rfl (by decide +kernel) ⟨Nat.le_of_ble_eq_true rfl, Nat.le_of_ble_eq_true rfl⟩) hK hP hD hS hA rfl rfl rfl rfl rfl rfl rfl rfl rfl hl.1 rfl (Nat.le_of_ble_eq_true rfl) dL_hangs_408 ⟨Nat.le_refl 0, Nat.le_refl 0⟩ (fun H locs hP hD hS => ?_)
    refine lv_bipush (v := 51) hx hb dL_hangs_411 (by decide) ?_
    refine lv_icmp_ge (tgt := 437) hx hb dL_hangs_413 (by decide) (fun c165 => ?_) (fun c165 => ?_)
    · have h := (k_iB h).1 c165
      exact (t_L_hangs_437 hx hb hml hown hts hK hA fin hz) LP291 hLP291 x1 x2 x3 x4 x5 x8 x9 x10 x11 x12 x13 x14 t _ _ hP hD hS _ (lv_sub hl [0, 1, 2, 3, 4, 5, 6, 7, 8, 9, 10, 11, 12] rfl) h
    · have h := (k_iB h).2 c165
      refine lv_aload_n hx hb dL_hangs_416 rfl (lv_at hl 0 rfl) ?_
      refine lv_iload hx hb dL_hangs_417 (lv_at hl 11 rfl) ?_
      refine lv_iconst (v := 5) hx hb dL_hangs_419 (by decide) ?_
      obtain ⟨r166, hu167, h⟩ := ob1_el h
      refine kbi (ci := 5) (q := (RX5, TX5, 8)) (bs := [tdW cI cC cE a t]) (cs := [tdW cI cC cE a t]) (cs' := [tdW cI cC cE a t]) (bs1 := [tdW cI cC cE a t]) ⟨hx, hb, hml, hown, hts⟩ [0] [] (cq_riddle l D cI cC cE a _ t x13 5 r166 hu167) (cwV 2 hts gL_hangs_X5_riddle rfl rfl rfl (by decide +kernel) ⟨Nat.le_of_ble_eq_true rfl, Nat.le_of_ble_eq_true rfl⟩) hK hP hD hS hA rfl rfl rfl rfl rfl rfl rfl rfl rfl hl.1 rfl (Nat.le_of_ble_eq_true rfl) dL_hangs_420 ⟨Nat.le_refl 0, Nat.le_refl 0⟩ (fun H locs hP hD hS => ?_)
      refine lv_aload_n hx hb dL_hangs_423 rfl (lv_at hl 0 rfl) ?_
      refine lv_iload hx hb dL_hangs_424 (lv_at hl 11 rfl) ?_
      refine lv_iconst (v := 4) hx hb dL_hangs_426 (by decide) ?_
      obtain ⟨r168, hu169, h⟩ := ob1_el h
      refine kbi (ci := 5) (q := (RX5, TX5, 8)) (bs := [tdW cI cC cE a t]) (cs := [tdW cI cC cE a t]) (cs' := [tdW cI cC cE a t]) (bs1 := [tdW cI cC cE a t]) ⟨hx, hb, hml, hown, hts⟩ [0] [] (cq_riddle l D cI cC cE a _ t x13 4 r168 hu169) (cwV 2 hts gL_hangs_X5_riddle rfl rfl rfl (by decide +kernel) ⟨Nat.le_of_ble_eq_true rfl, Nat.le_of_ble_eq_true rfl⟩) hK hP hD hS hA rfl rfl rfl rfl rfl rfl rfl rfl rfl hl.1 rfl (Nat.le_of_ble_eq_true rfl) dL_hangs_427 ⟨Nat.le_refl 0, Nat.le_refl 0⟩ (fun H locs hP hD hS => ?_)
      refine lv_icmp_gt (tgt := 437) hx hb dL_hangs_430 (by decide) (fun c170 => ?_) (fun c170 => ?_)
      · have h := (k_iB h).1 c170
        exact (t_L_hangs_437 hx hb hml hown hts hK hA fin hz) LP291 hLP291 x1 x2 x3 x4 x5 x8 x9 x10 x11 x12 x13 x14 t _ _ hP hD hS _ (lv_sub hl [0, 1, 2, 3, 4, 5, 6, 7, 8, 9, 10, 11, 12] rfl) h
      · have h := (k_iB h).2 c170
        refine lv_iconst (v := 1) hx hb dL_hangs_433 (by decide) ?_
        refine lv_goto (tgt := 438) hx hb dL_hangs_434 (by decide) ?_
        refine lv_istore (lv' := [(6, .int 1), (0, .ref (a 0)), (1, .int x1), (2, .int x2), (3, .int x3), (4, .int x4), (5, .int x5), (8, .int x8), (9, .int x9), (10, .int x10), (11, .int x11), (12, .int x12), (13, .int x13), (14, .int x14)]) hx hb dL_hangs_438 hl (by decide) rfl (fun ls hl => ?_)
        exact (t_L_hangs_440 hx hb hml hown hts hK hA fin hz) LP291 hLP291 x1 x2 x3 x4 x5 1 x8 x9 x10 x11 x12 x13 x14 t _ _ hP hD hS _ (lv_sub hl [1, 2, 3, 4, 5, 6, 0, 7, 8, 9, 10, 11, 12, 13] rfl) h
set_option maxHeartbeats 16000000 in
set_option maxRecDepth 100000 in
theorem t_L_hangs_364 {p : Program} {l : Launch} {e : Env} {s : State} {m : MethodId} {below : List Frame} {meth : Method} {c : Code} {A : Nat → Prop} {Q : State → Prop} {D : va_G} {cI cC cE : ClassId} {a : Nat → Nat} {r0 : Int32} {o_t : Td} (hx : p.tables.exec = Jvm.exec) (hb : c.code = cL_hangs) (hml : c.maxLocals = 22) (hown : s.vm.findClass RL = some m.cls) (hts : ∀ w ∈ wsL_hangs, w.before [.ref (a 0)].toArray s = true) (hK : va_K D vwCl (kT cI cC cE) s) (hA : ∀ q, s.heap.size ≤ q → A q) (fin : ∀ (pc : Nat) (ls : Array Slot) (H : Heap) (locs : List Loc), (narrow .boolean (.int r0) = .int r0) → decode cL_hangs pc = .ok (.ireturn, 1) → va_P D vwCl (fl [tdW cI cC cE a o_t]) H → va_D A (fl [tdW cI cC cE a o_t]) → va_S A s.heap H locs → W p l e ({ frames := 6, cells := 0, slots := 0, locals := 140 } : Room) s m [.ref (a 0)].toArray below meth c H locs 0 0 Q (F0 m pc ls [.int r0])) (hz : narrow .boolean (.int r0) = .int r0) : ∀ (LP291 : Int32 → Int32 → Int32 → Int32 → Int32 → Int32 → Int32 → Int32 → Int32 → Int32 → Int32 → Int32 → Td → Option (Int32 × Td)), (∀ (x1 : Int32) (x2 : Int32) (x3 : Int32) (x4 : Int32) (x5 : Int32) (x6 : Int32) (x8 : Int32) (x9 : Int32) (x10 : Int32) (x11 : Int32) (x12 : Int32) (x13 : Int32) (t : Td) (H : Heap) (locs : List Loc), va_P D vwCl (fl [tdW cI cC cE a t]) H → va_D A (fl [tdW cI cC cE a t]) → va_S A s.heap H locs → ∀ (ls : Array Slot), lv_has ls 22 [(0, .ref (a 0)), (1, .int x1), (2, .int x2), (3, .int x3), (4, .int x4), (5, .int x5), (6, .int x6), (8, .int x8), (9, .int x9), (10, .int x10), (11, .int x11), (12, .int x12), (13, .int x13)] → LP291 x1 x2 x3 x4 x5 x6 x8 x9 x10 x11 x12 x13 t = some (r0, o_t) → W p l e ({ frames := 6, cells := 0, slots := 0, locals := 140 } : Room) s m [.ref (a 0)].toArray below meth c H locs 0 0 Q (F0 m 291 ls [])) → ∀ (x1 : Int32) (x2 : Int32) (x3 : Int32) (x4 : Int32) (x5 : Int32) (x8 : Int32) (x9 : Int32) (x10 : Int32) (x11 : Int32) (x12 : Int32) (x13 : Int32) (x14 : Int32) (x15 : Int32) (t : Td) (H : Heap) (locs : List Loc), va_P D vwCl (fl [tdW cI cC cE a t]) H → va_D A (fl [tdW cI cC cE a t]) → va_S A s.heap H locs → ∀ (ls : Array Slot), lv_has ls 22 [(0, .ref (a 0)), (1, .int x1), (2, .int x2), (3, .int x3), (4, .int x4), (5, .int x5), (8, .int x8), (9, .int x9), (10, .int x10), (11, .int x11), (12, .int x12), (13, .int x13), (14, .int x14), (15, .int x15)] → j_L_hangs_364 LP291  x1 x2 x3 x4 x5 x8 x9 x10 x11 x12 x13 x14 x15 t = some (r0, o_t) → W p l e ({ frames := 6, cells := 0, slots := 0, locals := 140 } : Room) s m [.ref (a 0)].toArray below meth c H locs 0 0 Q (F0 m 364 ls []) := by
  intro LP291 hLP291
  intro x1 x2 x3 x4 x5 x8 x9 x10 x11 x12 x13 x14 x15 t H locs hP hD hS ls hl h
  dsimp only [j_L_hangs_364] at h
  refine lv_iload hx hb dL_hangs_364 (lv_at hl 13 rfl) ?_
  refine lv_bipush (v := (-5)) hx hb dL_hangs_366 (by decide) ?_
  refine lv_icmp_eq (tgt := 394) hx hb dL_hangs_368 (by decide) (fun c159 => ?_) (fun c159 => ?_)
  · have h := (k_iB h).1 c159
    exact (t_L_hangs_394 hx hb hml hown hts hK hA fin hz) LP291 hLP291 x1 x2 x3 x4 x5 x8 x9 x10 x11 x12 x13 x14 t _ _ hP hD hS _ (lv_sub hl [0, 1, 2, 3, 4, 5, 6, 7, 8, 9, 10, 11, 12] rfl) h
  · have h := (k_iB h).2 c159
    refine lv_aload_n hx hb dL_hangs_371 rfl (lv_at hl 0 rfl) ?_
    refine lv_iload hx hb dL_hangs_372 (lv_at hl 13 rfl) ?_
    refine lv_iconst (v := 1) hx hb dL_hangs_374 (by decide) ?_
    obtain ⟨r171, hu172, h⟩ := ob1_el h
    refine kbi (ci := 5) (q := (RX5, TX5, 8)) (bs := [tdW cI cC cE a t]) (cs := [tdW cI cC cE a t]) (cs' := [tdW cI cC cE a t]) (bs1 := [tdW cI cC cE a t]) ⟨hx, hb, hml, hown, hts⟩ [0] [] (cq_answer l D cI cC cE a _ t x15 1 r171 hu172) (cwV 2 hts gL_hangs_X5_answer rfl rfl rfl (by decide +kernel) ⟨Nat.le_of_ble_eq_true rfl, Nat.le_of_ble_eq_true rfl⟩) hK hP hD hS hA rfl rfl rfl rfl rfl rfl rfl rfl rfl hl.1 rfl (Nat.le_of_ble_eq_true rfl) dL_hangs_375 ⟨Nat.le_refl 0, Nat.le_refl 0⟩ (fun H locs hP hD hS => ?_)
    refine lv_iload hx hb dL_hangs_378 (lv_at hl 11 rfl) ?_
    refine lv_icmp_ne (tgt := 437) hx hb dL_hangs_380 (by decide) (fun c173 => ?_) (fun c173 => ?_)
    · have h := (k_iB h).2 c173
      exact (t_L_hangs_437 hx hb hml hown hts hK hA fin hz) LP291 hLP291 x1 x2 x3 x4 x5 x8 x9 x10 x11 x12 x13 x14 t _ _ hP hD hS _ (lv_sub hl [0, 1, 2, 3, 4, 5, 6, 7, 8, 9, 10, 11, 12] rfl) h
    · have h := (k_iB h).1 c173
      refine lv_aload_n hx hb dL_hangs_383 rfl (lv_at hl 0 rfl) ?_
      refine lv_iload hx hb dL_hangs_384 (lv_at hl 13 rfl) ?_
      refine lv_iconst (v := 4) hx hb dL_hangs_386 (by decide) ?_
      obtain ⟨r174, hu175, h⟩ := ob1_el h
      refine kbi (ci := 5) (q := (RX5, TX5, 8)) (bs := [tdW cI cC cE a t]) (cs := [tdW cI cC cE a t]) (cs' := [tdW cI cC cE a t]) (bs1 := [tdW cI cC cE a t]) ⟨hx, hb, hml, hown, hts⟩ [0] [] (cq_answer l D cI cC cE a _ t x15 4 r174 hu175) (cwV 2 hts gL_hangs_X5_answer rfl rfl rfl (by decide +kernel) ⟨Nat.le_of_ble_eq_true rfl, Nat.le_of_ble_eq_true rfl⟩) hK hP hD hS hA rfl rfl rfl rfl rfl rfl rfl rfl rfl hl.1 rfl (Nat.le_of_ble_eq_true rfl) dL_hangs_387 ⟨Nat.le_refl 0, Nat.le_refl 0⟩ (fun H locs hP hD hS => ?_)
      refine lv_iconst (v := 1) hx hb dL_hangs_390 (by decide) ?_
      refine lv_icmp_ne (tgt := 437) hx hb dL_hangs_391 (by decide) (fun c176 => ?_) (fun c176 => ?_)
      · have h := (k_iB h).2 c176
        exact (t_L_hangs_437 hx hb hml hown hts hK hA fin hz) LP291 hLP291 x1 x2 x3 x4 x5 x8 x9 x10 x11 x12 x13 x14 t _ _ hP hD hS _ (lv_sub hl [0, 1, 2, 3, 4, 5, 6, 7, 8, 9, 10, 11, 12] rfl) h
      · have h := (k_iB h).1 c176
        exact (t_L_hangs_394 hx hb hml hown hts hK hA fin hz) LP291 hLP291 x1 x2 x3 x4 x5 x8 x9 x10 x11 x12 x13 x14 t _ _ hP hD hS _ (lv_sub hl [0, 1, 2, 3, 4, 5, 6, 7, 8, 9, 10, 11, 12] rfl) h
set_option maxHeartbeats 16000000 in
set_option maxRecDepth 100000 in
theorem t_L_hangs_291 {p : Program} {l : Launch} {e : Env} {s : State} {m : MethodId} {below : List Frame} {meth : Method} {c : Code} {A : Nat → Prop} {Q : State → Prop} {D : va_G} {cI cC cE : ClassId} {a : Nat → Nat} {r0 : Int32} {o_t : Td} (hx : p.tables.exec = Jvm.exec) (hb : c.code = cL_hangs) (hml : c.maxLocals = 22) (hown : s.vm.findClass RL = some m.cls) (hts : ∀ w ∈ wsL_hangs, w.before [.ref (a 0)].toArray s = true) (hK : va_K D vwCl (kT cI cC cE) s) (hA : ∀ q, s.heap.size ≤ q → A q) (fin : ∀ (pc : Nat) (ls : Array Slot) (H : Heap) (locs : List Loc), (narrow .boolean (.int r0) = .int r0) → decode cL_hangs pc = .ok (.ireturn, 1) → va_P D vwCl (fl [tdW cI cC cE a o_t]) H → va_D A (fl [tdW cI cC cE a o_t]) → va_S A s.heap H locs → W p l e ({ frames := 6, cells := 0, slots := 0, locals := 140 } : Room) s m [.ref (a 0)].toArray below meth c H locs 0 0 Q (F0 m pc ls [.int r0])) (hz : narrow .boolean (.int r0) = .int r0) : ∀ (k : Nat), ∀ (x1 : Int32) (x2 : Int32) (x3 : Int32) (x4 : Int32) (x5 : Int32) (x6 : Int32) (x8 : Int32) (x9 : Int32) (x10 : Int32) (x11 : Int32) (x12 : Int32) (x13 : Int32) (t : Td) (H : Heap) (locs : List Loc), va_P D vwCl (fl [tdW cI cC cE a t]) H → va_D A (fl [tdW cI cC cE a t]) → va_S A s.heap H locs → ∀ (ls : Array Slot), lv_has ls 22 [(0, .ref (a 0)), (1, .int x1), (2, .int x2), (3, .int x3), (4, .int x4), (5, .int x5), (6, .int x6), (8, .int x8), (9, .int x9), (10, .int x10), (11, .int x11), (12, .int x12), (13, .int x13)] → lp_L_hangs_291   k x1 x2 x3 x4 x5 x6 x8 x9 x10 x11 x12 x13 t = some (r0, o_t) → W p l e ({ frames := 6, cells := 0, slots := 0, locals := 140 } : Room) s m [.ref (a 0)].toArray below meth c H locs 0 0 Q (F0 m 291 ls []) := by
  intro k
  induction k with
  | zero =>
    intro x1 x2 x3 x4 x5 x6 x8 x9 x10 x11 x12 x13 t H locs hP hD hS ls hl h
    exact k_none h
  | succ k ih =>
    intro x1 x2 x3 x4 x5 x6 x8 x9 x10 x11 x12 x13 t H locs hP hD hS ls hl h
    dsimp only [lp_L_hangs_291] at h
    refine lv_iload hx hb dL_hangs_291 (lv_at hl 12 rfl) ?_
    refine lv_iload hx hb dL_hangs_293 (lv_at hl 7 rfl) ?_
    refine lv_icmp_ge (tgt := 501) hx hb dL_hangs_295 (by decide) (fun c6 => ?_) (fun c6 => ?_)
    · have h := (k_iB h).1 c6
      exact (t_L_hangs_501 hx hb hml hown hts hK hA fin hz)   x1 x2 x3 x4 x5 x6 x8 x9 x10 x11 x12 t _ _ hP hD hS _ (lv_sub hl [0, 1, 2, 3, 4, 5, 6, 7, 8, 9, 10, 11] rfl) h
    · have h := (k_iB h).2 c6
      refine lv_iload hx hb dL_hangs_298 (lv_at hl 12 rfl) ?_
      refine lv_bipush (v := 20) hx hb dL_hangs_300 (by decide) ?_
      refine lv_icmp_ge (tgt := 501) hx hb dL_hangs_302 (by decide) (fun c143 => ?_) (fun c143 => ?_)
      · have h := (k_iB h).1 c143
        exact (t_L_hangs_501 hx hb hml hown hts hK hA fin hz)   x1 x2 x3 x4 x5 x6 x8 x9 x10 x11 x12 t _ _ hP hD hS _ (lv_sub hl [0, 1, 2, 3, 4, 5, 6, 7, 8, 9, 10, 11] rfl) h
      · have h := (k_iB h).2 c143
        refine lv_iload hx hb dL_hangs_305 (lv_at hl 6 rfl) ?_
        refine lv_if_eq (tgt := 501) hx hb dL_hangs_307 (by decide) (fun c144 => ?_) (fun c144 => ?_)
        · have h := (k_iB h).1 c144
          exact (t_L_hangs_501 hx hb hml hown hts hK hA fin hz)   x1 x2 x3 x4 x5 x6 x8 x9 x10 x11 x12 t _ _ hP hD hS _ (lv_sub hl [0, 1, 2, 3, 4, 5, 6, 7, 8, 9, 10, 11] rfl) h
        · have h := (k_iB h).2 c144
          refine lv_aload_n hx hb dL_hangs_310 rfl (lv_at hl 0 rfl) ?_
          refine lv_iload hx hb dL_hangs_311 (lv_at hl 12 rfl) ?_
          refine lv_iconst (v := 3) hx hb dL_hangs_313 (by decide) ?_
          obtain ⟨r145, hu146, h⟩ := ob1_el h
          refine kbi (ci := 5) (q := (RX5, TX5, 8)) (bs := [tdW cI cC cE a t]) (cs := [tdW cI cC cE a t]) (cs' := [tdW cI cC cE a t]) (bs1 := [tdW cI cC cE a t]) ⟨hx, hb, hml, hown, hts⟩ [0] [] (cq_riddle l D cI cC cE a _ t x13 3 r145 hu146) (cwV 2 hts gL_hangs_X5_riddle rfl rfl rfl (by decide +kernel) ⟨Nat.le_of_ble_eq_true rfl, Nat.le_of_ble_eq_true rfl⟩) hK hP hD hS hA rfl rfl rfl rfl rfl rfl rfl rfl rfl hl.1 rfl (Nat.le_of_ble_eq_true rfl) dL_hangs_314 ⟨Nat.le_refl 0, Nat.le_refl 0⟩ (fun H locs hP hD hS => ?_)
          refine lv_istore (lv' := [(14, .int r145), (0, .ref (a 0)), (1, .int x1), (2, .int x2), (3, .int x3), (4, .int x4), (5, .int x5), (6, .int x6), (8, .int x8), (9, .int x9), (10, .int x10), (11, .int x11), (12, .int x12), (13, .int x13)]) hx hb dL_hangs_317 hl (by decide) rfl (fun ls hl => ?_)
          refine lv_aload_n hx hb dL_hangs_319 rfl (lv_at hl 1 rfl) ?_
          refine lv_iload hx hb dL_hangs_320 (lv_at hl 13 rfl) ?_
          refine lv_bipush (v := 6) hx hb dL_hangs_322 (by decide) ?_
          obtain ⟨r147, hu148, h⟩ := ob1_el h
          refine kbi (ci := 5) (q := (RX5, TX5, 8)) (bs := [tdW cI cC cE a t]) (cs := [tdW cI cC cE a t]) (cs' := [tdW cI cC cE a t]) (bs1 := [tdW cI cC cE a t]) ⟨hx, hb, hml, hown, hts⟩ [0] [] (cq_riddle l D cI cC cE a _ t x13 6 r147 hu148) (cwV 2 hts gL_hangs_X5_riddle rfl rfl rfl (by decide +kernel) ⟨Nat.le_of_ble_eq_true rfl, Nat.le_of_ble_eq_true rfl⟩) hK hP hD hS hA rfl rfl rfl rfl rfl rfl rfl rfl rfl hl.1 rfl (Nat.le_of_ble_eq_true rfl) dL_hangs_324 ⟨Nat.le_refl 0, Nat.le_refl 0⟩ (fun H locs hP hD hS => ?_)
          refine lv_istore (lv' := [(15, .int r147), (14, .int r145), (0, .ref (a 0)), (1, .int x1), (2, .int x2), (3, .int x3), (4, .int x4), (5, .int x5), (6, .int x6), (8, .int x8), (9, .int x9), (10, .int x10), (11, .int x11), (12, .int x12), (13, .int x13)]) hx hb dL_hangs_327 hl (by decide) rfl (fun ls hl => ?_)
          refine lv_iload hx hb dL_hangs_329 (lv_at hl 1 rfl) ?_
          refine lv_if_lt (tgt := 437) hx hb dL_hangs_331 (by decide) (fun c149 => ?_) (fun c149 => ?_)
          · have h := (k_iB h).1 c149
            exact (t_L_hangs_437 hx hb hml hown hts hK hA fin hz) (lp_L_hangs_291   k) ih x1 x2 x3 x4 x5 x8 x9 x10 x11 x12 x13 r145 t _ _ hP hD hS _ (lv_sub hl [2, 3, 4, 5, 6, 7, 9, 10, 11, 12, 13, 14, 1] rfl) h
          · have h := (k_iB h).2 c149
            refine lv_iload hx hb dL_hangs_334 (lv_at hl 1 rfl) ?_
            refine lv_iconst (v := 3) hx hb dL_hangs_336 (by decide) ?_
            refine lv_icmp_ge (tgt := 437) hx hb dL_hangs_337 (by decide) (fun c156 => ?_) (fun c156 => ?_)
            · have h := (k_iB h).1 c156
              exact (t_L_hangs_437 hx hb hml hown hts hK hA fin hz) (lp_L_hangs_291   k) ih x1 x2 x3 x4 x5 x8 x9 x10 x11 x12 x13 r145 t _ _ hP hD hS _ (lv_sub hl [2, 3, 4, 5, 6, 7, 9, 10, 11, 12, 13, 14, 1] rfl) h
            · have h := (k_iB h).2 c156
              refine lv_iload hx hb dL_hangs_340 (lv_at hl 1 rfl) ?_
              refine lv_iconst (v := 1) hx hb dL_hangs_342 (by decide) ?_
              refine lv_icmp_ne (tgt := 350) hx hb dL_hangs_343 (by decide) (fun c157 => ?_) (fun c157 => ?_)
              · have h := (k_iB h).2 c157
                refine lv_iconst (v := 0) hx hb dL_hangs_350 (by decide) ?_
                refine lv_iload hx hb dL_hangs_351 (lv_at hl 0 rfl) ?_
                refine lv_if_lt (tgt := 360) hx hb dL_hangs_353 (by decide) (fun c158 => ?_) (fun c158 => ?_)
                · have h := (k_iB h).1 c158
                  refine lv_iconst (v := 0) hx hb dL_hangs_360 (by decide) ?_
                  refine lv_icmp_ne (tgt := 437) hx hb dL_hangs_361 (by decide) (fun c => absurd c (by decide)) (fun _ => ?_)
                  exact (t_L_hangs_364 hx hb hml hown hts hK hA fin hz) (lp_L_hangs_291   k) ih x1 x2 x3 x4 x5 x8 x9 x10 x11 x12 x13 r145 r147 t _ _ hP hD hS _ (lv_sub hl [2, 3, 4, 5, 6, 7, 9, 10, 11, 12, 13, 14, 1, 0] rfl) h
                · have h := (k_iB h).2 c158
                  refine lv_iconst (v := 1) hx hb dL_hangs_356 (by decide) ?_
                  refine lv_goto (tgt := 361) hx hb dL_hangs_357 (by decide) ?_
                  refine lv_icmp_ne (tgt := 437) hx hb dL_hangs_361 (by decide) (fun _ => ?_) (fun c => absurd c (by decide))
                  exact (t_L_hangs_437 hx hb hml hown hts hK hA fin hz) (lp_L_hangs_291   k) ih x1 x2 x3 x4 x5 x8 x9 x10 x11 x12 x13 r145 t _ _ hP hD hS _ (lv_sub hl [2, 3, 4, 5, 6, 7, 9, 10, 11, 12, 13, 14, 1] rfl) h
              · have h := (k_iB h).1 c157
                refine lv_iconst (v := 1) hx hb dL_hangs_346 (by decide) ?_
                refine lv_goto (tgt := 351) hx hb dL_hangs_347 (by decide) ?_
                refine lv_iload hx hb dL_hangs_351 (lv_at hl 0 rfl) ?_
                refine lv_if_lt (tgt := 360) hx hb dL_hangs_353 (by decide) (fun c177 => ?_) (fun c177 => ?_)
                · have h := (k_iB h).1 c177
                  refine lv_iconst (v := 0) hx hb dL_hangs_360 (by decide) ?_
                  refine lv_icmp_ne (tgt := 437) hx hb dL_hangs_361 (by decide) (fun _ => ?_) (fun c => absurd c (by decide))
                  exact (t_L_hangs_437 hx hb hml hown hts hK hA fin hz) (lp_L_hangs_291   k) ih x1 x2 x3 x4 x5 x8 x9 x10 x11 x12 x13 r145 t _ _ hP hD hS _ (lv_sub hl [2, 3, 4, 5, 6, 7, 9, 10, 11, 12, 13, 14, 1] rfl) h
                · have h := (k_iB h).2 c177
                  refine lv_iconst (v := 1) hx hb dL_hangs_356 (by decide) ?_
                  refine lv_goto (tgt := 361) hx hb dL_hangs_357 (by decide) ?_
                  refine lv_icmp_ne (tgt := 437) hx hb dL_hangs_361 (by decide) (fun c => absurd c (by decide)) (fun _ => ?_)
                  exact (t_L_hangs_364 hx hb hml hown hts hK hA fin hz) (lp_L_hangs_291   k) ih x1 x2 x3 x4 x5 x8 x9 x10 x11 x12 x13 r145 r147 t _ _ hP hD hS _ (lv_sub hl [2, 3, 4, 5, 6, 7, 9, 10, 11, 12, 13, 14, 1, 0] rfl) h
set_option maxHeartbeats 16000000 in
set_option maxRecDepth 100000 in
theorem t_L_hangs_269 {p : Program} {l : Launch} {e : Env} {s : State} {m : MethodId} {below : List Frame} {meth : Method} {c : Code} {A : Nat → Prop} {Q : State → Prop} {D : va_G} {cI cC cE : ClassId} {a : Nat → Nat} {r0 : Int32} {o_t : Td} (hx : p.tables.exec = Jvm.exec) (hb : c.code = cL_hangs) (hml : c.maxLocals = 22) (hown : s.vm.findClass RL = some m.cls) (hts : ∀ w ∈ wsL_hangs, w.before [.ref (a 0)].toArray s = true) (hK : va_K D vwCl (kT cI cC cE) s) (hA : ∀ q, s.heap.size ≤ q → A q) (fin : ∀ (pc : Nat) (ls : Array Slot) (H : Heap) (locs : List Loc), (narrow .boolean (.int r0) = .int r0) → decode cL_hangs pc = .ok (.ireturn, 1) → va_P D vwCl (fl [tdW cI cC cE a o_t]) H → va_D A (fl [tdW cI cC cE a o_t]) → va_S A s.heap H locs → W p l e ({ frames := 6, cells := 0, slots := 0, locals := 140 } : Room) s m [.ref (a 0)].toArray below meth c H locs 0 0 Q (F0 m pc ls [.int r0])) (hz : narrow .boolean (.int r0) = .int r0) : ∀ (x1 : Int32) (x2 : Int32) (x3 : Int32) (x4 : Int32) (x5 : Int32) (x6 : Int32) (t : Td) (H : Heap) (locs : List Loc), va_P D vwCl (fl [tdW cI cC cE a t]) H → va_D A (fl [tdW cI cC cE a t]) → va_S A s.heap H locs → ∀ (ls : Array Slot), lv_has ls 22 [(0, .ref (a 0)), (1, .int x1), (2, .int x2), (3, .int x3), (4, .int x4), (5, .int x5), (6, .int x6)] → j_L_hangs_269   x1 x2 x3 x4 x5 x6 t = some (r0, o_t) → W p l e ({ frames := 6, cells := 0, slots := 0, locals := 140 } : Room) s m [.ref (a 0)].toArray below meth c H locs 0 0 Q (F0 m 269 ls []) := by
  intro x1 x2 x3 x4 x5 x6 t H locs hP hD hS ls hl h
  dsimp only [j_L_hangs_269] at h
  refine lv_aload_n hx hb dL_hangs_269 rfl (lv_at hl 0 rfl) ?_
  refine lv_iconst (v := 1) hx hb dL_hangs_270 (by decide) ?_
  obtain ⟨r4, hu5, h⟩ := ob1_el h
  refine kbi (ci := 5) (q := (RX5, TX5, 8)) (bs := [tdW cI cC cE a t]) (cs := [tdW cI cC cE a t]) (cs' := [tdW cI cC cE a t]) (bs1 := [tdW cI cC cE a t]) ⟨hx, hb, hml, hown, hts⟩ [0] [] (cq_count l D cI cC cE a _ t 1 r4 hu5) (cwV 1 hts gL_hangs_X5_count rfl rfl rfl (by decide +kernel) ⟨Nat.le_of_ble_eq_true rfl, Nat.le_of_ble_eq_true rfl⟩) hK hP hD hS hA rfl rfl rfl rfl rfl rfl rfl rfl rfl hl.1 rfl (Nat.le_of_ble_eq_true rfl) dL_hangs_271 ⟨Nat.le_refl 0, Nat.le_refl 0⟩ (fun H locs hP hD hS => ?_)
  refine lv_istore (lv' := [(8, .int r4), (0, .ref (a 0)), (1, .int x1), (2, .int x2), (3, .int x3), (4, .int x4), (5, .int x5), (6, .int x6)]) hx hb dL_hangs_274 hl (by decide) rfl (fun ls hl => ?_)
  refine lv_iconst (v := 0) hx hb dL_hangs_276 (by decide) ?_
  refine lv_istore (lv' := [(9, .int 0), (8, .int r4), (0, .ref (a 0)), (1, .int x1), (2, .int x2), (3, .int x3), (4, .int x4), (5, .int x5), (6, .int x6)]) hx hb dL_hangs_277 hl (by decide) rfl (fun ls hl => ?_)
  refine lv_iconst (v := 0) hx hb dL_hangs_279 (by decide) ?_
  refine lv_istore (lv' := [(10, .int 0), (9, .int 0), (8, .int r4), (0, .ref (a 0)), (1, .int x1), (2, .int x2), (3, .int x3), (4, .int x4), (5, .int x5), (6, .int x6)]) hx hb dL_hangs_280 hl (by decide) rfl (fun ls hl => ?_)
  refine lv_iconst (v := 0) hx hb dL_hangs_282 (by decide) ?_
  refine lv_istore (lv' := [(11, .int 0), (10, .int 0), (9, .int 0), (8, .int r4), (0, .ref (a 0)), (1, .int x1), (2, .int x2), (3, .int x3), (4, .int x4), (5, .int x5), (6, .int x6)]) hx hb dL_hangs_283 hl (by decide) rfl (fun ls hl => ?_)
  refine lv_iconst (v := 0) hx hb dL_hangs_285 (by decide) ?_
  refine lv_istore (lv' := [(12, .int 0), (11, .int 0), (10, .int 0), (9, .int 0), (8, .int r4), (0, .ref (a 0)), (1, .int x1), (2, .int x2), (3, .int x3), (4, .int x4), (5, .int x5), (6, .int x6)]) hx hb dL_hangs_286 hl (by decide) rfl (fun ls hl => ?_)
  refine lv_iconst (v := 0) hx hb dL_hangs_288 (by decide) ?_
  refine lv_istore (lv' := [(13, .int 0), (12, .int 0), (11, .int 0), (10, .int 0), (9, .int 0), (8, .int r4), (0, .ref (a 0)), (1, .int x1), (2, .int x2), (3, .int x3), (4, .int x4), (5, .int x5), (6, .int x6)]) hx hb dL_hangs_289 hl (by decide) rfl (fun ls hl => ?_)
  exact (t_L_hangs_291 hx hb hml hown hts hK hA fin hz)   fuel x1 x2 x3 x4 x5 x6 r4 0 0 0 0 0 t _ _ hP hD hS _ (lv_sub hl [6, 7, 8, 9, 10, 11, 12, 5, 4, 3, 2, 1, 0] rfl) h
set_option maxHeartbeats 16000000 in
set_option maxRecDepth 100000 in
theorem t_L_hangs_205 {p : Program} {l : Launch} {e : Env} {s : State} {m : MethodId} {below : List Frame} {meth : Method} {c : Code} {A : Nat → Prop} {Q : State → Prop} {D : va_G} {cI cC cE : ClassId} {a : Nat → Nat} {r0 : Int32} {o_t : Td} (hx : p.tables.exec = Jvm.exec) (hb : c.code = cL_hangs) (hml : c.maxLocals = 22) (hown : s.vm.findClass RL = some m.cls) (hts : ∀ w ∈ wsL_hangs, w.before [.ref (a 0)].toArray s = true) (hK : va_K D vwCl (kT cI cC cE) s) (hA : ∀ q, s.heap.size ≤ q → A q) (fin : ∀ (pc : Nat) (ls : Array Slot) (H : Heap) (locs : List Loc), (narrow .boolean (.int r0) = .int r0) → decode cL_hangs pc = .ok (.ireturn, 1) → va_P D vwCl (fl [tdW cI cC cE a o_t]) H → va_D A (fl [tdW cI cC cE a o_t]) → va_S A s.heap H locs → W p l e ({ frames := 6, cells := 0, slots := 0, locals := 140 } : Room) s m [.ref (a 0)].toArray below meth c H locs 0 0 Q (F0 m pc ls [.int r0])) (hz : narrow .boolean (.int r0) = .int r0) : ∀ (LP24 : Int32 → Int32 → Int32 → Int32 → Int32 → Int32 → Int32 → Int32 → Td → Option (Int32 × Td)), (∀ (x1 : Int32) (x2 : Int32) (x3 : Int32) (x4 : Int32) (x5 : Int32) (x6 : Int32) (x7 : Int32) (x8 : Int32) (t : Td) (H : Heap) (locs : List Loc), va_P D vwCl (fl [tdW cI cC cE a t]) H → va_D A (fl [tdW cI cC cE a t]) → va_S A s.heap H locs → ∀ (ls : Array Slot), lv_has ls 22 [(0, .ref (a 0)), (1, .int x1), (2, .int x2), (3, .int x3), (4, .int x4), (5, .int x5), (6, .int x6), (7, .int x7), (8, .int x8)] → LP24 x1 x2 x3 x4 x5 x6 x7 x8 t = some (r0, o_t) → W p l e ({ frames := 6, cells := 0, slots := 0, locals := 140 } : Room) s m [.ref (a 0)].toArray below meth c H locs 0 0 Q (F0 m 24 ls [])) → ∀ (x1 : Int32) (x2 : Int32) (x3 : Int32) (x4 : Int32) (x5 : Int32) (x6 : Int32) (x7 : Int32) (x8 : Int32) (x9 : Int32) (t : Td) (H : Heap) (locs : List Loc), va_P D vwCl (fl [tdW cI cC cE a t]) H → va_D A (fl [tdW cI cC cE a t]) → va_S A s.heap H locs → ∀ (ls : Array Slot), lv_has ls 22 [(0, .ref (a 0)), (1, .int x1), (2, .int x2), (3, .int x3), (4, .int x4), (5, .int x5), (6, .int x6), (7, .int x7), (8, .int x8), (9, .int x9)] → j_L_hangs_205 LP24  x1 x2 x3 x4 x5 x6 x7 x8 x9 t = some (r0, o_t) → W p l e ({ frames := 6, cells := 0, slots := 0, locals := 140 } : Room) s m [.ref (a 0)].toArray below meth c H locs 0 0 Q (F0 m 205 ls []) := by
  intro LP24 hLP24
  intro x1 x2 x3 x4 x5 x6 x7 x8 x9 t H locs hP hD hS ls hl h
  dsimp only [j_L_hangs_205] at h
  refine lv_iload_n hx hb dL_hangs_205 rfl (lv_at hl 1 rfl) ?_
  refine lv_iload hx hb dL_hangs_206 (lv_at hl 9 rfl) ?_
  refine lv_iadd hx hb dL_hangs_208 ?_
  refine lv_istore_n (lv' := [(1, .int (x1 + x9)), (0, .ref (a 0)), (2, .int x2), (3, .int x3), (4, .int x4), (5, .int x5), (6, .int x6), (7, .int x7), (8, .int x8), (9, .int x9)]) hx hb dL_hangs_209 rfl hl (by decide) rfl (fun ls hl => ?_)
  refine lv_iload_n hx hb dL_hangs_210 rfl (lv_at hl 2 rfl) ?_
  refine lv_aload_n hx hb dL_hangs_211 rfl (lv_at hl 1 rfl) ?_
  refine lv_iload hx hb dL_hangs_212 (lv_at hl 8 rfl) ?_
  refine lv_bipush (v := 7) hx hb dL_hangs_214 (by decide) ?_
  obtain ⟨r186, hu187, h⟩ := ob1_el h
  refine kbi (ci := 5) (q := (RX5, TX5, 8)) (bs := [tdW cI cC cE a t]) (cs := [tdW cI cC cE a t]) (cs' := [tdW cI cC cE a t]) (bs1 := [tdW cI cC cE a t]) ⟨hx, hb, hml, hown, hts⟩ [0] [] (cq_trader l D cI cC cE a _ t x8 7 r186 hu187) (cwV 2 hts gL_hangs_X5_trader rfl rfl rfl (by decide +kernel) ⟨Nat.le_of_ble_eq_true rfl, Nat.le_of_ble_eq_true rfl⟩) hK hP hD hS hA rfl rfl rfl rfl rfl rfl rfl rfl rfl hl.1 rfl (Nat.le_of_ble_eq_true rfl) dL_hangs_216 ⟨Nat.le_refl 0, Nat.le_refl 0⟩ (fun H locs hP hD hS => ?_)
  refine lv_iadd hx hb dL_hangs_219 ?_
  refine lv_istore_n (lv' := [(2, .int (x2 + r186)), (1, .int (x1 + x9)), (0, .ref (a 0)), (3, .int x3), (4, .int x4), (5, .int x5), (6, .int x6), (7, .int x7), (8, .int x8), (9, .int x9)]) hx hb dL_hangs_220 rfl hl (by decide) rfl (fun ls hl => ?_)
  refine lv_iload_n hx hb dL_hangs_221 rfl (lv_at hl 3 rfl) ?_
  refine lv_aload_n hx hb dL_hangs_222 rfl (lv_at hl 2 rfl) ?_
  refine lv_iload hx hb dL_hangs_223 (lv_at hl 8 rfl) ?_
  refine lv_iconst (v := 2) hx hb dL_hangs_225 (by decide) ?_
  obtain ⟨r188, hu189, h⟩ := ob1_el h
  refine kbi (ci := 5) (q := (RX5, TX5, 8)) (bs := [tdW cI cC cE a t]) (cs := [tdW cI cC cE a t]) (cs' := [tdW cI cC cE a t]) (bs1 := [tdW cI cC cE a t]) ⟨hx, hb, hml, hown, hts⟩ [0] [] (cq_trader l D cI cC cE a _ t x8 2 r188 hu189) (cwV 2 hts gL_hangs_X5_trader rfl rfl rfl (by decide +kernel) ⟨Nat.le_of_ble_eq_true rfl, Nat.le_of_ble_eq_true rfl⟩) hK hP hD hS hA rfl rfl rfl rfl rfl rfl rfl rfl rfl hl.1 rfl (Nat.le_of_ble_eq_true rfl) dL_hangs_226 ⟨Nat.le_refl 0, Nat.le_refl 0⟩ (fun H locs hP hD hS => ?_)
  refine lv_iadd hx hb dL_hangs_229 ?_
  refine lv_istore_n (lv' := [(3, .int (x3 + r188)), (2, .int (x2 + r186)), (1, .int (x1 + x9)), (0, .ref (a 0)), (4, .int x4), (5, .int x5), (6, .int x6), (7, .int x7), (8, .int x8), (9, .int x9)]) hx hb dL_hangs_230 rfl hl (by decide) rfl (fun ls hl => ?_)
  refine lv_iload hx hb dL_hangs_231 (lv_at hl 4 rfl) ?_
  refine lv_aload_n hx hb dL_hangs_233 rfl (lv_at hl 3 rfl) ?_
  refine lv_iload hx hb dL_hangs_234 (lv_at hl 8 rfl) ?_
  refine lv_iconst (v := 4) hx hb dL_hangs_236 (by decide) ?_
  obtain ⟨r190, hu191, h⟩ := ob1_el h
  refine kbi (ci := 5) (q := (RX5, TX5, 8)) (bs := [tdW cI cC cE a t]) (cs := [tdW cI cC cE a t]) (cs' := [tdW cI cC cE a t]) (bs1 := [tdW cI cC cE a t]) ⟨hx, hb, hml, hown, hts⟩ [0] [] (cq_trader l D cI cC cE a _ t x8 4 r190 hu191) (cwV 2 hts gL_hangs_X5_trader rfl rfl rfl (by decide +kernel) ⟨Nat.le_of_ble_eq_true rfl, Nat.le_of_ble_eq_true rfl⟩) hK hP hD hS hA rfl rfl rfl rfl rfl rfl rfl rfl rfl hl.1 rfl (Nat.le_of_ble_eq_true rfl) dL_hangs_237 ⟨Nat.le_refl 0, Nat.le_refl 0⟩ (fun H locs hP hD hS => ?_)
  refine lv_iadd hx hb dL_hangs_240 ?_
  refine lv_istore (lv' := [(4, .int (x4 + r190)), (3, .int (x3 + r188)), (2, .int (x2 + r186)), (1, .int (x1 + x9)), (0, .ref (a 0)), (5, .int x5), (6, .int x6), (7, .int x7), (8, .int x8), (9, .int x9)]) hx hb dL_hangs_241 hl (by decide) rfl (fun ls hl => ?_)
  refine lv_iload hx hb dL_hangs_243 (lv_at hl 5 rfl) ?_
  refine lv_aload_n hx hb dL_hangs_245 rfl (lv_at hl 4 rfl) ?_
  refine lv_iload hx hb dL_hangs_246 (lv_at hl 8 rfl) ?_
  refine lv_iconst (v := 0) hx hb dL_hangs_248 (by decide) ?_
  obtain ⟨r192, hu193, h⟩ := ob1_el h
  refine kbi (ci := 5) (q := (RX5, TX5, 8)) (bs := [tdW cI cC cE a t]) (cs := [tdW cI cC cE a t]) (cs' := [tdW cI cC cE a t]) (bs1 := [tdW cI cC cE a t]) ⟨hx, hb, hml, hown, hts⟩ [0] [] (cq_trader l D cI cC cE a _ t x8 0 r192 hu193) (cwV 2 hts gL_hangs_X5_trader rfl rfl rfl (by decide +kernel) ⟨Nat.le_of_ble_eq_true rfl, Nat.le_of_ble_eq_true rfl⟩) hK hP hD hS hA rfl rfl rfl rfl rfl rfl rfl rfl rfl hl.1 rfl (Nat.le_of_ble_eq_true rfl) dL_hangs_249 ⟨Nat.le_refl 0, Nat.le_refl 0⟩ (fun H locs hP hD hS => ?_)
  refine lv_if_le (tgt := 259) hx hb dL_hangs_252 (by decide) (fun c194 => ?_) (fun c194 => ?_)
  · have h := (k_iB h).1 c194
    refine lv_iconst (v := 0) hx hb dL_hangs_259 (by decide) ?_
    refine lv_iadd hx hb dL_hangs_260 ?_
    refine lv_istore (lv' := [(5, .int (x5 + 0)), (4, .int (x4 + r190)), (3, .int (x3 + r188)), (2, .int (x2 + r186)), (1, .int (x1 + x9)), (0, .ref (a 0)), (6, .int x6), (7, .int x7), (8, .int x8), (9, .int x9)]) hx hb dL_hangs_261 hl (by decide) rfl (fun ls hl => ?_)
    refine lv_iinc (v := (x8 + 1)) (lv' := [(8, .int (x8 + 1)), (5, .int (x5 + 0)), (4, .int (x4 + r190)), (3, .int (x3 + r188)), (2, .int (x2 + r186)), (1, .int (x1 + x9)), (0, .ref (a 0)), (6, .int x6), (7, .int x7), (9, .int x9)]) hx hb dL_hangs_263 hl (k := 8) rfl rfl (by decide) rfl (fun ls hl => ?_)
    refine lv_goto (tgt := 24) hx hb dL_hangs_266 (by decide) ?_
    exact hLP24 (x1 + x9) (x2 + r186) (x3 + r188) (x4 + r190) (x5 + 0) x6 x7 (x8 + 1) t _ _ hP hD hS _ (lv_sub hl [6, 5, 4, 3, 2, 1, 7, 8, 0] rfl) h
  · have h := (k_iB h).2 c194
    refine lv_iconst (v := 1) hx hb dL_hangs_255 (by decide) ?_
    refine lv_goto (tgt := 260) hx hb dL_hangs_256 (by decide) ?_
    refine lv_iadd hx hb dL_hangs_260 ?_
    refine lv_istore (lv' := [(5, .int (x5 + 1)), (4, .int (x4 + r190)), (3, .int (x3 + r188)), (2, .int (x2 + r186)), (1, .int (x1 + x9)), (0, .ref (a 0)), (6, .int x6), (7, .int x7), (8, .int x8), (9, .int x9)]) hx hb dL_hangs_261 hl (by decide) rfl (fun ls hl => ?_)
    refine lv_iinc (v := (x8 + 1)) (lv' := [(8, .int (x8 + 1)), (5, .int (x5 + 1)), (4, .int (x4 + r190)), (3, .int (x3 + r188)), (2, .int (x2 + r186)), (1, .int (x1 + x9)), (0, .ref (a 0)), (6, .int x6), (7, .int x7), (9, .int x9)]) hx hb dL_hangs_263 hl (k := 8) rfl rfl (by decide) rfl (fun ls hl => ?_)
    refine lv_goto (tgt := 24) hx hb dL_hangs_266 (by decide) ?_
    exact hLP24 (x1 + x9) (x2 + r186) (x3 + r188) (x4 + r190) (x5 + 1) x6 x7 (x8 + 1) t _ _ hP hD hS _ (lv_sub hl [6, 5, 4, 3, 2, 1, 7, 8, 0] rfl) h
set_option maxHeartbeats 16000000 in
set_option maxRecDepth 100000 in
theorem t_L_hangs_202 {p : Program} {l : Launch} {e : Env} {s : State} {m : MethodId} {below : List Frame} {meth : Method} {c : Code} {A : Nat → Prop} {Q : State → Prop} {D : va_G} {cI cC cE : ClassId} {a : Nat → Nat} {r0 : Int32} {o_t : Td} (hx : p.tables.exec = Jvm.exec) (hb : c.code = cL_hangs) (hml : c.maxLocals = 22) (hown : s.vm.findClass RL = some m.cls) (hts : ∀ w ∈ wsL_hangs, w.before [.ref (a 0)].toArray s = true) (hK : va_K D vwCl (kT cI cC cE) s) (hA : ∀ q, s.heap.size ≤ q → A q) (fin : ∀ (pc : Nat) (ls : Array Slot) (H : Heap) (locs : List Loc), (narrow .boolean (.int r0) = .int r0) → decode cL_hangs pc = .ok (.ireturn, 1) → va_P D vwCl (fl [tdW cI cC cE a o_t]) H → va_D A (fl [tdW cI cC cE a o_t]) → va_S A s.heap H locs → W p l e ({ frames := 6, cells := 0, slots := 0, locals := 140 } : Room) s m [.ref (a 0)].toArray below meth c H locs 0 0 Q (F0 m pc ls [.int r0])) (hz : narrow .boolean (.int r0) = .int r0) : ∀ (LP24 : Int32 → Int32 → Int32 → Int32 → Int32 → Int32 → Int32 → Int32 → Td → Option (Int32 × Td)), (∀ (x1 : Int32) (x2 : Int32) (x3 : Int32) (x4 : Int32) (x5 : Int32) (x6 : Int32) (x7 : Int32) (x8 : Int32) (t : Td) (H : Heap) (locs : List Loc), va_P D vwCl (fl [tdW cI cC cE a t]) H → va_D A (fl [tdW cI cC cE a t]) → va_S A s.heap H locs → ∀ (ls : Array Slot), lv_has ls 22 [(0, .ref (a 0)), (1, .int x1), (2, .int x2), (3, .int x3), (4, .int x4), (5, .int x5), (6, .int x6), (7, .int x7), (8, .int x8)] → LP24 x1 x2 x3 x4 x5 x6 x7 x8 t = some (r0, o_t) → W p l e ({ frames := 6, cells := 0, slots := 0, locals := 140 } : Room) s m [.ref (a 0)].toArray below meth c H locs 0 0 Q (F0 m 24 ls [])) → ∀ (x1 : Int32) (x2 : Int32) (x3 : Int32) (x4 : Int32) (x5 : Int32) (x7 : Int32) (x8 : Int32) (x9 : Int32) (t : Td) (H : Heap) (locs : List Loc), va_P D vwCl (fl [tdW cI cC cE a t]) H → va_D A (fl [tdW cI cC cE a t]) → va_S A s.heap H locs → ∀ (ls : Array Slot), lv_has ls 22 [(0, .ref (a 0)), (1, .int x1), (2, .int x2), (3, .int x3), (4, .int x4), (5, .int x5), (7, .int x7), (8, .int x8), (9, .int x9)] → j_L_hangs_202 LP24  x1 x2 x3 x4 x5 x7 x8 x9 t = some (r0, o_t) → W p l e ({ frames := 6, cells := 0, slots := 0, locals := 140 } : Room) s m [.ref (a 0)].toArray below meth c H locs 0 0 Q (F0 m 202 ls []) := by
  intro LP24 hLP24
  intro x1 x2 x3 x4 x5 x7 x8 x9 t H locs hP hD hS ls hl h
  dsimp only [j_L_hangs_202] at h
  refine lv_iconst (v := 0) hx hb dL_hangs_202 (by decide) ?_
  refine lv_istore (lv' := [(6, .int 0), (0, .ref (a 0)), (1, .int x1), (2, .int x2), (3, .int x3), (4, .int x4), (5, .int x5), (7, .int x7), (8, .int x8), (9, .int x9)]) hx hb dL_hangs_203 hl (by decide) rfl (fun ls hl => ?_)
  exact (t_L_hangs_205 hx hb hml hown hts hK hA fin hz) LP24 hLP24 x1 x2 x3 x4 x5 0 x7 x8 x9 t _ _ hP hD hS _ (lv_sub hl [1, 2, 3, 4, 5, 6, 0, 7, 8, 9] rfl) h
set_option maxHeartbeats 16000000 in
set_option maxRecDepth 100000 in
theorem t_L_hangs_155 {p : Program} {l : Launch} {e : Env} {s : State} {m : MethodId} {below : List Frame} {meth : Method} {c : Code} {A : Nat → Prop} {Q : State → Prop} {D : va_G} {cI cC cE : ClassId} {a : Nat → Nat} {r0 : Int32} {o_t : Td} (hx : p.tables.exec = Jvm.exec) (hb : c.code = cL_hangs) (hml : c.maxLocals = 22) (hown : s.vm.findClass RL = some m.cls) (hts : ∀ w ∈ wsL_hangs, w.before [.ref (a 0)].toArray s = true) (hK : va_K D vwCl (kT cI cC cE) s) (hA : ∀ q, s.heap.size ≤ q → A q) (fin : ∀ (pc : Nat) (ls : Array Slot) (H : Heap) (locs : List Loc), (narrow .boolean (.int r0) = .int r0) → decode cL_hangs pc = .ok (.ireturn, 1) → va_P D vwCl (fl [tdW cI cC cE a o_t]) H → va_D A (fl [tdW cI cC cE a o_t]) → va_S A s.heap H locs → W p l e ({ frames := 6, cells := 0, slots := 0, locals := 140 } : Room) s m [.ref (a 0)].toArray below meth c H locs 0 0 Q (F0 m pc ls [.int r0])) (hz : narrow .boolean (.int r0) = .int r0) : ∀ (LP24 : Int32 → Int32 → Int32 → Int32 → Int32 → Int32 → Int32 → Int32 → Td → Option (Int32 × Td)), (∀ (x1 : Int32) (x2 : Int32) (x3 : Int32) (x4 : Int32) (x5 : Int32) (x6 : Int32) (x7 : Int32) (x8 : Int32) (t : Td) (H : Heap) (locs : List Loc), va_P D vwCl (fl [tdW cI cC cE a t]) H → va_D A (fl [tdW cI cC cE a t]) → va_S A s.heap H locs → ∀ (ls : Array Slot), lv_has ls 22 [(0, .ref (a 0)), (1, .int x1), (2, .int x2), (3, .int x3), (4, .int x4), (5, .int x5), (6, .int x6), (7, .int x7), (8, .int x8)] → LP24 x1 x2 x3 x4 x5 x6 x7 x8 t = some (r0, o_t) → W p l e ({ frames := 6, cells := 0, slots := 0, locals := 140 } : Room) s m [.ref (a 0)].toArray below meth c H locs 0 0 Q (F0 m 24 ls [])) → ∀ (x1 : Int32) (x2 : Int32) (x3 : Int32) (x4 : Int32) (x5 : Int32) (x7 : Int32) (x8 : Int32) (x9 : Int32) (t : Td) (H : Heap) (locs : List Loc), va_P D vwCl (fl [tdW cI cC cE a t]) H → va_D A (fl [tdW cI cC cE a t]) → va_S A s.heap H locs → ∀ (ls : Array Slot), lv_has ls 22 [(0, .ref (a 0)), (1, .int x1), (2, .int x2), (3, .int x3), (4, .int x4), (5, .int x5), (7, .int x7), (8, .int x8), (9, .int x9)] → j_L_hangs_155 LP24  x1 x2 x3 x4 x5 x7 x8 x9 t = some (r0, o_t) → W p l e ({ frames := 6, cells := 0, slots := 0, locals := 140 } : Room) s m [.ref (a 0)].toArray below meth c H locs 0 0 Q (F0 m 155 ls []) := by
  intro LP24 hLP24
  intro x1 x2 x3 x4 x5 x7 x8 x9 t H locs hP hD hS ls hl h
  dsimp only [j_L_hangs_155] at h
  refine lv_aload_n hx hb dL_hangs_155 rfl (lv_at hl 0 rfl) ?_
  refine lv_iload hx hb dL_hangs_156 (lv_at hl 7 rfl) ?_
  refine lv_iconst (v := 3) hx hb dL_hangs_158 (by decide) ?_
  obtain ⟨r213, hu214, h⟩ := ob1_el h
  refine kbi (ci := 5) (q := (RX5, TX5, 8)) (bs := [tdW cI cC cE a t]) (cs := [tdW cI cC cE a t]) (cs' := [tdW cI cC cE a t]) (bs1 := [tdW cI cC cE a t]) ⟨hx, hb, hml, hown, hts⟩ [0] [] (cq_trader l D cI cC cE a _ t x8 3 r213 hu214) (cwV 2 hts gL_hangs_X5_trader rfl rfl rfl (by decide +kernel) ⟨Nat.le_of_ble_eq_true rfl, Nat.le_of_ble_eq_true rfl⟩) hK hP hD hS hA rfl rfl rfl rfl rfl rfl rfl rfl rfl hl.1 rfl (Nat.le_of_ble_eq_true rfl) dL_hangs_159 ⟨Nat.le_refl 0, Nat.le_refl 0⟩ (fun H locs hP hD hS => ?_)
  refine lv_aload_n hx hb dL_hangs_162 rfl (lv_at hl 0 rfl) ?_
  refine lv_iload hx hb dL_hangs_163 (lv_at hl 7 rfl) ?_
  refine lv_iconst (v := 2) hx hb dL_hangs_165 (by decide) ?_
  obtain ⟨r215, hu216, h⟩ := ob1_el h
  refine kbi (ci := 5) (q := (RX5, TX5, 8)) (bs := [tdW cI cC cE a t]) (cs := [tdW cI cC cE a t]) (cs' := [tdW cI cC cE a t]) (bs1 := [tdW cI cC cE a t]) ⟨hx, hb, hml, hown, hts⟩ [0] [] (cq_trader l D cI cC cE a _ t x8 2 r215 hu216) (cwV 2 hts gL_hangs_X5_trader rfl rfl rfl (by decide +kernel) ⟨Nat.le_of_ble_eq_true rfl, Nat.le_of_ble_eq_true rfl⟩) hK hP hD hS hA rfl rfl rfl rfl rfl rfl rfl rfl rfl hl.1 rfl (Nat.le_of_ble_eq_true rfl) dL_hangs_166 ⟨Nat.le_refl 0, Nat.le_refl 0⟩ (fun H locs hP hD hS => ?_)
  refine lv_icmp_gt (tgt := 202) hx hb dL_hangs_169 (by decide) (fun c217 => ?_) (fun c217 => ?_)
  · have h := (k_iB h).1 c217
    exact (t_L_hangs_202 hx hb hml hown hts hK hA fin hz) LP24 hLP24 x1 x2 x3 x4 x5 x7 x8 x9 t _ _ hP hD hS _ (lv_sub hl [0, 1, 2, 3, 4, 5, 6, 7, 8] rfl) h
  · have h := (k_iB h).2 c217
    refine lv_aload_n hx hb dL_hangs_172 rfl (lv_at hl 0 rfl) ?_
    refine lv_iload hx hb dL_hangs_173 (lv_at hl 7 rfl) ?_
    refine lv_iconst (v := 5) hx hb dL_hangs_175 (by decide) ?_
    obtain ⟨r218, hu219, h⟩ := ob1_el h
    refine kbi (ci := 5) (q := (RX5, TX5, 8)) (bs := [tdW cI cC cE a t]) (cs := [tdW cI cC cE a t]) (cs' := [tdW cI cC cE a t]) (bs1 := [tdW cI cC cE a t]) ⟨hx, hb, hml, hown, hts⟩ [0] [] (cq_trader l D cI cC cE a _ t x8 5 r218 hu219) (cwV 2 hts gL_hangs_X5_trader rfl rfl rfl (by decide +kernel) ⟨Nat.le_of_ble_eq_true rfl, Nat.le_of_ble_eq_true rfl⟩) hK hP hD hS hA rfl rfl rfl rfl rfl rfl rfl rfl rfl hl.1 rfl (Nat.le_of_ble_eq_true rfl) dL_hangs_176 ⟨Nat.le_refl 0, Nat.le_refl 0⟩ (fun H locs hP hD hS => ?_)
    refine lv_aload_n hx hb dL_hangs_179 rfl (lv_at hl 0 rfl) ?_
    refine lv_iload hx hb dL_hangs_180 (lv_at hl 7 rfl) ?_
    refine lv_bipush (v := 6) hx hb dL_hangs_182 (by decide) ?_
    obtain ⟨r220, hu221, h⟩ := ob1_el h
    refine kbi (ci := 5) (q := (RX5, TX5, 8)) (bs := [tdW cI cC cE a t]) (cs := [tdW cI cC cE a t]) (cs' := [tdW cI cC cE a t]) (bs1 := [tdW cI cC cE a t]) ⟨hx, hb, hml, hown, hts⟩ [0] [] (cq_trader l D cI cC cE a _ t x8 6 r220 hu221) (cwV 2 hts gL_hangs_X5_trader rfl rfl rfl (by decide +kernel) ⟨Nat.le_of_ble_eq_true rfl, Nat.le_of_ble_eq_true rfl⟩) hK hP hD hS hA rfl rfl rfl rfl rfl rfl rfl rfl rfl hl.1 rfl (Nat.le_of_ble_eq_true rfl) dL_hangs_184 ⟨Nat.le_refl 0, Nat.le_refl 0⟩ (fun H locs hP hD hS => ?_)
    refine lv_iadd hx hb dL_hangs_187 ?_
    refine lv_aload_n hx hb dL_hangs_188 rfl (lv_at hl 0 rfl) ?_
    refine lv_iload hx hb dL_hangs_189 (lv_at hl 7 rfl) ?_
    refine lv_iconst (v := 4) hx hb dL_hangs_191 (by decide) ?_
    obtain ⟨r222, hu223, h⟩ := ob1_el h
    refine kbi (ci := 5) (q := (RX5, TX5, 8)) (bs := [tdW cI cC cE a t]) (cs := [tdW cI cC cE a t]) (cs' := [tdW cI cC cE a t]) (bs1 := [tdW cI cC cE a t]) ⟨hx, hb, hml, hown, hts⟩ [0] [] (cq_trader l D cI cC cE a _ t x8 4 r222 hu223) (cwV 2 hts gL_hangs_X5_trader rfl rfl rfl (by decide +kernel) ⟨Nat.le_of_ble_eq_true rfl, Nat.le_of_ble_eq_true rfl⟩) hK hP hD hS hA rfl rfl rfl rfl rfl rfl rfl rfl rfl hl.1 rfl (Nat.le_of_ble_eq_true rfl) dL_hangs_192 ⟨Nat.le_refl 0, Nat.le_refl 0⟩ (fun H locs hP hD hS => ?_)
    refine lv_icmp_gt (tgt := 202) hx hb dL_hangs_195 (by decide) (fun c224 => ?_) (fun c224 => ?_)
    · have h := (k_iB h).1 c224
      exact (t_L_hangs_202 hx hb hml hown hts hK hA fin hz) LP24 hLP24 x1 x2 x3 x4 x5 x7 x8 x9 t _ _ hP hD hS _ (lv_sub hl [0, 1, 2, 3, 4, 5, 6, 7, 8] rfl) h
    · have h := (k_iB h).2 c224
      refine lv_iconst (v := 1) hx hb dL_hangs_198 (by decide) ?_
      refine lv_goto (tgt := 203) hx hb dL_hangs_199 (by decide) ?_
      refine lv_istore (lv' := [(6, .int 1), (0, .ref (a 0)), (1, .int x1), (2, .int x2), (3, .int x3), (4, .int x4), (5, .int x5), (7, .int x7), (8, .int x8), (9, .int x9)]) hx hb dL_hangs_203 hl (by decide) rfl (fun ls hl => ?_)
      exact (t_L_hangs_205 hx hb hml hown hts hK hA fin hz) LP24 hLP24 x1 x2 x3 x4 x5 1 x7 x8 x9 t _ _ hP hD hS _ (lv_sub hl [1, 2, 3, 4, 5, 6, 0, 7, 8, 9] rfl) h
set_option maxHeartbeats 16000000 in
set_option maxRecDepth 100000 in
theorem t_L_hangs_93 {p : Program} {l : Launch} {e : Env} {s : State} {m : MethodId} {below : List Frame} {meth : Method} {c : Code} {A : Nat → Prop} {Q : State → Prop} {D : va_G} {cI cC cE : ClassId} {a : Nat → Nat} {r0 : Int32} {o_t : Td} (hx : p.tables.exec = Jvm.exec) (hb : c.code = cL_hangs) (hml : c.maxLocals = 22) (hown : s.vm.findClass RL = some m.cls) (hts : ∀ w ∈ wsL_hangs, w.before [.ref (a 0)].toArray s = true) (hK : va_K D vwCl (kT cI cC cE) s) (hA : ∀ q, s.heap.size ≤ q → A q) (fin : ∀ (pc : Nat) (ls : Array Slot) (H : Heap) (locs : List Loc), (narrow .boolean (.int r0) = .int r0) → decode cL_hangs pc = .ok (.ireturn, 1) → va_P D vwCl (fl [tdW cI cC cE a o_t]) H → va_D A (fl [tdW cI cC cE a o_t]) → va_S A s.heap H locs → W p l e ({ frames := 6, cells := 0, slots := 0, locals := 140 } : Room) s m [.ref (a 0)].toArray below meth c H locs 0 0 Q (F0 m pc ls [.int r0])) (hz : narrow .boolean (.int r0) = .int r0) : ∀ (LP24 : Int32 → Int32 → Int32 → Int32 → Int32 → Int32 → Int32 → Int32 → Td → Option (Int32 × Td)), (∀ (x1 : Int32) (x2 : Int32) (x3 : Int32) (x4 : Int32) (x5 : Int32) (x6 : Int32) (x7 : Int32) (x8 : Int32) (t : Td) (H : Heap) (locs : List Loc), va_P D vwCl (fl [tdW cI cC cE a t]) H → va_D A (fl [tdW cI cC cE a t]) → va_S A s.heap H locs → ∀ (ls : Array Slot), lv_has ls 22 [(0, .ref (a 0)), (1, .int x1), (2, .int x2), (3, .int x3), (4, .int x4), (5, .int x5), (6, .int x6), (7, .int x7), (8, .int x8)] → LP24 x1 x2 x3 x4 x5 x6 x7 x8 t = some (r0, o_t) → W p l e ({ frames := 6, cells := 0, slots := 0, locals := 140 } : Room) s m [.ref (a 0)].toArray below meth c H locs 0 0 Q (F0 m 24 ls [])) → ∀ (x1 : Int32) (x2 : Int32) (x3 : Int32) (x4 : Int32) (x5 : Int32) (x7 : Int32) (x8 : Int32) (x9 : Int32) (t : Td) (H : Heap) (locs : List Loc), va_P D vwCl (fl [tdW cI cC cE a t]) H → va_D A (fl [tdW cI cC cE a t]) → va_S A s.heap H locs → ∀ (ls : Array Slot), lv_has ls 22 [(0, .ref (a 0)), (1, .int x1), (2, .int x2), (3, .int x3), (4, .int x4), (5, .int x5), (7, .int x7), (8, .int x8), (9, .int x9)] → j_L_hangs_93 LP24  x1 x2 x3 x4 x5 x7 x8 x9 t = some (r0, o_t) → W p l e ({ frames := 6, cells := 0, slots := 0, locals := 140 } : Room) s m [.ref (a 0)].toArray below meth c H locs 0 0 Q (F0 m 93 ls []) := by
  intro LP24 hLP24
  intro x1 x2 x3 x4 x5 x7 x8 x9 t H locs hP hD hS ls hl h
  dsimp only [j_L_hangs_93] at h
  refine lv_aload_n hx hb dL_hangs_93 rfl (lv_at hl 0 rfl) ?_
  refine lv_iload hx hb dL_hangs_94 (lv_at hl 7 rfl) ?_
  obtain ⟨r201, hu202, h⟩ := ob1_el h
  refine kbi (ci := 5) (q := (RX5, TX5, 8)) (bs := [tdW cI cC cE a t]) (cs := [tdW cI cC cE a t]) (cs' := [tdW cI cC cE a t]) (bs1 := [tdW cI cC cE a t]) ⟨hx, hb, hml, hown, hts⟩ [0] [] (cq_account l D cI cC cE a _ t x8 r201 hu202) (cwV 1 hts gL_hangs_X5_account rfl rfl rfl (by decide +kernel) ⟨Nat.le_of_ble_eq_true rfl, Nat.le_of_ble_eq_true rfl⟩) hK hP hD hS hA rfl rfl rfl rfl rfl rfl rfl rfl rfl hl.1 rfl (Nat.le_of_ble_eq_true rfl) dL_hangs_96 ⟨Nat.le_refl 0, Nat.le_refl 0⟩ (fun H locs hP hD hS => ?_)
  refine lv_iload hx hb dL_hangs_99 (lv_at hl 8 rfl) ?_
  refine lv_ldc (v := 100000) hx hb hown (hts (.constant RL 68 (100000)) (List.mem_of_getElem? (i := 1) rfl)) dL_hangs_101 ?_
  refine lv_iadd hx hb dL_hangs_103 ?_
  refine lv_icmp_ne (tgt := 202) hx hb dL_hangs_104 (by decide) (fun c203 => ?_) (fun c203 => ?_)
  · have h := (k_iB h).2 c203
    exact (t_L_hangs_202 hx hb hml hown hts hK hA fin hz) LP24 hLP24 x1 x2 x3 x4 x5 x7 x8 x9 t _ _ hP hD hS _ (lv_sub hl [0, 1, 2, 3, 4, 5, 6, 7, 8] rfl) h
  · have h := (k_iB h).1 c203
    refine lv_aload_n hx hb dL_hangs_107 rfl (lv_at hl 0 rfl) ?_
    refine lv_iload hx hb dL_hangs_108 (lv_at hl 7 rfl) ?_
    refine lv_bipush (v := 7) hx hb dL_hangs_110 (by decide) ?_
    obtain ⟨r204, hu205, h⟩ := ob1_el h
    refine kbi (ci := 5) (q := (RX5, TX5, 8)) (bs := [tdW cI cC cE a t]) (cs := [tdW cI cC cE a t]) (cs' := [tdW cI cC cE a t]) (bs1 := [tdW cI cC cE a t]) ⟨hx, hb, hml, hown, hts⟩ [0] [] (cq_trader l D cI cC cE a _ t x8 7 r204 hu205) (cwV 2 hts gL_hangs_X5_trader rfl rfl rfl (by decide +kernel) ⟨Nat.le_of_ble_eq_true rfl, Nat.le_of_ble_eq_true rfl⟩) hK hP hD hS hA rfl rfl rfl rfl rfl rfl rfl rfl rfl hl.1 rfl (Nat.le_of_ble_eq_true rfl) dL_hangs_112 ⟨Nat.le_refl 0, Nat.le_refl 0⟩ (fun H locs hP hD hS => ?_)
    refine lv_if_lt (tgt := 202) hx hb dL_hangs_115 (by decide) (fun c206 => ?_) (fun c206 => ?_)
    · have h := (k_iB h).1 c206
      exact (t_L_hangs_202 hx hb hml hown hts hK hA fin hz) LP24 hLP24 x1 x2 x3 x4 x5 x7 x8 x9 t _ _ hP hD hS _ (lv_sub hl [0, 1, 2, 3, 4, 5, 6, 7, 8] rfl) h
    · have h := (k_iB h).2 c206
      refine lv_aload_n hx hb dL_hangs_118 rfl (lv_at hl 0 rfl) ?_
      refine lv_iload hx hb dL_hangs_119 (lv_at hl 6 rfl) ?_
      obtain ⟨r207, hu208, h⟩ := ob1_el h
      refine kbi (ci := 5) (q := (RX5, TX5, 8)) (bs := [tdW cI cC cE a t]) (cs := [tdW cI cC cE a t]) (cs' := [tdW cI cC cE a t]) (bs1 := [tdW cI cC cE a t]) ⟨hx, hb, hml, hown, hts⟩ [0] [] (cq_account l D cI cC cE a _ t x7 r207 hu208) (cwV 1 hts gL_hangs_X5_account rfl rfl rfl (by decide +kernel) ⟨Nat.le_of_ble_eq_true rfl, Nat.le_of_ble_eq_true rfl⟩) hK hP hD hS hA rfl rfl rfl rfl rfl rfl rfl rfl rfl hl.1 rfl (Nat.le_of_ble_eq_true rfl) dL_hangs_121 ⟨Nat.le_refl 0, Nat.le_refl 0⟩ (fun H locs hP hD hS => ?_)
      refine lv_aload_n hx hb dL_hangs_124 rfl (lv_at hl 0 rfl) ?_
      refine lv_iload hx hb dL_hangs_125 (lv_at hl 7 rfl) ?_
      obtain ⟨r209, hu210, h⟩ := ob1_el h
      refine kbi (ci := 5) (q := (RX5, TX5, 8)) (bs := [tdW cI cC cE a t]) (cs := [tdW cI cC cE a t]) (cs' := [tdW cI cC cE a t]) (bs1 := [tdW cI cC cE a t]) ⟨hx, hb, hml, hown, hts⟩ [0] [] (cq_account l D cI cC cE a _ t x8 r209 hu210) (cwV 1 hts gL_hangs_X5_account rfl rfl rfl (by decide +kernel) ⟨Nat.le_of_ble_eq_true rfl, Nat.le_of_ble_eq_true rfl⟩) hK hP hD hS hA rfl rfl rfl rfl rfl rfl rfl rfl rfl hl.1 rfl (Nat.le_of_ble_eq_true rfl) dL_hangs_127 ⟨Nat.le_refl 0, Nat.le_refl 0⟩ (fun H locs hP hD hS => ?_)
      refine lv_icmp_lt (tgt := 202) hx hb dL_hangs_130 (by decide) (fun c211 => ?_) (fun c211 => ?_)
      · have h := (k_iB h).1 c211
        exact (t_L_hangs_202 hx hb hml hown hts hK hA fin hz) LP24 hLP24 x1 x2 x3 x4 x5 x7 x8 x9 t _ _ hP hD hS _ (lv_sub hl [0, 1, 2, 3, 4, 5, 6, 7, 8] rfl) h
      · have h := (k_iB h).2 c211
        refine lv_iload hx hb dL_hangs_133 (lv_at hl 7 rfl) ?_
        refine lv_iload hx hb dL_hangs_135 (lv_at hl 6 rfl) ?_
        refine lv_icmp_ge (tgt := 155) hx hb dL_hangs_137 (by decide) (fun c212 => ?_) (fun c212 => ?_)
        · have h := (k_iB h).1 c212
          exact (t_L_hangs_155 hx hb hml hown hts hK hA fin hz) LP24 hLP24 x1 x2 x3 x4 x5 x7 x8 x9 t _ _ hP hD hS _ (lv_sub hl [0, 1, 2, 3, 4, 5, 6, 7, 8] rfl) h
        · have h := (k_iB h).2 c212
          refine lv_aload_n hx hb dL_hangs_140 rfl (lv_at hl 0 rfl) ?_
          refine lv_iload hx hb dL_hangs_141 (lv_at hl 6 rfl) ?_
          obtain ⟨r225, hu226, h⟩ := ob1_el h
          refine kbi (ci := 5) (q := (RX5, TX5, 8)) (bs := [tdW cI cC cE a t]) (cs := [tdW cI cC cE a t]) (cs' := [tdW cI cC cE a t]) (bs1 := [tdW cI cC cE a t]) ⟨hx, hb, hml, hown, hts⟩ [0] [] (cq_account l D cI cC cE a _ t x7 r225 hu226) (cwV 1 hts gL_hangs_X5_account rfl rfl rfl (by decide +kernel) ⟨Nat.le_of_ble_eq_true rfl, Nat.le_of_ble_eq_true rfl⟩) hK hP hD hS hA rfl rfl rfl rfl rfl rfl rfl rfl rfl hl.1 rfl (Nat.le_of_ble_eq_true rfl) dL_hangs_143 ⟨Nat.le_refl 0, Nat.le_refl 0⟩ (fun H locs hP hD hS => ?_)
          refine lv_aload_n hx hb dL_hangs_146 rfl (lv_at hl 0 rfl) ?_
          refine lv_iload hx hb dL_hangs_147 (lv_at hl 7 rfl) ?_
          obtain ⟨r227, hu228, h⟩ := ob1_el h
          refine kbi (ci := 5) (q := (RX5, TX5, 8)) (bs := [tdW cI cC cE a t]) (cs := [tdW cI cC cE a t]) (cs' := [tdW cI cC cE a t]) (bs1 := [tdW cI cC cE a t]) ⟨hx, hb, hml, hown, hts⟩ [0] [] (cq_account l D cI cC cE a _ t x8 r227 hu228) (cwV 1 hts gL_hangs_X5_account rfl rfl rfl (by decide +kernel) ⟨Nat.le_of_ble_eq_true rfl, Nat.le_of_ble_eq_true rfl⟩) hK hP hD hS hA rfl rfl rfl rfl rfl rfl rfl rfl rfl hl.1 rfl (Nat.le_of_ble_eq_true rfl) dL_hangs_149 ⟨Nat.le_refl 0, Nat.le_refl 0⟩ (fun H locs hP hD hS => ?_)
          refine lv_icmp_le (tgt := 202) hx hb dL_hangs_152 (by decide) (fun c229 => ?_) (fun c229 => ?_)
          · have h := (k_iB h).1 c229
            exact (t_L_hangs_202 hx hb hml hown hts hK hA fin hz) LP24 hLP24 x1 x2 x3 x4 x5 x7 x8 x9 t _ _ hP hD hS _ (lv_sub hl [0, 1, 2, 3, 4, 5, 6, 7, 8] rfl) h
          · have h := (k_iB h).2 c229
            exact (t_L_hangs_155 hx hb hml hown hts hK hA fin hz) LP24 hLP24 x1 x2 x3 x4 x5 x7 x8 x9 t _ _ hP hD hS _ (lv_sub hl [0, 1, 2, 3, 4, 5, 6, 7, 8] rfl) h
set_option maxHeartbeats 16000000 in
set_option maxRecDepth 100000 in
theorem t_L_hangs_24 {p : Program} {l : Launch} {e : Env} {s : State} {m : MethodId} {below : List Frame} {meth : Method} {c : Code} {A : Nat → Prop} {Q : State → Prop} {D : va_G} {cI cC cE : ClassId} {a : Nat → Nat} {r0 : Int32} {o_t : Td} (hx : p.tables.exec = Jvm.exec) (hb : c.code = cL_hangs) (hml : c.maxLocals = 22) (hown : s.vm.findClass RL = some m.cls) (hts : ∀ w ∈ wsL_hangs, w.before [.ref (a 0)].toArray s = true) (hK : va_K D vwCl (kT cI cC cE) s) (hA : ∀ q, s.heap.size ≤ q → A q) (fin : ∀ (pc : Nat) (ls : Array Slot) (H : Heap) (locs : List Loc), (narrow .boolean (.int r0) = .int r0) → decode cL_hangs pc = .ok (.ireturn, 1) → va_P D vwCl (fl [tdW cI cC cE a o_t]) H → va_D A (fl [tdW cI cC cE a o_t]) → va_S A s.heap H locs → W p l e ({ frames := 6, cells := 0, slots := 0, locals := 140 } : Room) s m [.ref (a 0)].toArray below meth c H locs 0 0 Q (F0 m pc ls [.int r0])) (hz : narrow .boolean (.int r0) = .int r0) : ∀ (k : Nat), ∀ (x1 : Int32) (x2 : Int32) (x3 : Int32) (x4 : Int32) (x5 : Int32) (x6 : Int32) (x7 : Int32) (x8 : Int32) (t : Td) (H : Heap) (locs : List Loc), va_P D vwCl (fl [tdW cI cC cE a t]) H → va_D A (fl [tdW cI cC cE a t]) → va_S A s.heap H locs → ∀ (ls : Array Slot), lv_has ls 22 [(0, .ref (a 0)), (1, .int x1), (2, .int x2), (3, .int x3), (4, .int x4), (5, .int x5), (6, .int x6), (7, .int x7), (8, .int x8)] → lp_L_hangs_24   k x1 x2 x3 x4 x5 x6 x7 x8 t = some (r0, o_t) → W p l e ({ frames := 6, cells := 0, slots := 0, locals := 140 } : Room) s m [.ref (a 0)].toArray below meth c H locs 0 0 Q (F0 m 24 ls []) := by
  intro k
  induction k with
  | zero =>
    intro x1 x2 x3 x4 x5 x6 x7 x8 t H locs hP hD hS ls hl h
    exact k_none h
  | succ k ih =>
    intro x1 x2 x3 x4 x5 x6 x7 x8 t H locs hP hD hS ls hl h
    dsimp only [lp_L_hangs_24] at h
    refine lv_iload hx hb dL_hangs_24 (lv_at hl 8 rfl) ?_
    refine lv_bipush (v := 8) hx hb dL_hangs_26 (by decide) ?_
    refine lv_icmp_ge (tgt := 269) hx hb dL_hangs_28 (by decide) (fun c3 => ?_) (fun c3 => ?_)
    · have h := (k_iB h).1 c3
      exact (t_L_hangs_269 hx hb hml hown hts hK hA fin hz)   x1 x2 x3 x4 x5 x6 t _ _ hP hD hS _ (lv_sub hl [0, 1, 2, 3, 4, 5, 6] rfl) h
    · have h := (k_iB h).2 c3
      refine lv_iload hx hb dL_hangs_31 (lv_at hl 6 rfl) ?_
      refine lv_if_eq (tgt := 269) hx hb dL_hangs_33 (by decide) (fun c178 => ?_) (fun c178 => ?_)
      · have h := (k_iB h).1 c178
        exact (t_L_hangs_269 hx hb hml hown hts hK hA fin hz)   x1 x2 x3 x4 x5 x6 t _ _ hP hD hS _ (lv_sub hl [0, 1, 2, 3, 4, 5, 6] rfl) h
      · have h := (k_iB h).2 c178
        refine lv_aload_n hx hb dL_hangs_36 rfl (lv_at hl 0 rfl) ?_
        refine lv_iload hx hb dL_hangs_37 (lv_at hl 8 rfl) ?_
        refine lv_iconst (v := 1) hx hb dL_hangs_39 (by decide) ?_
        obtain ⟨r179, hu180, h⟩ := ob1_el h
        refine kbi (ci := 5) (q := (RX5, TX5, 8)) (bs := [tdW cI cC cE a t]) (cs := [tdW cI cC cE a t]) (cs' := [tdW cI cC cE a t]) (bs1 := [tdW cI cC cE a t]) ⟨hx, hb, hml, hown, hts⟩ [0] [] (cq_trader l D cI cC cE a _ t x8 1 r179 hu180) (cwV 2 hts gL_hangs_X5_trader rfl rfl rfl (by decide +kernel) ⟨Nat.le_of_ble_eq_true rfl, Nat.le_of_ble_eq_true rfl⟩) hK hP hD hS hA rfl rfl rfl rfl rfl rfl rfl rfl rfl hl.1 rfl (Nat.le_of_ble_eq_true rfl) dL_hangs_40 ⟨Nat.le_refl 0, Nat.le_refl 0⟩ (fun H locs hP hD hS => ?_)
        refine lv_aload_n hx hb dL_hangs_43 rfl (lv_at hl 0 rfl) ?_
        refine lv_iload hx hb dL_hangs_44 (lv_at hl 8 rfl) ?_
        refine lv_iconst (v := 0) hx hb dL_hangs_46 (by decide) ?_
        obtain ⟨r181, hu182, h⟩ := ob1_el h
        refine kbi (ci := 5) (q := (RX5, TX5, 8)) (bs := [tdW cI cC cE a t]) (cs := [tdW cI cC cE a t]) (cs' := [tdW cI cC cE a t]) (bs1 := [tdW cI cC cE a t]) ⟨hx, hb, hml, hown, hts⟩ [0] [] (cq_trader l D cI cC cE a _ t x8 0 r181 hu182) (cwV 2 hts gL_hangs_X5_trader rfl rfl rfl (by decide +kernel) ⟨Nat.le_of_ble_eq_true rfl, Nat.le_of_ble_eq_true rfl⟩) hK hP hD hS hA rfl rfl rfl rfl rfl rfl rfl rfl rfl hl.1 rfl (Nat.le_of_ble_eq_true rfl) dL_hangs_47 ⟨Nat.le_refl 0, Nat.le_refl 0⟩ (fun H locs hP hD hS => ?_)
        refine lv_isub hx hb dL_hangs_50 ?_
        refine lv_istore (lv' := [(9, .int (r179 - r181)), (0, .ref (a 0)), (1, .int x1), (2, .int x2), (3, .int x3), (4, .int x4), (5, .int x5), (6, .int x6), (7, .int x7), (8, .int x8)]) hx hb dL_hangs_51 hl (by decide) rfl (fun ls hl => ?_)
        refine lv_aload_n hx hb dL_hangs_53 rfl (lv_at hl 1 rfl) ?_
        refine lv_iload hx hb dL_hangs_54 (lv_at hl 9 rfl) ?_
        refine lv_iconst (v := 0) hx hb dL_hangs_56 (by decide) ?_
        obtain ⟨r183, hu184, h⟩ := ob1_el h
        refine kbi (ci := 5) (q := (RX5, TX5, 8)) (bs := [tdW cI cC cE a t]) (cs := [tdW cI cC cE a t]) (cs' := [tdW cI cC cE a t]) (bs1 := [tdW cI cC cE a t]) ⟨hx, hb, hml, hown, hts⟩ [0] [] (cq_trader l D cI cC cE a _ t x8 0 r183 hu184) (cwV 2 hts gL_hangs_X5_trader rfl rfl rfl (by decide +kernel) ⟨Nat.le_of_ble_eq_true rfl, Nat.le_of_ble_eq_true rfl⟩) hK hP hD hS hA rfl rfl rfl rfl rfl rfl rfl rfl rfl hl.1 rfl (Nat.le_of_ble_eq_true rfl) dL_hangs_57 ⟨Nat.le_refl 0, Nat.le_refl 0⟩ (fun H locs hP hD hS => ?_)
        refine lv_if_lt (tgt := 202) hx hb dL_hangs_60 (by decide) (fun c185 => ?_) (fun c185 => ?_)
        · have h := (k_iB h).1 c185
          exact (t_L_hangs_202 hx hb hml hown hts hK hA fin hz) (lp_L_hangs_24   k) ih x1 x2 x3 x4 x5 x7 x8 (r179 - r181) t _ _ hP hD hS _ (lv_sub hl [1, 2, 3, 4, 5, 6, 8, 9, 0] rfl) h
        · have h := (k_iB h).2 c185
          refine lv_aload_n hx hb dL_hangs_63 rfl (lv_at hl 1 rfl) ?_
          refine lv_iload hx hb dL_hangs_64 (lv_at hl 9 rfl) ?_
          refine lv_iconst (v := 1) hx hb dL_hangs_66 (by decide) ?_
          obtain ⟨r195, hu196, h⟩ := ob1_el h
          refine kbi (ci := 5) (q := (RX5, TX5, 8)) (bs := [tdW cI cC cE a t]) (cs := [tdW cI cC cE a t]) (cs' := [tdW cI cC cE a t]) (bs1 := [tdW cI cC cE a t]) ⟨hx, hb, hml, hown, hts⟩ [0] [] (cq_trader l D cI cC cE a _ t x8 1 r195 hu196) (cwV 2 hts gL_hangs_X5_trader rfl rfl rfl (by decide +kernel) ⟨Nat.le_of_ble_eq_true rfl, Nat.le_of_ble_eq_true rfl⟩) hK hP hD hS hA rfl rfl rfl rfl rfl rfl rfl rfl rfl hl.1 rfl (Nat.le_of_ble_eq_true rfl) dL_hangs_67 ⟨Nat.le_refl 0, Nat.le_refl 0⟩ (fun H locs hP hD hS => ?_)
          refine lv_if_lt (tgt := 202) hx hb dL_hangs_70 (by decide) (fun c197 => ?_) (fun c197 => ?_)
          · have h := (k_iB h).1 c197
            exact (t_L_hangs_202 hx hb hml hown hts hK hA fin hz) (lp_L_hangs_24   k) ih x1 x2 x3 x4 x5 x7 x8 (r179 - r181) t _ _ hP hD hS _ (lv_sub hl [1, 2, 3, 4, 5, 6, 8, 9, 0] rfl) h
          · have h := (k_iB h).2 c197
            refine lv_aload_n hx hb dL_hangs_73 rfl (lv_at hl 1 rfl) ?_
            refine lv_iload hx hb dL_hangs_74 (lv_at hl 9 rfl) ?_
            refine lv_iconst (v := 0) hx hb dL_hangs_76 (by decide) ?_
            obtain ⟨r198, hu199, h⟩ := ob1_el h
            refine kbi (ci := 5) (q := (RX5, TX5, 8)) (bs := [tdW cI cC cE a t]) (cs := [tdW cI cC cE a t]) (cs' := [tdW cI cC cE a t]) (bs1 := [tdW cI cC cE a t]) ⟨hx, hb, hml, hown, hts⟩ [0] [] (cq_trader l D cI cC cE a _ t x8 0 r198 hu199) (cwV 2 hts gL_hangs_X5_trader rfl rfl rfl (by decide +kernel) ⟨Nat.le_of_ble_eq_true rfl, Nat.le_of_ble_eq_true rfl⟩) hK hP hD hS hA rfl rfl rfl rfl rfl rfl rfl rfl rfl hl.1 rfl (Nat.le_of_ble_eq_true rfl) dL_hangs_77 ⟨Nat.le_refl 0, Nat.le_refl 0⟩ (fun H locs hP hD hS => ?_)
            refine lv_if_eq (tgt := 93) hx hb dL_hangs_80 (by decide) (fun c200 => ?_) (fun c200 => ?_)
            · have h := (k_iB h).1 c200
              exact (t_L_hangs_93 hx hb hml hown hts hK hA fin hz) (lp_L_hangs_24   k) ih x1 x2 x3 x4 x5 x7 x8 (r179 - r181) t _ _ hP hD hS _ (lv_sub hl [1, 2, 3, 4, 5, 6, 8, 9, 0] rfl) h
            · have h := (k_iB h).2 c200
              refine lv_aload_n hx hb dL_hangs_83 rfl (lv_at hl 1 rfl) ?_
              refine lv_iload hx hb dL_hangs_84 (lv_at hl 9 rfl) ?_
              refine lv_iconst (v := 1) hx hb dL_hangs_86 (by decide) ?_
              obtain ⟨r230, hu231, h⟩ := ob1_el h
              refine kbi (ci := 5) (q := (RX5, TX5, 8)) (bs := [tdW cI cC cE a t]) (cs := [tdW cI cC cE a t]) (cs' := [tdW cI cC cE a t]) (bs1 := [tdW cI cC cE a t]) ⟨hx, hb, hml, hown, hts⟩ [0] [] (cq_trader l D cI cC cE a _ t x8 1 r230 hu231) (cwV 2 hts gL_hangs_X5_trader rfl rfl rfl (by decide +kernel) ⟨Nat.le_of_ble_eq_true rfl, Nat.le_of_ble_eq_true rfl⟩) hK hP hD hS hA rfl rfl rfl rfl rfl rfl rfl rfl rfl hl.1 rfl (Nat.le_of_ble_eq_true rfl) dL_hangs_87 ⟨Nat.le_refl 0, Nat.le_refl 0⟩ (fun H locs hP hD hS => ?_)
              refine lv_if_ne (tgt := 202) hx hb dL_hangs_90 (by decide) (fun c232 => ?_) (fun c232 => ?_)
              · have h := (k_iB h).2 c232
                exact (t_L_hangs_202 hx hb hml hown hts hK hA fin hz) (lp_L_hangs_24   k) ih x1 x2 x3 x4 x5 x7 x8 (r179 - r181) t _ _ hP hD hS _ (lv_sub hl [1, 2, 3, 4, 5, 6, 8, 9, 0] rfl) h
              · have h := (k_iB h).1 c232
                exact (t_L_hangs_93 hx hb hml hown hts hK hA fin hz) (lp_L_hangs_24   k) ih x1 x2 x3 x4 x5 x7 x8 (r179 - r181) t _ _ hP hD hS _ (lv_sub hl [1, 2, 3, 4, 5, 6, 8, 9, 0] rfl) h
set_option maxHeartbeats 16000000 in
set_option maxRecDepth 100000 in
theorem c_L_hangs (l : Launch) (D : va_G) (cI cC cE : ClassId) (a : Nat → Nat) (sz : Nat) (t : Td) (r0 : Int32) (o_t : Td) (h : d_L_hangs t = some (r0, o_t)) (hz : narrow .boolean (.int r0) = .int r0) : Met l yL_hangs wsL_hangs ({ frames := 6, cells := 0, slots := 0, locals := 140 } : Room) (kP D (kT cI cC cE) [.ref (a 0)] (fl [tdW cI cC cE a t]) sz) (kQi D (kT cI cC cE) (fl [tdW cI cC cE a t]) (fl [tdW cI cC cE a o_t]) sz r0) 0 0 (va_A (fl [tdW cI cC cE a t]) sz) := by
  refine kMetZ (cc := cL_hangs) (maxL := 22) (own := RL) (by decide) rfl (Nat.le_of_ble_eq_true rfl) rfl ?_
  intro p e s m below meth c A Q hx hb hml hown hts hP hK hD hA hS hname fin ls hl
  have hl : lv_has ls 22 [(0, .ref (a 0))] := hl
  dsimp only [d_L_hangs] at h
  refine lv_iconst (v := 0) hx hb dL_hangs_0 (by decide) ?_
  refine lv_istore_n (lv' := [(1, .int 0), (0, .ref (a 0))]) hx hb dL_hangs_1 rfl hl (by decide) rfl (fun ls hl => ?_)
  refine lv_iconst (v := 0) hx hb dL_hangs_2 (by decide) ?_
  refine lv_istore_n (lv' := [(2, .int 0), (1, .int 0), (0, .ref (a 0))]) hx hb dL_hangs_3 rfl hl (by decide) rfl (fun ls hl => ?_)
  refine lv_iconst (v := 0) hx hb dL_hangs_4 (by decide) ?_
  refine lv_istore_n (lv' := [(3, .int 0), (2, .int 0), (1, .int 0), (0, .ref (a 0))]) hx hb dL_hangs_5 rfl hl (by decide) rfl (fun ls hl => ?_)
  refine lv_iconst (v := 0) hx hb dL_hangs_6 (by decide) ?_
  refine lv_istore (lv' := [(4, .int 0), (3, .int 0), (2, .int 0), (1, .int 0), (0, .ref (a 0))]) hx hb dL_hangs_7 hl (by decide) rfl (fun ls hl => ?_)
  refine lv_iconst (v := 0) hx hb dL_hangs_9 (by decide) ?_
  refine lv_istore (lv' := [(5, .int 0), (4, .int 0), (3, .int 0), (2, .int 0), (1, .int 0), (0, .ref (a 0))]) hx hb dL_hangs_10 hl (by decide) rfl (fun ls hl => ?_)
  refine lv_iconst (v := 1) hx hb dL_hangs_12 (by decide) ?_
  refine lv_istore (lv' := [(6, .int 1), (5, .int 0), (4, .int 0), (3, .int 0), (2, .int 0), (1, .int 0), (0, .ref (a 0))]) hx hb dL_hangs_13 hl (by decide) rfl (fun ls hl => ?_)
  refine lv_aload_n hx hb dL_hangs_15 rfl (lv_at hl 6 rfl) ?_
  obtain ⟨r1, hu2, h⟩ := ob1_el h
  refine kbi (ci := 5) (q := (RX5, TX5, 8)) (bs := [tdW cI cC cE a t]) (cs := [tdW cI cC cE a t]) (cs' := [tdW cI cC cE a t]) (bs1 := [tdW cI cC cE a t]) ⟨hx, hb, hml, hown, hts⟩ [0] [] (cq_richest l D cI cC cE a _ t  r1 hu2) (cwV 0 hts gL_hangs_X5_richest rfl rfl rfl (by decide +kernel) ⟨Nat.le_of_ble_eq_true rfl, Nat.le_of_ble_eq_true rfl⟩) hK hP hD hS hA rfl rfl rfl rfl rfl rfl rfl rfl rfl hl.1 rfl (Nat.le_of_ble_eq_true rfl) dL_hangs_16 ⟨Nat.le_refl 0, Nat.le_refl 0⟩ (fun H locs hP hD hS => ?_)
  refine lv_istore (lv' := [(7, .int r1), (6, .int 1), (5, .int 0), (4, .int 0), (3, .int 0), (2, .int 0), (1, .int 0), (0, .ref (a 0))]) hx hb dL_hangs_19 hl (by decide) rfl (fun ls hl => ?_)
  refine lv_iconst (v := 0) hx hb dL_hangs_21 (by decide) ?_
  refine lv_istore (lv' := [(8, .int 0), (7, .int r1), (6, .int 1), (5, .int 0), (4, .int 0), (3, .int 0), (2, .int 0), (1, .int 0), (0, .ref (a 0))]) hx hb dL_hangs_22 hl (by decide) rfl (fun ls hl => ?_)
  exact (t_L_hangs_24 hx hb hml hown hts hK hA fin hz)   fuel 0 0 0 0 0 1 r1 0 t _ _ hP hD hS _ (lv_sub hl [8, 7, 6, 5, 4, 3, 2, 1, 0] rfl) h
