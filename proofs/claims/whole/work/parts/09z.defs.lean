/-! defs only, while the pure rows are written (the walks of X5 and X6 take its place) -/
def d_X5_finishAct (p1 : Int32) (N : Ex) (T : Ex) (Hs : Nat → Ex) (old : Int32) (sze : Int32) : Int32 × Ex × (Nat → Ex) × Int32 × Int32 :=
    if p1 < 0 then ((p1, N, Hs, old, sze))
    else (tb3 (d_X1_record N Hs old sze) fun Hs_2 old_3 sze_4 =>
    (p1, T, Hs_2, old_3, sze_4))
def d_X5_ask (p1 : Int32) (p2 : Int32) (p3 : Int32) (N : Ex) (T : Ex) (Hs : Nat → Ex) (old : Int32) (sze : Int32) : Option (Int32 × Ex × Ex × (Nat → Ex) × Int32 × Int32) :=
    ob3 (d_X0_addRiddle p1 p2 p3 N.2.1 N.2.2.1) fun r1 TfR_2 TrR_3 =>
    tb5 (d_X5_finishAct r1 N (N.1, TfR_2, TrR_3, N.2.2.2.1, N.2.2.2.2.1, N.2.2.2.2.2.1, N.2.2.2.2.2.2.1, N.2.2.2.2.2.2.2.1, N.2.2.2.2.2.2.2.2.1, N.2.2.2.2.2.2.2.2.2.1, N.2.2.2.2.2.2.2.2.2.2) Hs old sze) fun r5 N_6 Hs_7 old_8 sze_9 =>
    some (r5, N_6, (N.1, TfR_2, TrR_3, N.2.2.2.1, N.2.2.2.2.1, N.2.2.2.2.2.1, N.2.2.2.2.2.2.1, N.2.2.2.2.2.2.2.1, N.2.2.2.2.2.2.2.2.1, N.2.2.2.2.2.2.2.2.2.1, N.2.2.2.2.2.2.2.2.2.2), Hs_7, old_8, sze_9)
def d_X5_withdraw (p1 : Int32) (N : Ex) (T : Ex) (Hs : Nat → Ex) (old : Int32) (sze : Int32) : Option (Int32 × Ex × Ex × (Nat → Ex) × Int32 × Int32) :=
    ob2 (d_X0_closeRiddle p1 N.2.1 N.2.2.1 N.2.2.2.1 N.2.2.2.2.1) fun r1 TfR_2 =>
    tb5 (d_X5_finishAct r1 N (N.1, TfR_2, N.2.2.1, N.2.2.2.1, N.2.2.2.2.1, N.2.2.2.2.2.1, N.2.2.2.2.2.2.1, N.2.2.2.2.2.2.2.1, N.2.2.2.2.2.2.2.2.1, N.2.2.2.2.2.2.2.2.2.1, N.2.2.2.2.2.2.2.2.2.2) Hs old sze) fun r4 N_5 Hs_6 old_7 sze_8 =>
    some (r4, N_5, (N.1, TfR_2, N.2.2.1, N.2.2.2.1, N.2.2.2.2.1, N.2.2.2.2.2.1, N.2.2.2.2.2.2.1, N.2.2.2.2.2.2.2.1, N.2.2.2.2.2.2.2.2.1, N.2.2.2.2.2.2.2.2.2.1, N.2.2.2.2.2.2.2.2.2.2), Hs_6, old_7, sze_8)
def d_X5_deliver (p1 : Int32) (p2 : Int32) (p3 : Int32) (p4 : Int32) (N : Ex) (T : Ex) (Hs : Nat → Ex) (old : Int32) (sze : Int32) : Option (Int32 × Ex × Ex × (Nat → Ex) × Int32 × Int32) :=
    ob5 (d_X0_addAnswer p1 p2 p3 p4 N.2.1 N.2.2.1 N.2.2.2.1 N.2.2.2.2.1 N.2.2.2.2.2.2.2.1 N.2.2.2.2.2.2.2.2.1 N.2.2.2.2.2.2.2.2.2.1) fun r1 TfA_2 TrA_3 Tri_4 Tln_5 =>
    tb5 (d_X5_finishAct r1 N (N.1, N.2.1, N.2.2.1, TfA_2, TrA_3, N.2.2.2.2.2.1, N.2.2.2.2.2.2.1, Tri_4, N.2.2.2.2.2.2.2.2.1, Tln_5, N.2.2.2.2.2.2.2.2.2.2) Hs old sze) fun r7 N_8 Hs_9 old_10 sze_11 =>
    some (r7, N_8, (N.1, N.2.1, N.2.2.1, TfA_2, TrA_3, N.2.2.2.2.2.1, N.2.2.2.2.2.2.1, Tri_4, N.2.2.2.2.2.2.2.2.1, Tln_5, N.2.2.2.2.2.2.2.2.2.2), Hs_9, old_10, sze_11)
def d_X5_adjust (N : Ex) (T : Ex) (Hs : Nat → Ex) (old : Int32) (sze : Int32) : Option (Int32 × Ex × Ex × (Nat → Ex) × Int32 × Int32) :=
    ob2 (d_X0_setScalesRight N.2.2.2.2.2.1) fun r1 TfS_2 =>
    tb5 (d_X5_finishAct r1 N (N.1, N.2.1, N.2.2.1, N.2.2.2.1, N.2.2.2.2.1, TfS_2, N.2.2.2.2.2.2.1, N.2.2.2.2.2.2.2.1, N.2.2.2.2.2.2.2.2.1, N.2.2.2.2.2.2.2.2.2.1, N.2.2.2.2.2.2.2.2.2.2) Hs old sze) fun r4 N_5 Hs_6 old_7 sze_8 =>
    some (r4, N_5, (N.1, N.2.1, N.2.2.1, N.2.2.2.1, N.2.2.2.2.1, TfS_2, N.2.2.2.2.2.2.1, N.2.2.2.2.2.2.2.1, N.2.2.2.2.2.2.2.2.1, N.2.2.2.2.2.2.2.2.2.1, N.2.2.2.2.2.2.2.2.2.2), Hs_6, old_7, sze_8)
def d_X5_set (p1 : Int32) (p2 : Int32) (N : Ex) (T : Ex) (Hs : Nat → Ex) (old : Int32) (sze : Int32) : Option (Int32 × Ex × Ex × (Nat → Ex) × Int32 × Int32) :=
    ob2 (d_X0_changeSetting p1 p2 N.2.2.2.2.2.2.1) fun r1 TfE_2 =>
    tb5 (d_X5_finishAct r1 N (N.1, N.2.1, N.2.2.1, N.2.2.2.1, N.2.2.2.2.1, N.2.2.2.2.2.1, TfE_2, N.2.2.2.2.2.2.2.1, N.2.2.2.2.2.2.2.2.1, N.2.2.2.2.2.2.2.2.2.1, N.2.2.2.2.2.2.2.2.2.2) Hs old sze) fun r4 N_5 Hs_6 old_7 sze_8 =>
    some (r4, N_5, (N.1, N.2.1, N.2.2.1, N.2.2.2.1, N.2.2.2.2.1, N.2.2.2.2.2.1, TfE_2, N.2.2.2.2.2.2.2.1, N.2.2.2.2.2.2.2.2.1, N.2.2.2.2.2.2.2.2.2.1, N.2.2.2.2.2.2.2.2.2.2), Hs_6, old_7, sze_8)
def d_X5_pass (p1 : Int32) (N : Ex) (T : Ex) (Hs : Nat → Ex) (old : Int32) (sze : Int32) : Option (Int32 × Ex × Ex × (Nat → Ex) × Int32 × Int32) :=
    ob9 (d_X0_playRounds p1 N.1 N.2.1 N.2.2.2.1 N.2.2.2.2.2.1 N.2.2.2.2.2.2.1 N.2.2.2.2.2.2.2.1 N.2.2.2.2.2.2.2.2.1 N.2.2.2.2.2.2.2.2.2.1 N.2.2.2.2.2.2.2.2.2.2) fun r1 TfT_2 TfR_3 TfA_4 TfS_5 Tri_6 Thd_7 Tln_8 Trnd_9 =>
    tb5 (d_X5_finishAct r1 N (TfT_2, TfR_3, N.2.2.1, TfA_4, N.2.2.2.2.1, TfS_5, N.2.2.2.2.2.2.1, Tri_6, Thd_7, Tln_8, Trnd_9) Hs old sze) fun r11 N_12 Hs_13 old_14 sze_15 =>
    some (r11, N_12, (TfT_2, TfR_3, N.2.2.1, TfA_4, N.2.2.2.2.1, TfS_5, N.2.2.2.2.2.2.1, Tri_6, Thd_7, Tln_8, Trnd_9), Hs_13, old_14, sze_15)
def d_X5_type (p1 : Int32) (ft : Nat → Int32) (len : Int32) : Option (Int32 × (Nat → Int32) × Int32) :=
    ob3 (d_X2_addCharacter p1 ft len) fun r1 ft_2 len_3 =>
    some (r1, ft_2, len_3)
def d_X5_clearText (len : Int32) : Int32 × Int32 :=
    tb2 (d_X2_emptyText len) fun r1 len_2 =>
    (r1, len_2)
def d_X5_doThing (p1 : Int32) (T : Ex) (fG : Nat → Int32) : Option (Int32 × Ex) :=
    ob1 (d_X2_numberOf p1 1 fG) fun r1 =>
    ob1 (d_X2_numberOf p1 2 fG) fun r3 =>
    ob1 (d_X2_numberOf p1 3 fG) fun r5 =>
    ob1 (d_X2_numberOf p1 0 fG) fun r7 =>
    if r7 = 0 then (ob3 (d_X0_addRiddle r1 r3 r5 T.2.1 T.2.2.1) fun r11 TfR_12 TrR_13 =>
    some (r11, (T.1, TfR_12, TrR_13, T.2.2.2.1, T.2.2.2.2.1, T.2.2.2.2.2.1, T.2.2.2.2.2.2.1, T.2.2.2.2.2.2.2.1, T.2.2.2.2.2.2.2.2.1, T.2.2.2.2.2.2.2.2.2.1, T.2.2.2.2.2.2.2.2.2.2)))
    else (if r7 = 1 then (ob1 (d_X2_numberOf p1 4 fG) fun r16 =>
    ob5 (d_X0_addAnswer r1 r3 r5 r16 T.2.1 T.2.2.1 T.2.2.2.1 T.2.2.2.2.1 T.2.2.2.2.2.2.2.1 T.2.2.2.2.2.2.2.2.1 T.2.2.2.2.2.2.2.2.2.1) fun r18 TfA_19 TrA_20 Tri_21 Tln_22 =>
    some (r18, (T.1, T.2.1, T.2.2.1, TfA_19, TrA_20, T.2.2.2.2.2.1, T.2.2.2.2.2.2.1, Tri_21, T.2.2.2.2.2.2.2.2.1, Tln_22, T.2.2.2.2.2.2.2.2.2.2)))
    else (ob9 (d_X0_playRounds r1 T.1 T.2.1 T.2.2.2.1 T.2.2.2.2.2.1 T.2.2.2.2.2.2.1 T.2.2.2.2.2.2.2.1 T.2.2.2.2.2.2.2.2.1 T.2.2.2.2.2.2.2.2.2.1 T.2.2.2.2.2.2.2.2.2.2) fun r24 TfT_25 TfR_26 TfA_27 TfS_28 Tri_29 Thd_30 Tln_31 Trnd_32 =>
    some (r24, (TfT_25, TfR_26, T.2.2.1, TfA_27, T.2.2.2.2.1, TfS_28, T.2.2.2.2.2.2.1, Tri_29, Thd_30, Tln_31, Trnd_32))))
def lp_X5_perform_38 (N : Ex) (T : Ex) (Hs : Nat → Ex) (ft : Nat → Int32) (len : Int32) : Nat → Int32 → Int32 → Ex → Ex → (Nat → Ex) → Int32 → Int32 → (Nat → Int32) → Int32 → Int32 → Int32 → Int32 → Int32 → Option (Int32 × Ex × Ex × (Nat → Ex) × Int32 × Int32 × (Nat → Int32) × Int32 × Int32 × Int32 × Int32 × Int32)
  | 0 => fun _ _ _ _ _ _ _ _ _ _ _ _ _ => none
  | k + 1 => fun x2 x3 N T Hs old sze fG rG pos bad stN stE =>
    if x2 ≤ x3 then (tb5 (d_X5_finishAct x2 N T Hs old sze) fun r9 N_10 Hs_11 old_12 sze_13 =>
    some (r9, N_10, T, Hs_11, old_12, sze_13, fG, rG, pos, bad, stN, stE))
    else (ob2 (d_X5_doThing x3 T fG) fun r15 T_16 =>
    if 0 ≤ r15 then ((lp_X5_perform_38  N T Hs ft len k) x2 (x3 + 1) N T_16 Hs old sze fG rG pos bad stN stE)
    else (some ((-4), N, T_16, Hs, old, sze, fG, rG, pos, bad, x3, r15)))
def d_X5_perform (N : Ex) (T : Ex) (Hs : Nat → Ex) (old : Int32) (sze : Int32) (ft : Nat → Int32) (fG : Nat → Int32) (rG : Int32) (len : Int32) (pos : Int32) (bad : Int32) (stN : Int32) (stE : Int32) : Option (Int32 × Ex × Ex × (Nat → Ex) × Int32 × Int32 × (Nat → Int32) × Int32 × Int32 × Int32 × Int32 × Int32) :=
    ob5 (d_X2_read ft fG rG len pos bad) fun r1 fG_2 rG_3 pos_4 bad_5 =>
    if r1 < 0 then (lp_X5_perform_38  N T Hs ft len fuel (d_X2_thingCount rG_3) 0 N N Hs old sze fG_2 rG_3 pos_4 bad_5 stN stE)
    else (some (((-100) - r1), N, T, Hs, old, sze, fG_2, rG_3, pos_4, bad_5, stN, stE))
def d_X5_stopped (p1 : Int32) (stN : Int32) (stE : Int32) : Int32 :=
    if p1 = 0 then (stN)
    else (if p1 = 1 then (stE)
    else ((-2)))
def d_X5_undo (N : Ex) (Hs : Nat → Ex) (old : Int32) (sze : Int32) : Int32 × Ex × Int32 :=
    tb3 (d_X1_takeBackInto N Hs old sze) fun r1 N_2 sze_3 =>
    (r1, N_2, sze_3)
def d_X5_keep (N : Ex) (S : Ex) (hasS : Int32) : Int32 × Ex × Int32 :=
    ((d_X0_waiting N.2.2.2.2.2.2.2.2.2.1), N, 1)
def d_X5_restore (N : Ex) (T : Ex) (S : Ex) (Hs : Nat → Ex) (old : Int32) (sze : Int32) (hasS : Int32) : Int32 × Ex × Ex × (Nat → Ex) × Int32 × Int32 :=
    if hasS = 0 then (((-5), N, T, Hs, old, sze))
    else (tb5 (d_X5_finishAct (d_X0_waiting S.2.2.2.2.2.2.2.2.2.1) N S Hs old sze) fun r2 N_3 Hs_4 old_5 sze_6 =>
    (r2, N_3, S, Hs_4, old_5, sze_6))
def d_X5_trader (p1 : Int32) (p2 : Int32) (N : Ex) : Option (Int32) :=
    ob1 (d_X0_tellTrader p1 p2 N.1 N.2.1 N.2.2.1 N.2.2.2.1 N.2.2.2.2.1) fun r1 =>
    some r1
def d_X5_riddle (p1 : Int32) (p2 : Int32) (N : Ex) : Option (Int32) :=
    ob1 (d_X0_tellRiddle p1 p2 N.2.1 N.2.2.1 N.2.2.2.1 N.2.2.2.2.1) fun r1 =>
    some r1
def d_X5_answer (p1 : Int32) (p2 : Int32) (N : Ex) : Option (Int32) :=
    ob1 (d_X0_tellAnswer p1 p2 N.2.2.2.1 N.2.2.2.2.1 N.2.2.2.2.2.2.2.1 N.2.2.2.2.2.2.2.2.1 N.2.2.2.2.2.2.2.2.2.1) fun r1 =>
    some r1
def d_X5_waits (p1 : Int32) (N : Ex) : Option (Int32) :=
    if 0 ≤ p1 then (ob1 (d_X0_waitingAt p1 N.2.2.2.2.2.2.2.1 N.2.2.2.2.2.2.2.2.1 N.2.2.2.2.2.2.2.2.2.1) fun r2 =>
    some r2)
    else (some (-2))
def d_X5_weigh (p1 : Int32) (p2 : Int32) (N : Ex) : Option (Int32) :=
    if p1 < 0 then (some (-1))
    else (if p1 ≤ 1 then (if p2 < 1 then (some (-2))
    else (if p2 ≤ 99 then (ob1 (d_X0_told p1 p2 N.2.2.2.2.2.1) fun r5 =>
    some r5)
    else (some (-2))))
    else (some (-1)))
def d_X5_reason (p1 : Int32) (N : Ex) : Option (Int32) :=
    ob1 (d_X0_errorIfNotWaiting p1 N.2.2.2.1 N.2.2.2.2.1) fun r1 =>
    if 0 ≤ r1 then (ob1 (d_X0_paymentFor p1 N.2.1 N.2.2.2.1 N.2.2.2.2.2.1) fun r4 =>
    ob1 (d_X0_hindrance p1 r4 N.1 N.2.1 N.2.2.2.1 N.2.2.2.2.2.1 N.2.2.2.2.2.2.1) fun r6 =>
    some r6)
    else (some r1)
def lp_X5_settledIn_28 (N : Ex) (T : Ex) (p1 : Int32) : Nat → Int32 → Ex → Option (Int32 × Ex)
  | 0 => fun _ _ => none
  | k + 1 => fun x3 T =>
    if 300 < x3 then (some ((-5), T))
    else (ob9 (d_X0_playRound T.1 T.2.1 T.2.2.2.1 T.2.2.2.2.2.1 T.2.2.2.2.2.2.1 T.2.2.2.2.2.2.2.1 T.2.2.2.2.2.2.2.2.1 T.2.2.2.2.2.2.2.2.2.1 T.2.2.2.2.2.2.2.2.2.2) fun r5 TfT_6 TfR_7 TfA_8 TfS_9 Tri_10 Thd_11 Tln_12 Trnd_13 =>
    ob1 (d_X0_errorIfNotWaiting p1 TfA_8 T.2.2.2.2.1) fun r15 =>
    if 0 ≤ r15 then ((lp_X5_settledIn_28  N T p1 k) (x3 + 1) (TfT_6, TfR_7, T.2.2.1, TfA_8, T.2.2.2.2.1, TfS_9, T.2.2.2.2.2.2.1, Tri_10, Thd_11, Tln_12, Trnd_13))
    else (some (x3, (TfT_6, TfR_7, T.2.2.1, TfA_8, T.2.2.2.2.1, TfS_9, T.2.2.2.2.2.2.1, Tri_10, Thd_11, Tln_12, Trnd_13))))
def d_X5_settledIn (p1 : Int32) (N : Ex) (T : Ex) : Option (Int32 × Ex) :=
    ob1 (d_X0_errorIfNotWaiting p1 N.2.2.2.1 N.2.2.2.2.1) fun r1 =>
    if 0 ≤ r1 then (lp_X5_settledIn_28  N T p1 fuel 1 N)
    else (some (r1, T))
def lp_X5_ifRounds_42 (N : Ex) (T : Ex) (p1 : Int32) (p2 : Int32) : Nat → Int32 → Int32 → Ex → Option (Int32 × Ex)
  | 0 => fun _ _ _ => none
  | k + 1 => fun x3 x4 T =>
    if p1 ≤ x4 then (some (x3, T))
    else (ob9 (d_X0_playRound T.1 T.2.1 T.2.2.2.1 T.2.2.2.2.2.1 T.2.2.2.2.2.2.1 T.2.2.2.2.2.2.2.1 T.2.2.2.2.2.2.2.2.1 T.2.2.2.2.2.2.2.2.2.1 T.2.2.2.2.2.2.2.2.2.2) fun r5 TfT_6 TfR_7 TfA_8 TfS_9 Tri_10 Thd_11 Tln_12 Trnd_13 =>
    (lp_X5_ifRounds_42  N T p1 p2 k) (x3 + r5) (x4 + 1) (TfT_6, TfR_7, T.2.2.1, TfA_8, T.2.2.2.2.1, TfS_9, T.2.2.2.2.2.2.1, Tri_10, Thd_11, Tln_12, Trnd_13))
def d_X5_ifRounds (p1 : Int32) (p2 : Int32) (N : Ex) (T : Ex) : Option (Int32 × Ex) :=
    if p1 < 1 then (some ((-2), T))
    else (if p1 ≤ 99 then (if p2 = 0 then (lp_X5_ifRounds_42  N T p1 p2 fuel 0 0 N)
    else (ob2 (d_X0_setScalesRight N.2.2.2.2.2.1) fun r15 TfS_16 =>
    lp_X5_ifRounds_42  N T p1 p2 fuel 0 0 (N.1, N.2.1, N.2.2.1, N.2.2.2.1, N.2.2.2.2.1, TfS_16, N.2.2.2.2.2.2.1, N.2.2.2.2.2.2.2.1, N.2.2.2.2.2.2.2.2.1, N.2.2.2.2.2.2.2.2.2.1, N.2.2.2.2.2.2.2.2.2.2)))
    else (some ((-2), T)))
def d_X5_richest (N : Ex) : Option (Int32) :=
    ob1 (d_X0_richestTrader N.1) fun r1 =>
    some r1
def d_X5_account (p1 : Int32) (N : Ex) : Option (Int32) :=
    ob1 (d_X0_tellAccount p1 N.1 N.2.1 N.2.2.2.1 N.2.2.2.2.1) fun r1 =>
    some r1
def d_X5_count (p1 : Int32) (N : Ex) (sze : Int32) (len : Int32) : Option (Int32) :=
    if p1 = 18 then (some (d_X1_size sze))
    else (if p1 = 19 then (some (d_X2_textLength len))
    else (ob1 (d_X0_tellCount p1 N.1 N.2.1 N.2.2.1 N.2.2.2.1 N.2.2.2.2.1 N.2.2.2.2.2.1 N.2.2.2.2.2.2.1 N.2.2.2.2.2.2.2.2.2.1 N.2.2.2.2.2.2.2.2.2.2) fun r4 =>
    some r4))
def d_X6_in (p0 : Int32) (p1 : Int32) (p2 : Int32) : Int32 :=
    if p0 < p1 then (0)
    else (if p2 < p0 then (0)
    else (1))
def d_X6_isTrader (p0 : Int32) : Int32 :=
    (d_X6_in p0 0 7)
def d_X6_ofR (p0 : Int32) (p1 : Int32) : Int32 :=
    ((16 + (5 * p0)) + p1)
def d_X6_ofA (p0 : Int32) (p1 : Int32) : Int32 :=
    ((116 + (8 * p0)) + p1)
def d_X6_size (p0 : Int32) : Int32 :=
    if 0 ≤ p0 then (p0)
    else ((-p0))
def d_X6_isRiddle (p1 : Int32) (m_s : Nat → Int32) : Option (Int32) :=
    ob1 (rd 490 m_s 483) fun v1 =>
    some (d_X6_in p1 0 (v1 - 1))
def d_X6_isAnswer (p1 : Int32) (m_s : Nat → Int32) : Option (Int32) :=
    ob1 (rd 490 m_s 484) fun v1 =>
    some (d_X6_in p1 0 (v1 - 1))
def lp_X6_records_51 (m_s : Nat → Int32) : Nat → Int32 → (Nat → Int32) → Int32 → Option ((Nat → Int32) × Int32)
  | 0 => fun _ _ _ => none
  | k + 1 => fun x1 m_past m_pasts =>
    if 490 ≤ x1 then (some (m_past, (m_pasts + 1)))
    else (ob1 (rd 490 m_s x1) fun v3 =>
    ob1 (wr 1960 m_past ((490 * m_pasts) + x1) v3) fun m_past_4 =>
    (lp_X6_records_51  m_s k) (x1 + 1) m_past_4 m_pasts)
def lp_X6_records_10 (m_s : Nat → Int32) : Nat → Int32 → (Nat → Int32) → Int32 → Option ((Nat → Int32) × Int32)
  | 0 => fun _ _ _ => none
  | k + 1 => fun x1 m_past m_pasts =>
    if 1470 ≤ x1 then (lp_X6_records_51  m_s fuel 0 m_past (m_pasts - 1))
    else (ob1 (rd 1960 m_past (490 + x1)) fun v6 =>
    ob1 (wr 1960 m_past x1 v6) fun m_past_7 =>
    (lp_X6_records_10  m_s k) (x1 + 1) m_past_7 m_pasts)
def d_X6_records (m_s : Nat → Int32) (m_past : Nat → Int32) (m_pasts : Int32) : Option ((Nat → Int32) × Int32) :=
    if m_pasts = 4 then (lp_X6_records_10  m_s fuel 0 m_past m_pasts)
    else (lp_X6_records_51  m_s fuel 0 m_past m_pasts)
def lp_X6_putAside_2 (m_s : Nat → Int32) : Nat → Int32 → (Nat → Int32) → Option ((Nat → Int32))
  | 0 => fun _ _ => none
  | k + 1 => fun x1 m_aside =>
    if 490 ≤ x1 then (some m_aside)
    else (ob1 (rd 490 m_s x1) fun v2 =>
    ob1 (wr 490 m_aside x1 v2) fun m_aside_3 =>
    (lp_X6_putAside_2  m_s k) (x1 + 1) m_aside_3)
def d_X6_putAside (m_s : Nat → Int32) (m_aside : Nat → Int32) : Option ((Nat → Int32)) :=
    lp_X6_putAside_2  m_s fuel 0 m_aside
def lp_X6_putBack_2 (m_aside : Nat → Int32) : Nat → Int32 → (Nat → Int32) → Option ((Nat → Int32))
  | 0 => fun _ _ => none
  | k + 1 => fun x1 m_s =>
    if 490 ≤ x1 then (some m_s)
    else (ob1 (rd 490 m_aside x1) fun v2 =>
    ob1 (wr 490 m_s x1 v2) fun m_s_3 =>
    (lp_X6_putBack_2  m_aside k) (x1 + 1) m_s_3)
def d_X6_putBack (m_s : Nat → Int32) (m_aside : Nat → Int32) : Option ((Nat → Int32)) :=
    lp_X6_putBack_2  m_aside fuel 0 m_s
def d_X6_barAsk (p1 : Int32) (p2 : Int32) (p3 : Int32) (m_s : Nat → Int32) : Option (Int32) :=
    if (d_X6_isTrader p1) = 0 then (some (-1))
    else (if (d_X6_in p2 1 50) = 0 then (some (-2))
    else (if (d_X6_in p3 0 99) = 0 then (some (-2))
    else (ob1 (rd 490 m_s 483) fun v4 =>
    if v4 = 20 then (some (-3))
    else (some 0))))
def d_X6_asks (p1 : Int32) (p2 : Int32) (p3 : Int32) (m_s : Nat → Int32) : Option (Int32 × (Nat → Int32)) :=
    ob1 (rd 490 m_s 483) fun v1 =>
    ob1 (wr 490 m_s (d_X6_ofR v1 0) p1) fun m_s_2 =>
    ob1 (wr 490 m_s_2 (d_X6_ofR v1 1) p2) fun m_s_3 =>
    ob1 (wr 490 m_s_3 (d_X6_ofR v1 2) p3) fun m_s_4 =>
    ob1 (wr 490 m_s_4 (d_X6_ofR v1 3) 0) fun m_s_5 =>
    ob1 (wr 490 m_s_5 (d_X6_ofR v1 4) 0) fun m_s_6 =>
    ob1 (rd 490 m_s_6 483) fun v7 =>
    ob1 (wr 490 m_s_6 483 (v7 + 1)) fun m_s_8 =>
    some (v1, m_s_8)
def d_X6_ask (p1 : Int32) (p2 : Int32) (p3 : Int32) (m_s : Nat → Int32) (m_past : Nat → Int32) (m_pasts : Int32) : Option (Int32 × (Nat → Int32) × (Nat → Int32) × Int32) :=
    ob1 (d_X6_barAsk p1 p2 p3 m_s) fun r1 =>
    if 0 ≤ r1 then (ob2 (d_X6_records m_s m_past m_pasts) fun m_past_4 m_pasts_5 =>
    ob2 (d_X6_asks p1 p2 p3 m_s) fun r7 m_s_8 =>
    some (r7, m_s_8, m_past_4, m_pasts_5))
    else (some (r1, m_s, m_past, m_pasts))
def lp_X6_waiting_4 (m_s : Nat → Int32) (p1 : Int32) : Nat → Int32 → Int32 → Option (Int32)
  | 0 => fun _ _ => none
  | k + 1 => fun x2 x3 =>
    ob1 (rd 490 m_s 476) fun v1 =>
    if v1 ≤ x3 then (some x2)
    else (ob1 (rd 490 m_s (436 + x3)) fun v3 =>
    ob1 (rd 490 m_s (d_X6_ofA v3 1)) fun v4 =>
    if v4 = p1 then ((lp_X6_waiting_4  m_s p1 k) (x2 + 1) (x3 + 1))
    else ((lp_X6_waiting_4  m_s p1 k) (x2 + 0) (x3 + 1)))
def d_X6_waiting (p1 : Int32) (m_s : Nat → Int32) : Option (Int32) :=
    lp_X6_waiting_4  m_s p1 fuel 0 0
def d_X6_withdraw (p1 : Int32) (m_s : Nat → Int32) (m_past : Nat → Int32) (m_pasts : Int32) : Option (Int32 × (Nat → Int32) × (Nat → Int32) × Int32) :=
    ob1 (d_X6_isRiddle p1 m_s) fun r1 =>
    if r1 = 0 then (some ((-1), m_s, m_past, m_pasts))
    else (ob1 (rd 490 m_s (d_X6_ofR p1 3)) fun v4 =>
    if v4 = 0 then (ob2 (d_X6_records m_s m_past m_pasts) fun m_past_6 m_pasts_7 =>
    ob1 (wr 490 m_s (d_X6_ofR p1 3) 2) fun m_s_9 =>
    ob1 (d_X6_waiting p1 m_s_9) fun r10 =>
    some (r10, m_s_9, m_past_6, m_pasts_7))
    else (some ((-4), m_s, m_past, m_pasts)))
def d_X6_barDeliver (p1 : Int32) (p2 : Int32) (p3 : Int32) (p4 : Int32) (m_s : Nat → Int32) : Option (Int32) :=
    if (d_X6_isTrader p1) = 0 then (some (-1))
    else (ob1 (d_X6_isRiddle p2 m_s) fun r2 =>
    if r2 = 0 then (some (-1))
    else (if (d_X6_in p3 0 99) = 0 then (some (-2))
    else (if (d_X6_in p4 1 99) = 0 then (some (-2))
    else (ob1 (rd 490 m_s (d_X6_ofR p2 3)) fun v7 =>
    if v7 = 0 then (ob1 (rd 490 m_s (d_X6_ofR p2 0)) fun v9 =>
    if v9 = p1 then (some (-4))
    else (ob1 (rd 490 m_s 484) fun v11 =>
    if v11 = 40 then (some (-3))
    else (some 0)))
    else (some (-4))))))
def d_X6_queues (p1 : Int32) (m_s : Nat → Int32) : Option ((Nat → Int32)) :=
    ob1 (rd 490 m_s 476) fun v1 =>
    ob1 (wr 490 m_s (436 + v1) p1) fun m_s_2 =>
    ob1 (rd 490 m_s_2 476) fun v3 =>
    ob1 (wr 490 m_s_2 476 (v3 + 1)) fun m_s_4 =>
    some m_s_4
def lp_X6_delivers_62 (p1 : Int32) (p2 : Int32) (p3 : Int32) (p4 : Int32) : Nat → Int32 → Int32 → (Nat → Int32) → Option (Int32 × (Nat → Int32))
  | 0 => fun _ _ _ => none
  | k + 1 => fun x5 x6 m_s =>
    if 8 ≤ x6 then (ob1 (rd 490 m_s 484) fun v7 =>
    ob1 (wr 490 m_s 484 (v7 + 1)) fun m_s_8 =>
    ob1 (d_X6_queues x5 m_s_8) fun m_s_9 =>
    some (x5, m_s_9))
    else (ob1 (wr 490 m_s (d_X6_ofA x5 x6) 0) fun m_s_11 =>
    (lp_X6_delivers_62  p1 p2 p3 p4 k) x5 (x6 + 1) m_s_11)
def d_X6_delivers (p1 : Int32) (p2 : Int32) (p3 : Int32) (p4 : Int32) (m_s : Nat → Int32) : Option (Int32 × (Nat → Int32)) :=
    ob1 (rd 490 m_s 484) fun v1 =>
    ob1 (wr 490 m_s (d_X6_ofA v1 0) p1) fun m_s_2 =>
    ob1 (wr 490 m_s_2 (d_X6_ofA v1 1) p2) fun m_s_3 =>
    ob1 (wr 490 m_s_3 (d_X6_ofA v1 2) p3) fun m_s_4 =>
    ob1 (wr 490 m_s_4 (d_X6_ofA v1 3) p4) fun m_s_5 =>
    lp_X6_delivers_62  p1 p2 p3 p4 fuel v1 4 m_s_5
def d_X6_deliver (p1 : Int32) (p2 : Int32) (p3 : Int32) (p4 : Int32) (m_s : Nat → Int32) (m_past : Nat → Int32) (m_pasts : Int32) : Option (Int32 × (Nat → Int32) × (Nat → Int32) × Int32) :=
    ob1 (d_X6_barDeliver p1 p2 p3 p4 m_s) fun r1 =>
    if 0 ≤ r1 then (ob2 (d_X6_records m_s m_past m_pasts) fun m_past_4 m_pasts_5 =>
    ob2 (d_X6_delivers p1 p2 p3 p4 m_s) fun r7 m_s_8 =>
    some (r7, m_s_8, m_past_4, m_pasts_5))
    else (some (r1, m_s, m_past, m_pasts))
def d_X6_adjust (m_s : Nat → Int32) (m_past : Nat → Int32) (m_pasts : Int32) : Option (Int32 × (Nat → Int32) × (Nat → Int32) × Int32) :=
    ob1 (rd 490 m_s 477) fun v1 =>
    ob1 (rd 490 m_s 478) fun v2 =>
    if ((d_X6_size v1) + (d_X6_size v2)) = 0 then (some ((-5), m_s, m_past, m_pasts))
    else (ob2 (d_X6_records m_s m_past m_pasts) fun m_past_4 m_pasts_5 =>
    ob1 (wr 490 m_s 477 0) fun m_s_7 =>
    ob1 (wr 490 m_s_7 478 0) fun m_s_8 =>
    some (((d_X6_size v1) + (d_X6_size v2)), m_s_8, m_past_4, m_pasts_5))
def j_X6_set_44 (p1 : Int32) (p2 : Int32) (m_s : Nat → Int32) (m_past : Nat → Int32) (m_pasts : Int32) : Option (Int32 × (Nat → Int32) × (Nat → Int32) × Int32) :=
    ob1 (rd 490 m_s (479 + p1)) fun v5 =>
    if v5 = p2 then (some ((-5), m_s, m_past, m_pasts))
    else (ob2 (d_X6_records m_s m_past m_pasts) fun m_past_7 m_pasts_8 =>
    ob1 (rd 490 m_s (479 + p1)) fun v10 =>
    ob1 (wr 490 m_s (479 + p1) p2) fun m_s_11 =>
    some (v10, m_s_11, m_past_7, m_pasts_8))
def d_X6_set (p1 : Int32) (p2 : Int32) (m_s : Nat → Int32) (m_past : Nat → Int32) (m_pasts : Int32) : Option (Int32 × (Nat → Int32) × (Nat → Int32) × Int32) :=
    if (d_X6_in p1 0 3) = 0 then (some ((-1), m_s, m_past, m_pasts))
    else (if p1 = 2 then (if p1 = 3 then (if (d_X6_in p2 1 500) = 0 then (some ((-2), m_s, m_past, m_pasts))
    else (j_X6_set_44  p1 p2 m_s m_past m_pasts))
    else (if (d_X6_in p2 1 9) = 0 then (some ((-2), m_s, m_past, m_pasts))
    else (j_X6_set_44  p1 p2 m_s m_past m_pasts)))
    else (if p1 = 3 then (if (d_X6_in p2 0 500) = 0 then (some ((-2), m_s, m_past, m_pasts))
    else (j_X6_set_44  p1 p2 m_s m_past m_pasts))
    else (if (d_X6_in p2 0 9) = 0 then (some ((-2), m_s, m_past, m_pasts))
    else (j_X6_set_44  p1 p2 m_s m_past m_pasts))))
def d_X6_tells (p1 : Int32) (p2 : Int32) (m_s : Nat → Int32) : Option (Int32) :=
    ob1 (rd 490 m_s (477 + p1)) fun v1 =>
    if 0 ≤ (p2 + v1) then (some (p2 + v1))
    else (some 0)
def j_X6_drifts_21 (p1 : Int32) (x2 : Int32) (m_s : Nat → Int32) : Option ((Nat → Int32)) :=
    ob1 (rd 490 m_s 480) fun v3 =>
    if v3 < (d_X6_size x2) then (if x2 ≤ 0 then (ob1 (wr 490 m_s (477 + p1) v3) fun m_s_6 =>
    some m_s_6)
    else (ob1 (wr 490 m_s (477 + p1) (-v3)) fun m_s_7 =>
    some m_s_7))
    else (ob1 (wr 490 m_s (477 + p1) x2) fun m_s_8 =>
    some m_s_8)
def d_X6_drifts (p1 : Int32) (m_s : Nat → Int32) : Option ((Nat → Int32)) :=
    ob1 (rd 490 m_s (477 + p1)) fun v1 =>
    if p1 = 0 then (j_X6_drifts_21  p1 (v1 + 1) m_s)
    else (j_X6_drifts_21  p1 (v1 + (-1)) m_s)
def d_X6_payment (p1 : Int32) (p2 : Int32) (p3 : Int32) (m_s : Nat → Int32) : Option (Int32) :=
    ob1 (rd 490 m_s (d_X6_ofA p1 1)) fun v1 =>
    ob1 (rd 490 m_s (d_X6_ofR v1 1)) fun v2 =>
    some (v2 + ((p2 + p3) / 10))
def d_X6_canPay (p1 : Int32) (p2 : Int32) (m_s : Nat → Int32) : Option (Int32) :=
    ob1 (rd 490 m_s (d_X6_ofA p1 1)) fun v1 =>
    ob1 (rd 490 m_s (d_X6_ofR v1 0)) fun v2 =>
    ob1 (rd 490 m_s (0 + v2)) fun v3 =>
    ob1 (rd 490 m_s 482) fun v4 =>
    if (v3 - p2) < (-v4) then (some 0)
    else (some 1)
def d_X6_refuses (p1 : Int32) (p2 : Int32) (m_s : Nat → Int32) : Option ((Nat → Int32)) :=
    ob1 (wr 490 m_s (d_X6_ofA p1 4) 2) fun m_s_1 =>
    ob1 (wr 490 m_s_1 (d_X6_ofA p1 5) p2) fun m_s_2 =>
    some m_s_2
def d_X6_takes (p1 : Int32) (m_s : Nat → Int32) : Option ((Nat → Int32)) :=
    ob1 (rd 490 m_s (d_X6_ofA p1 1)) fun v1 =>
    ob1 (rd 490 m_s (d_X6_ofR v1 3)) fun v2 =>
    if v2 = 0 then (ob1 (rd 490 m_s (d_X6_ofR v1 2)) fun v4 =>
    ob1 (rd 490 m_s (d_X6_ofA p1 2)) fun v5 =>
    if v4 = v5 then (ob1 (rd 490 m_s (d_X6_ofA p1 3)) fun v7 =>
    ob1 (d_X6_tells 0 v7 m_s) fun r8 =>
    ob1 (d_X6_drifts 0 m_s) fun m_s_10 =>
    ob1 (rd 490 m_s_10 (d_X6_ofA p1 3)) fun v12 =>
    ob1 (d_X6_tells 1 v12 m_s_10) fun r13 =>
    ob1 (d_X6_drifts 1 m_s_10) fun m_s_15 =>
    ob1 (rd 490 m_s_15 488) fun v17 =>
    ob1 (wr 490 m_s_15 488 (v17 + 2)) fun m_s_18 =>
    ob1 (rd 490 m_s_18 479) fun v19 =>
    if (d_X6_size (r8 - r13)) ≤ v19 then (ob1 (d_X6_payment p1 r8 r13 m_s_18) fun r21 =>
    ob1 (d_X6_canPay p1 r21 m_s_18) fun r23 =>
    if r23 = 0 then (ob1 (d_X6_queues p1 m_s_18) fun m_s_38 =>
    some m_s_38)
    else (ob1 (rd 490 m_s_18 (d_X6_ofR v1 0)) fun v26 =>
    ob1 (rd 490 m_s_18 (0 + v26)) fun v27 =>
    ob1 (wr 490 m_s_18 (0 + v26) (v27 - r21)) fun m_s_28 =>
    ob1 (rd 490 m_s_28 (d_X6_ofA p1 0)) fun v29 =>
    ob1 (rd 490 m_s_28 (0 + v29)) fun v30 =>
    ob1 (wr 490 m_s_28 (0 + v29) (v30 + r21)) fun m_s_31 =>
    ob1 (rd 490 m_s_31 489) fun v32 =>
    ob1 (wr 490 m_s_31 489 (v32 + r21)) fun m_s_33 =>
    ob1 (wr 490 m_s_33 (d_X6_ofA p1 4) 1) fun m_s_34 =>
    ob1 (wr 490 m_s_34 (d_X6_ofA p1 7) r21) fun m_s_35 =>
    ob1 (wr 490 m_s_35 (d_X6_ofR v1 3) 1) fun m_s_36 =>
    ob1 (wr 490 m_s_36 (d_X6_ofR v1 4) (p1 + 1)) fun m_s_37 =>
    some m_s_37))
    else (ob1 (rd 490 m_s_18 (d_X6_ofA p1 6)) fun v40 =>
    ob1 (wr 490 m_s_18 (d_X6_ofA p1 6) (v40 + 1)) fun m_s_41 =>
    ob1 (rd 490 m_s_41 487) fun v42 =>
    ob1 (wr 490 m_s_41 487 (v42 + 1)) fun m_s_43 =>
    ob1 (rd 490 m_s_43 (d_X6_ofA p1 6)) fun v44 =>
    if v44 = 3 then (ob1 (d_X6_refuses p1 3 m_s_43) fun m_s_48 =>
    some m_s_48)
    else (ob1 (d_X6_queues p1 m_s_43) fun m_s_46 =>
    some m_s_46)))
    else (ob1 (d_X6_refuses p1 2 m_s) fun m_s_50 =>
    some m_s_50))
    else (ob1 (d_X6_refuses p1 1 m_s) fun m_s_52 =>
    some m_s_52)
def j_X6_round_171 (LP126 : Int32 → (Nat → Int32) → Option ((Nat → Int32))) (x2 : Int32) (x3 : Int32) (m_s : Nat → Int32) : Option ((Nat → Int32)) :=
    ob1 (rd 490 m_s (0 + x2)) fun v12 =>
    ob1 (wr 490 m_s (0 + x2) (v12 - x3)) fun m_s_13 =>
    ob1 (rd 490 m_s_13 (8 + x2)) fun v14 =>
    ob1 (wr 490 m_s_13 (8 + x2) (v14 + x3)) fun m_s_15 =>
    ob1 (rd 490 m_s_15 486) fun v16 =>
    ob1 (wr 490 m_s_15 486 (v16 + x3)) fun m_s_17 =>
    LP126 (x2 + 1) m_s_17
def j_X6_round_160 (LP126 : Int32 → (Nat → Int32) → Option ((Nat → Int32))) (x2 : Int32) (x3 : Int32) (m_s : Nat → Int32) : Option ((Nat → Int32)) :=
    if x3 ≤ 5 then (j_X6_round_171 LP126  x2 x3 m_s)
    else (j_X6_round_171 LP126  x2 5 m_s)
def lp_X6_round_126 : Nat → Int32 → (Nat → Int32) → Option ((Nat → Int32))
  | 0 => fun _ _ => none
  | k + 1 => fun x2 m_s =>
    if 8 ≤ x2 then (ob1 (rd 490 m_s 485) fun v7 =>
    ob1 (wr 490 m_s 485 (v7 + 1)) fun m_s_8 =>
    some m_s_8)
    else (ob1 (rd 490 m_s (0 + x2)) fun v9 =>
    if 0 ≤ v9 then (j_X6_round_160 (lp_X6_round_126   k)  x2 0 m_s)
    else (ob1 (rd 490 m_s (0 + x2)) fun v18 =>
    j_X6_round_160 (lp_X6_round_126   k)  x2 ((-v18) / 20) m_s))
def lp_X6_round_70 (LP41 : Int32 → Int32 → (Nat → Int32) → Option ((Nat → Int32))) : Nat → Int32 → Int32 → Int32 → Int32 → (Nat → Int32) → Option ((Nat → Int32))
  | 0 => fun _ _ _ _ _ => none
  | k + 1 => fun x1 x2 x3 x4 m_s =>
    ob1 (rd 490 m_s 476) fun v22 =>
    if v22 ≤ x4 then (ob1 (d_X6_takes x3 m_s) fun m_s_24 =>
    LP41 x1 (x2 + 1) m_s_24)
    else (ob1 (rd 490 m_s ((436 + x4) + 1)) fun v26 =>
    ob1 (wr 490 m_s (436 + x4) v26) fun m_s_27 =>
    (lp_X6_round_70 LP41  k) x1 x2 x3 (x4 + 1) m_s_27)
def lp_X6_round_41 : Nat → Int32 → Int32 → (Nat → Int32) → Option ((Nat → Int32))
  | 0 => fun _ _ _ => none
  | k + 1 => fun x1 x2 m_s =>
    if x1 ≤ x2 then (lp_X6_round_126   fuel 0 m_s)
    else (ob1 (rd 490 m_s 436) fun v19 =>
    ob1 (rd 490 m_s 476) fun v20 =>
    ob1 (wr 490 m_s 476 (v20 - 1)) fun m_s_21 =>
    lp_X6_round_70 (lp_X6_round_41   k)  fuel x1 x2 v19 0 m_s_21)
def d_X6_round (m_s : Nat → Int32) : Option ((Nat → Int32)) :=
    ob1 (rd 490 m_s 476) fun v1 =>
    ob1 (rd 490 m_s 481) fun v2 =>
    if v2 ≤ v1 then (ob1 (rd 490 m_s 481) fun v4 =>
    lp_X6_round_41   fuel v4 0 m_s)
    else (ob1 (rd 490 m_s 476) fun v28 =>
    lp_X6_round_41   fuel v28 0 m_s)
def lp_X6_inState_4 (m_s : Nat → Int32) (p1 : Int32) : Nat → Int32 → Int32 → Option (Int32)
  | 0 => fun _ _ => none
  | k + 1 => fun x2 x3 =>
    ob1 (rd 490 m_s 484) fun v1 =>
    if v1 ≤ x3 then (some x2)
    else (ob1 (rd 490 m_s (d_X6_ofA x3 4)) fun v3 =>
    if v3 = p1 then ((lp_X6_inState_4  m_s p1 k) (x2 + 1) (x3 + 1))
    else ((lp_X6_inState_4  m_s p1 k) (x2 + 0) (x3 + 1)))
def d_X6_inState (p1 : Int32) (m_s : Nat → Int32) : Option (Int32) :=
    lp_X6_inState_4  m_s p1 fuel 0 0
def lp_X6_passes_8 (p1 : Int32) : Nat → Int32 → Int32 → (Nat → Int32) → Option (Int32 × (Nat → Int32))
  | 0 => fun _ _ _ => none
  | k + 1 => fun x2 x3 m_s =>
    if p1 ≤ x3 then (ob1 (d_X6_inState 1 m_s) fun r4 =>
    some ((r4 - x2), m_s))
    else (ob1 (d_X6_round m_s) fun m_s_6 =>
    (lp_X6_passes_8  p1 k) x2 (x3 + 1) m_s_6)
def d_X6_passes (p1 : Int32) (m_s : Nat → Int32) : Option (Int32 × (Nat → Int32)) :=
    ob1 (d_X6_inState 1 m_s) fun r1 =>
    lp_X6_passes_8  p1 fuel r1 0 m_s
def d_X6_barPass (p1 : Int32) (m_s : Nat → Int32) : Option (Int32) :=
    if (d_X6_in p1 1 99) = 0 then (some (-2))
    else (ob1 (rd 490 m_s 485) fun v2 =>
    if (v2 + p1) ≤ 9999 then (some 0)
    else (some (-3)))
def d_X6_pass (p1 : Int32) (m_s : Nat → Int32) (m_past : Nat → Int32) (m_pasts : Int32) : Option (Int32 × (Nat → Int32) × (Nat → Int32) × Int32) :=
    ob1 (d_X6_barPass p1 m_s) fun r1 =>
    if 0 ≤ r1 then (ob2 (d_X6_records m_s m_past m_pasts) fun m_past_4 m_pasts_5 =>
    ob2 (d_X6_passes p1 m_s) fun r7 m_s_8 =>
    some (r7, m_s_8, m_past_4, m_pasts_5))
    else (some (r1, m_s, m_past, m_pasts))
def d_X6_type (p1 : Int32) (m_text : Nat → Int32) (m_length : Int32) : Option (Int32 × (Nat → Int32) × Int32) :=
    if m_length = 60 then (some ((-3), m_text, m_length))
    else (ob1 (wr 60 m_text m_length (vp_nar .char p1)) fun m_text_2 =>
    some ((m_length + 1), m_text_2, (m_length + 1)))
def d_X6_clearText (m_length : Int32) : Int32 × Int32 :=
    (m_length, 0)
def d_X6_next (m_text : Nat → Int32) (m_length : Int32) (m_spot : Int32) : Option (Int32) :=
    if m_length ≤ m_spot then (some 0)
    else (ob1 (rd 60 m_text m_spot) fun v2 =>
    some v2)
def j_X6_sign_35 (m_text : Nat → Int32) (m_length : Int32) (p1 : Int32) (m_spot : Int32) (m_isWrong : Int32) : Option (Int32 × Int32) :=
    if m_isWrong = 0 then (some ((m_spot + 1), m_isWrong))
    else (some ((m_spot + 0), m_isWrong))
def d_X6_sign (p1 : Int32) (m_text : Nat → Int32) (m_length : Int32) (m_spot : Int32) (m_isWrong : Int32) : Option (Int32 × Int32) :=
    if m_isWrong = 0 then (if m_spot = m_length then (j_X6_sign_35  m_text m_length p1 m_spot 1)
    else (ob1 (d_X6_next m_text m_length m_spot) fun r4 =>
    if r4 = p1 then (j_X6_sign_35  m_text m_length p1 m_spot 0)
    else (j_X6_sign_35  m_text m_length p1 m_spot 1)))
    else (j_X6_sign_35  m_text m_length p1 m_spot 1)
def j_X6_number_161 (LP97 : Int32 → Int32 → Int32 → Int32 → Option (Int32 × Int32 × Int32)) (m_text : Nat → Int32) (m_length : Int32) (p1 : Int32) (p2 : Int32) (x3 : Int32) (x4 : Int32) (m_spot : Int32) (m_isWrong : Int32) : Option (Int32 × Int32 × Int32) :=
    if x4 = 0 then (LP97 x3 x4 (m_spot + 0) m_isWrong)
    else (LP97 x3 x4 (m_spot + 1) m_isWrong)
def j_X6_number_139 (LP97 : Int32 → Int32 → Int32 → Int32 → Option (Int32 × Int32 × Int32)) (m_text : Nat → Int32) (m_length : Int32) (p1 : Int32) (p2 : Int32) (x3 : Int32) (x4 : Int32) (m_spot : Int32) (m_isWrong : Int32) : Option (Int32 × Int32 × Int32) :=
    if x4 = 0 then (j_X6_number_161 LP97 m_text m_length p1 p2 x3 x4 m_spot m_isWrong)
    else (ob1 (d_X6_next m_text m_length m_spot) fun r11 =>
    j_X6_number_161 LP97 m_text m_length p1 p2 (((10 * x3) + r11) - 48) x4 m_spot m_isWrong)
def j_X6_number_136 (LP97 : Int32 → Int32 → Int32 → Int32 → Option (Int32 × Int32 × Int32)) (m_text : Nat → Int32) (m_length : Int32) (p1 : Int32) (p2 : Int32) (x3 : Int32) (m_spot : Int32) (m_isWrong : Int32) : Option (Int32 × Int32 × Int32) :=
    j_X6_number_139 LP97 m_text m_length p1 p2 x3 0 m_spot m_isWrong
def lp_X6_number_97 (m_text : Nat → Int32) (m_length : Int32) (p1 : Int32) (p2 : Int32) : Nat → Int32 → Int32 → Int32 → Int32 → Option (Int32 × Int32 × Int32)
  | 0 => fun _ _ _ _ => none
  | k + 1 => fun x3 x4 m_spot m_isWrong =>
    if x4 = 0 then (some (x3, m_spot, m_isWrong))
    else (ob1 (d_X6_next m_text m_length m_spot) fun r6 =>
    if (d_X6_in r6 48 57) = 0 then (j_X6_number_136 (lp_X6_number_97  m_text m_length p1 p2 k) m_text m_length p1 p2 x3 m_spot m_isWrong)
    else (ob1 (d_X6_next m_text m_length m_spot) fun r13 =>
    if p2 < (((10 * x3) + r13) - 48) then (j_X6_number_136 (lp_X6_number_97  m_text m_length p1 p2 k) m_text m_length p1 p2 x3 m_spot m_isWrong)
    else (j_X6_number_139 (lp_X6_number_97  m_text m_length p1 p2 k) m_text m_length p1 p2 x3 1 m_spot m_isWrong)))
def j_X6_number_67 (m_text : Nat → Int32) (m_length : Int32) (p1 : Int32) (p2 : Int32) (x3 : Int32) (m_spot : Int32) (m_isWrong : Int32) : Option (Int32 × Int32 × Int32) :=
    if m_isWrong = 0 then (if x3 ≤ 0 then (lp_X6_number_97  m_text m_length p1 p2 fuel x3 0 (m_spot + 1) m_isWrong)
    else (lp_X6_number_97  m_text m_length p1 p2 fuel x3 1 (m_spot + 1) m_isWrong))
    else (some (0, m_spot, m_isWrong))
def j_X6_number_23 (m_text : Nat → Int32) (m_length : Int32) (p1 : Int32) (p2 : Int32) (x3 : Int32) (m_spot : Int32) (m_isWrong : Int32) : Option (Int32 × Int32 × Int32) :=
    if m_isWrong = 0 then (if p1 ≤ 0 then (if 9 ≤ p2 then (if (d_X6_in x3 0 9) = 0 then (j_X6_number_67  m_text m_length p1 p2 x3 m_spot 1)
    else (j_X6_number_67  m_text m_length p1 p2 x3 m_spot 0))
    else (if (d_X6_in x3 0 p2) = 0 then (j_X6_number_67  m_text m_length p1 p2 x3 m_spot 1)
    else (j_X6_number_67  m_text m_length p1 p2 x3 m_spot 0)))
    else (if 9 ≤ p2 then (if (d_X6_in x3 1 9) = 0 then (j_X6_number_67  m_text m_length p1 p2 x3 m_spot 1)
    else (j_X6_number_67  m_text m_length p1 p2 x3 m_spot 0))
    else (if (d_X6_in x3 1 p2) = 0 then (j_X6_number_67  m_text m_length p1 p2 x3 m_spot 1)
    else (j_X6_number_67  m_text m_length p1 p2 x3 m_spot 0))))
    else (j_X6_number_67  m_text m_length p1 p2 x3 m_spot 1)
def d_X6_number (p1 : Int32) (p2 : Int32) (m_text : Nat → Int32) (m_length : Int32) (m_spot : Int32) (m_isWrong : Int32) : Option (Int32 × Int32 × Int32) :=
    if m_length ≤ m_spot then (j_X6_number_23  m_text m_length p1 p2 (-1) m_spot m_isWrong)
    else (ob1 (d_X6_next m_text m_length m_spot) fun r23 =>
    j_X6_number_23  m_text m_length p1 p2 (r23 - 48) m_spot m_isWrong)
def j_X6_thing_162 (m_text : Nat → Int32) (m_length : Int32) (m_spot : Int32) (m_isWrong : Int32) (m_kind : Int32) (m_first : Int32) (m_second : Int32) (m_third : Int32) (m_fourth : Int32) : Option (Int32 × Int32 × Int32 × Int32 × Int32 × Int32 × Int32) :=
    ob2 (d_X6_sign 61 m_text m_length m_spot m_isWrong) fun m_spot_19 m_isWrong_20 =>
    ob3 (d_X6_number 0 99 m_text m_length m_spot_19 m_isWrong_20) fun r22 m_spot_23 m_isWrong_24 =>
    if m_kind = 97 then (ob2 (d_X6_sign 42 m_text m_length m_spot_23 m_isWrong_24) fun m_spot_27 m_isWrong_28 =>
    ob3 (d_X6_number 1 99 m_text m_length m_spot_27 m_isWrong_28) fun r30 m_spot_31 m_isWrong_32 =>
    some (m_spot_31, m_isWrong_32, m_kind, m_first, m_second, r22, r30))
    else (some (m_spot_23, m_isWrong_24, m_kind, m_first, m_second, r22, m_fourth))
def j_X6_thing_94 (m_text : Nat → Int32) (m_length : Int32) (m_spot : Int32) (m_isWrong : Int32) (m_kind : Int32) (m_first : Int32) (m_second : Int32) (m_third : Int32) (m_fourth : Int32) : Option (Int32 × Int32 × Int32 × Int32 × Int32 × Int32 × Int32) :=
    if m_kind = 46 then (ob3 (d_X6_number 1 99 m_text m_length m_spot m_isWrong) fun r38 m_spot_39 m_isWrong_40 =>
    some (m_spot_39, m_isWrong_40, m_kind, r38, m_second, m_third, m_fourth))
    else (ob3 (d_X6_number 0 7 m_text m_length m_spot m_isWrong) fun r7 m_spot_8 m_isWrong_9 =>
    ob2 (d_X6_sign 58 m_text m_length m_spot_8 m_isWrong_9) fun m_spot_11 m_isWrong_12 =>
    if m_kind = 114 then (ob3 (d_X6_number 1 50 m_text m_length m_spot_11 m_isWrong_12) fun r34 m_spot_35 m_isWrong_36 =>
    j_X6_thing_162  m_text m_length m_spot_35 m_isWrong_36 m_kind r7 r34 m_third m_fourth)
    else (ob3 (d_X6_number 0 19 m_text m_length m_spot_11 m_isWrong_12) fun r15 m_spot_16 m_isWrong_17 =>
    j_X6_thing_162  m_text m_length m_spot_16 m_isWrong_17 m_kind r7 r15 m_third m_fourth))
def j_X6_thing_73 (m_text : Nat → Int32) (m_length : Int32) (m_spot : Int32) (m_isWrong : Int32) (m_kind : Int32) (m_first : Int32) (m_second : Int32) (m_third : Int32) (m_fourth : Int32) : Option (Int32 × Int32 × Int32 × Int32 × Int32 × Int32 × Int32) :=
    if m_isWrong = 0 then (j_X6_thing_94  m_text m_length (m_spot + 1) m_isWrong m_kind m_first m_second m_third m_fourth)
    else (j_X6_thing_94  m_text m_length (m_spot + 0) m_isWrong m_kind m_first m_second m_third m_fourth)
def j_X6_thing_19 (m_text : Nat → Int32) (m_length : Int32) (m_spot : Int32) (m_isWrong : Int32) (m_kind : Int32) (m_first : Int32) (m_second : Int32) (m_third : Int32) (m_fourth : Int32) : Option (Int32 × Int32 × Int32 × Int32 × Int32 × Int32 × Int32) :=
    if m_isWrong = 0 then (if m_spot = m_length then (j_X6_thing_73  m_text m_length m_spot 1 m_kind m_first m_second m_third m_fourth)
    else (if m_kind = 114 then (j_X6_thing_73  m_text m_length m_spot 0 m_kind m_first m_second m_third m_fourth)
    else (if m_kind = 97 then (j_X6_thing_73  m_text m_length m_spot 0 m_kind m_first m_second m_third m_fourth)
    else (if m_kind = 46 then (j_X6_thing_73  m_text m_length m_spot 0 m_kind m_first m_second m_third m_fourth)
    else (j_X6_thing_73  m_text m_length m_spot 1 m_kind m_first m_second m_third m_fourth)))))
    else (j_X6_thing_73  m_text m_length m_spot 1 m_kind m_first m_second m_third m_fourth)
def d_X6_thing (m_text : Nat → Int32) (m_length : Int32) (m_spot : Int32) (m_isWrong : Int32) (m_kind : Int32) (m_first : Int32) (m_second : Int32) (m_third : Int32) (m_fourth : Int32) : Option (Int32 × Int32 × Int32 × Int32 × Int32 × Int32 × Int32) :=
    if m_isWrong = 0 then (ob1 (d_X6_next m_text m_length m_spot) fun r2 =>
    j_X6_thing_19  m_text m_length m_spot m_isWrong r2 m_first m_second m_third m_fourth)
    else (j_X6_thing_19  m_text m_length m_spot m_isWrong 0 m_first m_second m_third m_fourth)
def j_X6_things_49 (LP14 : Int32 → Int32 → Int32 → Int32 → Int32 → Int32 → Int32 → Int32 → Int32 → Option (Int32 × Int32 × Int32 × Int32 × Int32 × Int32 × Int32 × Int32)) (m_text : Nat → Int32) (m_length : Int32) (x1 : Int32) (x2 : Int32) (m_spot : Int32) (m_isWrong : Int32) (m_kind : Int32) (m_first : Int32) (m_second : Int32) (m_third : Int32) (m_fourth : Int32) : Option (Int32 × Int32 × Int32 × Int32 × Int32 × Int32 × Int32 × Int32) :=
    if x2 = 0 then (LP14 x1 x2 m_spot m_isWrong m_kind m_first m_second m_third m_fourth)
    else (ob2 (d_X6_sign 59 m_text m_length m_spot m_isWrong) fun m_spot_13 m_isWrong_14 =>
    if m_isWrong_14 = 0 then (LP14 x1 1 m_spot_13 m_isWrong_14 m_kind m_first m_second m_third m_fourth)
    else (LP14 x1 0 m_spot_13 m_isWrong_14 m_kind m_first m_second m_third m_fourth))
def j_X6_things_47 (LP14 : Int32 → Int32 → Int32 → Int32 → Int32 → Int32 → Int32 → Int32 → Int32 → Option (Int32 × Int32 × Int32 × Int32 × Int32 × Int32 × Int32 × Int32)) (m_text : Nat → Int32) (m_length : Int32) (x1 : Int32) (m_spot : Int32) (m_isWrong : Int32) (m_kind : Int32) (m_first : Int32) (m_second : Int32) (m_third : Int32) (m_fourth : Int32) : Option (Int32 × Int32 × Int32 × Int32 × Int32 × Int32 × Int32 × Int32) :=
    j_X6_things_49 LP14 m_text m_length x1 0 m_spot m_isWrong m_kind m_first m_second m_third m_fourth
def lp_X6_things_14 (m_text : Nat → Int32) (m_length : Int32) : Nat → Int32 → Int32 → Int32 → Int32 → Int32 → Int32 → Int32 → Int32 → Int32 → Option (Int32 × Int32 × Int32 × Int32 × Int32 × Int32 × Int32 × Int32)
  | 0 => fun _ _ _ _ _ _ _ _ _ => none
  | k + 1 => fun x1 x2 m_spot m_isWrong m_kind m_first m_second m_third m_fourth =>
    if x2 = 0 then (if m_isWrong = 0 then (some (x1, m_spot, m_isWrong, m_kind, m_first, m_second, m_third, m_fourth))
    else (some ((-5), m_spot, m_isWrong, m_kind, m_first, m_second, m_third, m_fourth)))
    else (ob7 (d_X6_thing m_text m_length m_spot m_isWrong m_kind m_first m_second m_third m_fourth) fun m_spot_3 m_isWrong_4 m_kind_5 m_first_6 m_second_7 m_third_8 m_fourth_9 =>
    if m_isWrong_4 = 0 then (if m_length ≤ m_spot_3 then (j_X6_things_47 (lp_X6_things_14  m_text m_length k) m_text m_length (x1 + 1) m_spot_3 m_isWrong_4 m_kind_5 m_first_6 m_second_7 m_third_8 m_fourth_9)
    else (j_X6_things_49 (lp_X6_things_14  m_text m_length k) m_text m_length (x1 + 1) 1 m_spot_3 m_isWrong_4 m_kind_5 m_first_6 m_second_7 m_third_8 m_fourth_9))
    else (j_X6_things_47 (lp_X6_things_14  m_text m_length k) m_text m_length (x1 + 1) m_spot_3 m_isWrong_4 m_kind_5 m_first_6 m_second_7 m_third_8 m_fourth_9))
def d_X6_things (m_text : Nat → Int32) (m_length : Int32) (m_spot : Int32) (m_isWrong : Int32) (m_kind : Int32) (m_first : Int32) (m_second : Int32) (m_third : Int32) (m_fourth : Int32) : Option (Int32 × Int32 × Int32 × Int32 × Int32 × Int32 × Int32 × Int32) :=
    lp_X6_things_14  m_text m_length fuel 0 1 0 0 m_kind m_first m_second m_third m_fourth
def j_X6_does_69 (m_kind : Int32) (m_first : Int32) (m_second : Int32) (m_third : Int32) (m_fourth : Int32) (x1 : Int32) (m_s : Nat → Int32) : Option (Int32 × (Nat → Int32)) :=
    if x1 = 0 then (if m_kind = 114 then (ob2 (d_X6_asks m_first m_second m_third m_s) fun r14 m_s_15 =>
    some (x1, m_s_15))
    else (if m_kind = 97 then (ob2 (d_X6_delivers m_first m_second m_third m_fourth m_s) fun r11 m_s_12 =>
    some (x1, m_s_12))
    else (ob2 (d_X6_passes m_first m_s) fun r8 m_s_9 =>
    some (x1, m_s_9))))
    else (some (x1, m_s))
def d_X6_does (m_s : Nat → Int32) (m_kind : Int32) (m_first : Int32) (m_second : Int32) (m_third : Int32) (m_fourth : Int32) : Option (Int32 × (Nat → Int32)) :=
    if m_kind = 114 then (ob1 (d_X6_barAsk m_first m_second m_third m_s) fun r19 =>
    j_X6_does_69  m_kind m_first m_second m_third m_fourth r19 m_s)
    else (if m_kind = 97 then (ob1 (d_X6_barDeliver m_first m_second m_third m_fourth m_s) fun r17 =>
    j_X6_does_69  m_kind m_first m_second m_third m_fourth r17 m_s)
    else (ob1 (d_X6_barPass m_first m_s) fun r3 =>
    j_X6_does_69  m_kind m_first m_second m_third m_fourth r3 m_s))
def lp_X6_perform_102 (m_text : Nat → Int32) (m_length : Int32) : Nat → Int32 → Int32 → (Nat → Int32) → (Nat → Int32) → (Nat → Int32) → Int32 → Int32 → Int32 → Int32 → Int32 → Int32 → Int32 → Int32 → Int32 → Int32 → Int32 → Option (Int32 × (Nat → Int32) × (Nat → Int32) × (Nat → Int32) × Int32 × Int32 × Int32 × Int32 × Int32 × Int32 × Int32 × Int32 × Int32 × Int32 × Int32)
  | 0 => fun _ _ _ _ _ _ _ _ _ _ _ _ _ _ _ _ => none
  | k + 1 => fun x1 x4 m_s m_aside m_past m_pasts m_hasStop m_stopAt m_stopWhy m_spot m_isWrong m_kind m_first m_second m_third m_fourth =>
    if 490 ≤ x4 then (ob2 (d_X6_records m_s m_past m_pasts) fun m_past_16 m_pasts_17 =>
    ob1 (d_X6_putBack m_s m_aside) fun m_s_19 =>
    some (x1, m_s_19, m_aside, m_past_16, m_pasts_17, m_hasStop, m_stopAt, m_stopWhy, m_spot, m_isWrong, m_kind, m_first, m_second, m_third, m_fourth))
    else (ob1 (rd 490 m_s x4) fun v21 =>
    ob1 (rd 490 m_aside x4) fun v22 =>
    ob1 (wr 490 m_s x4 v22) fun m_s_23 =>
    ob1 (wr 490 m_aside x4 v21) fun m_aside_24 =>
    (lp_X6_perform_102  m_text m_length k) x1 (x4 + 1) m_s_23 m_aside_24 m_past m_pasts m_hasStop m_stopAt m_stopWhy m_spot m_isWrong m_kind m_first m_second m_third m_fourth)
def j_X6_perform_73 (m_text : Nat → Int32) (m_length : Int32) (x1 : Int32) (x2 : Int32) (x3 : Int32) (m_s : Nat → Int32) (m_aside : Nat → Int32) (m_past : Nat → Int32) (m_pasts : Int32) (m_hasStop : Int32) (m_stopAt : Int32) (m_stopWhy : Int32) (m_spot : Int32) (m_isWrong : Int32) (m_kind : Int32) (m_first : Int32) (m_second : Int32) (m_third : Int32) (m_fourth : Int32) : Option (Int32 × (Nat → Int32) × (Nat → Int32) × (Nat → Int32) × Int32 × Int32 × Int32 × Int32 × Int32 × Int32 × Int32 × Int32 × Int32 × Int32 × Int32) :=
    if 0 ≤ x2 then (lp_X6_perform_102  m_text m_length fuel x1 0 m_s m_aside m_past m_pasts m_hasStop m_stopAt m_stopWhy m_spot m_isWrong m_kind m_first m_second m_third m_fourth)
    else (ob1 (d_X6_putBack m_s m_aside) fun m_s_25 =>
    some ((-4), m_s_25, m_aside, m_past, m_pasts, 1, x3, x2, m_spot, m_isWrong, m_kind, m_first, m_second, m_third, m_fourth))
def lp_X6_perform_30 (m_text : Nat → Int32) (m_length : Int32) : Nat → Int32 → Int32 → Int32 → (Nat → Int32) → (Nat → Int32) → (Nat → Int32) → Int32 → Int32 → Int32 → Int32 → Int32 → Int32 → Int32 → Int32 → Int32 → Int32 → Int32 → Option (Int32 × (Nat → Int32) × (Nat → Int32) × (Nat → Int32) × Int32 × Int32 × Int32 × Int32 × Int32 × Int32 × Int32 × Int32 × Int32 × Int32 × Int32)
  | 0 => fun _ _ _ _ _ _ _ _ _ _ _ _ _ _ _ _ _ => none
  | k + 1 => fun x1 x2 x3 m_s m_aside m_past m_pasts m_hasStop m_stopAt m_stopWhy m_spot m_isWrong m_kind m_first m_second m_third m_fourth =>
    if x2 = 0 then (if x1 ≤ x3 then (j_X6_perform_73  m_text m_length x1 x2 x3 m_s m_aside m_past m_pasts m_hasStop m_stopAt m_stopWhy m_spot m_isWrong m_kind m_first m_second m_third m_fourth)
    else (ob7 (d_X6_thing m_text m_length m_spot m_isWrong m_kind m_first m_second m_third m_fourth) fun m_spot_28 m_isWrong_29 m_kind_30 m_first_31 m_second_32 m_third_33 m_fourth_34 =>
    ob2 (d_X6_does m_s m_kind_30 m_first_31 m_second_32 m_third_33 m_fourth_34) fun r36 m_s_37 =>
    if r36 = 0 then ((lp_X6_perform_30  m_text m_length k) x1 r36 (x3 + 1) m_s_37 m_aside m_past m_pasts m_hasStop m_stopAt m_stopWhy (m_spot_28 + 1) m_isWrong_29 m_kind_30 m_first_31 m_second_32 m_third_33 m_fourth_34)
    else ((lp_X6_perform_30  m_text m_length k) x1 r36 (x3 + 0) m_s_37 m_aside m_past m_pasts m_hasStop m_stopAt m_stopWhy (m_spot_28 + 1) m_isWrong_29 m_kind_30 m_first_31 m_second_32 m_third_33 m_fourth_34)))
    else (j_X6_perform_73  m_text m_length x1 x2 x3 m_s m_aside m_past m_pasts m_hasStop m_stopAt m_stopWhy m_spot m_isWrong m_kind m_first m_second m_third m_fourth)
def d_X6_perform (m_s : Nat → Int32) (m_aside : Nat → Int32) (m_past : Nat → Int32) (m_pasts : Int32) (m_text : Nat → Int32) (m_length : Int32) (m_hasStop : Int32) (m_stopAt : Int32) (m_stopWhy : Int32) (m_spot : Int32) (m_isWrong : Int32) (m_kind : Int32) (m_first : Int32) (m_second : Int32) (m_third : Int32) (m_fourth : Int32) : Option (Int32 × (Nat → Int32) × (Nat → Int32) × (Nat → Int32) × Int32 × Int32 × Int32 × Int32 × Int32 × Int32 × Int32 × Int32 × Int32 × Int32 × Int32) :=
    ob8 (d_X6_things m_text m_length m_spot m_isWrong m_kind m_first m_second m_third m_fourth) fun r1 m_spot_2 m_isWrong_3 m_kind_4 m_first_5 m_second_6 m_third_7 m_fourth_8 =>
    if 0 ≤ r1 then (ob1 (d_X6_putAside m_s m_aside) fun m_aside_11 =>
    lp_X6_perform_30  m_text m_length fuel r1 0 0 m_s m_aside_11 m_past m_pasts m_hasStop m_stopAt m_stopWhy 0 m_isWrong_3 m_kind_4 m_first_5 m_second_6 m_third_7 m_fourth_8)
    else (some (((-100) - m_spot_2), m_s, m_aside, m_past, m_pasts, m_hasStop, m_stopAt, m_stopWhy, m_spot_2, m_isWrong_3, m_kind_4, m_first_5, m_second_6, m_third_7, m_fourth_8))
def d_X6_stopped (p1 : Int32) (m_hasStop : Int32) (m_stopAt : Int32) (m_stopWhy : Int32) : Int32 :=
    if (d_X6_in p1 0 1) = 0 then ((-2))
    else (if m_hasStop = 0 then ((-5))
    else (if p1 = 0 then (m_stopAt)
    else (m_stopWhy)))
def lp_X6_undo_22 (m_past : Nat → Int32) : Nat → Int32 → (Nat → Int32) → Int32 → Option (Int32 × (Nat → Int32) × Int32)
  | 0 => fun _ _ _ => none
  | k + 1 => fun x1 m_s m_pasts =>
    if 490 ≤ x1 then (some (m_pasts, m_s, m_pasts))
    else (ob1 (rd 1960 m_past ((490 * m_pasts) + x1)) fun v3 =>
    ob1 (wr 490 m_s x1 v3) fun m_s_4 =>
    (lp_X6_undo_22  m_past k) (x1 + 1) m_s_4 m_pasts)
def d_X6_undo (m_s : Nat → Int32) (m_past : Nat → Int32) (m_pasts : Int32) : Option (Int32 × (Nat → Int32) × Int32) :=
    if m_pasts = 0 then (some ((-5), m_s, m_pasts))
    else (lp_X6_undo_22  m_past fuel 0 m_s (m_pasts - 1))
def lp_X6_keep_2 (m_s : Nat → Int32) : Nat → Int32 → (Nat → Int32) → Int32 → Option (Int32 × (Nat → Int32) × Int32)
  | 0 => fun _ _ _ => none
  | k + 1 => fun x1 m_snapshot m_isKept =>
    if 490 ≤ x1 then (ob1 (rd 490 m_s 476) fun v2 =>
    some (v2, m_snapshot, 1))
    else (ob1 (rd 490 m_s x1) fun v3 =>
    ob1 (wr 490 m_snapshot x1 v3) fun m_snapshot_4 =>
    (lp_X6_keep_2  m_s k) (x1 + 1) m_snapshot_4 m_isKept)
def d_X6_keep (m_s : Nat → Int32) (m_snapshot : Nat → Int32) (m_isKept : Int32) : Option (Int32 × (Nat → Int32) × Int32) :=
    lp_X6_keep_2  m_s fuel 0 m_snapshot m_isKept
def lp_X6_restore_16 (m_snapshot : Nat → Int32) (m_isKept : Int32) : Nat → Int32 → (Nat → Int32) → (Nat → Int32) → Int32 → Option (Int32 × (Nat → Int32) × (Nat → Int32) × Int32)
  | 0 => fun _ _ _ _ => none
  | k + 1 => fun x1 m_s m_past m_pasts =>
    if 490 ≤ x1 then (ob1 (rd 490 m_s 476) fun v6 =>
    some (v6, m_s, m_past, m_pasts))
    else (ob1 (rd 490 m_snapshot x1) fun v7 =>
    ob1 (wr 490 m_s x1 v7) fun m_s_8 =>
    (lp_X6_restore_16  m_snapshot m_isKept k) (x1 + 1) m_s_8 m_past m_pasts)
def d_X6_restore (m_s : Nat → Int32) (m_past : Nat → Int32) (m_pasts : Int32) (m_snapshot : Nat → Int32) (m_isKept : Int32) : Option (Int32 × (Nat → Int32) × (Nat → Int32) × Int32) :=
    if m_isKept = 0 then (some ((-5), m_s, m_past, m_pasts))
    else (ob2 (d_X6_records m_s m_past m_pasts) fun m_past_2 m_pasts_3 =>
    lp_X6_restore_16  m_snapshot m_isKept fuel 0 m_s m_past_2 m_pasts_3)
def lp_X6_riddlesOf_5 (m_s : Nat → Int32) (p1 : Int32) (p2 : Int32) : Nat → Int32 → Int32 → Option (Int32)
  | 0 => fun _ _ => none
  | k + 1 => fun x3 x4 =>
    ob1 (rd 490 m_s 483) fun v1 =>
    if v1 ≤ x4 then (some x3)
    else (ob1 (rd 490 m_s (d_X6_ofR x4 0)) fun v3 =>
    if v3 = p1 then (if p2 < 0 then ((lp_X6_riddlesOf_5  m_s p1 p2 k) (x3 + 1) (x4 + 1))
    else (ob1 (rd 490 m_s (d_X6_ofR x4 3)) fun v6 =>
    if v6 = p2 then ((lp_X6_riddlesOf_5  m_s p1 p2 k) (x3 + 1) (x4 + 1))
    else ((lp_X6_riddlesOf_5  m_s p1 p2 k) (x3 + 0) (x4 + 1))))
    else ((lp_X6_riddlesOf_5  m_s p1 p2 k) (x3 + 0) (x4 + 1)))
def d_X6_riddlesOf (p1 : Int32) (p2 : Int32) (m_s : Nat → Int32) : Option (Int32) :=
    lp_X6_riddlesOf_5  m_s p1 p2 fuel 0 0
def lp_X6_answersOf_5 (m_s : Nat → Int32) (p1 : Int32) (p2 : Int32) : Nat → Int32 → Int32 → Option (Int32)
  | 0 => fun _ _ => none
  | k + 1 => fun x3 x4 =>
    ob1 (rd 490 m_s 484) fun v1 =>
    if v1 ≤ x4 then (some x3)
    else (ob1 (rd 490 m_s (d_X6_ofA x4 0)) fun v3 =>
    if v3 = p1 then (if p2 < 0 then ((lp_X6_answersOf_5  m_s p1 p2 k) (x3 + 1) (x4 + 1))
    else (ob1 (rd 490 m_s (d_X6_ofA x4 4)) fun v6 =>
    if v6 = p2 then ((lp_X6_answersOf_5  m_s p1 p2 k) (x3 + 1) (x4 + 1))
    else ((lp_X6_answersOf_5  m_s p1 p2 k) (x3 + 0) (x4 + 1))))
    else ((lp_X6_answersOf_5  m_s p1 p2 k) (x3 + 0) (x4 + 1)))
def d_X6_answersOf (p1 : Int32) (p2 : Int32) (m_s : Nat → Int32) : Option (Int32) :=
    lp_X6_answersOf_5  m_s p1 p2 fuel 0 0
def d_X6_trader (p1 : Int32) (p2 : Int32) (m_s : Nat → Int32) : Option (Int32) :=
    if (d_X6_isTrader p1) = 0 then (some (-1))
    else (ob1 (rd 490 m_s (0 + p1)) fun v2 =>
    if p2 = 0 then (if 0 ≤ v2 then (some 0)
    else (some (-v2)))
    else (if p2 = 1 then (if 0 ≤ v2 then (some v2)
    else (some 0))
    else (if p2 = 2 then (ob1 (d_X6_riddlesOf p1 (-1) m_s) fun r9 =>
    some r9)
    else (if p2 = 3 then (ob1 (d_X6_riddlesOf p1 1 m_s) fun r12 =>
    some r12)
    else (if p2 = 4 then (ob1 (d_X6_answersOf p1 (-1) m_s) fun r15 =>
    some r15)
    else (if p2 = 5 then (ob1 (d_X6_answersOf p1 1 m_s) fun r18 =>
    some r18)
    else (if p2 = 6 then (ob1 (d_X6_answersOf p1 2 m_s) fun r21 =>
    some r21)
    else (if p2 = 7 then (ob1 (rd 490 m_s (8 + p1)) fun v24 =>
    some v24)
    else (some (-2))))))))))
def lp_X6_answersTo_4 (m_s : Nat → Int32) (p1 : Int32) : Nat → Int32 → Int32 → Option (Int32)
  | 0 => fun _ _ => none
  | k + 1 => fun x2 x3 =>
    ob1 (rd 490 m_s 484) fun v1 =>
    if v1 ≤ x3 then (some x2)
    else (ob1 (rd 490 m_s (d_X6_ofA x3 1)) fun v3 =>
    if v3 = p1 then ((lp_X6_answersTo_4  m_s p1 k) (x2 + 1) (x3 + 1))
    else ((lp_X6_answersTo_4  m_s p1 k) (x2 + 0) (x3 + 1)))
def d_X6_answersTo (p1 : Int32) (m_s : Nat → Int32) : Option (Int32) :=
    lp_X6_answersTo_4  m_s p1 fuel 0 0
def d_X6_riddle (p1 : Int32) (p2 : Int32) (m_s : Nat → Int32) : Option (Int32) :=
    ob1 (d_X6_isRiddle p1 m_s) fun r1 =>
    if r1 = 0 then (some (-1))
    else (if p2 = 0 then (ob1 (rd 490 m_s (d_X6_ofR p1 p2)) fun v6 =>
    some v6)
    else (if p2 = 1 then (ob1 (rd 490 m_s (d_X6_ofR p1 p2)) fun v8 =>
    some v8)
    else (if p2 = 2 then (ob1 (rd 490 m_s (d_X6_ofR p1 p2)) fun v10 =>
    some v10)
    else (if p2 = 3 then (ob1 (rd 490 m_s (d_X6_ofR p1 p2)) fun v12 =>
    some v12)
    else (if p2 = 4 then (ob1 (d_X6_answersTo p1 m_s) fun r14 =>
    some r14)
    else (if p2 = 5 then (ob1 (d_X6_waiting p1 m_s) fun r17 =>
    some r17)
    else (if p2 = 6 then (ob1 (rd 490 m_s (d_X6_ofR p1 4)) fun v20 =>
    if v20 = 0 then (some (-5))
    else (ob1 (rd 490 m_s (d_X6_ofR p1 4)) fun v22 =>
    some (v22 - 1)))
    else (some (-2)))))))))
def lp_X6_place_5 (m_s : Nat → Int32) (p1 : Int32) : Nat → Int32 → Int32 → Option (Int32)
  | 0 => fun _ _ => none
  | k + 1 => fun x2 x3 =>
    ob1 (rd 490 m_s 476) fun v1 =>
    if v1 ≤ x3 then (some x2)
    else (ob1 (rd 490 m_s (436 + x3)) fun v3 =>
    if v3 = p1 then ((lp_X6_place_5  m_s p1 k) x3 (x3 + 1))
    else ((lp_X6_place_5  m_s p1 k) x2 (x3 + 1)))
def d_X6_place (p1 : Int32) (m_s : Nat → Int32) : Option (Int32) :=
    lp_X6_place_5  m_s p1 fuel (-5) 0
def d_X6_answer (p1 : Int32) (p2 : Int32) (m_s : Nat → Int32) : Option (Int32) :=
    ob1 (d_X6_isAnswer p1 m_s) fun r1 =>
    if r1 = 0 then (some (-1))
    else (if (d_X6_in p2 0 8) = 0 then (some (-2))
    else (if p2 = 8 then (ob1 (d_X6_place p1 m_s) fun r7 =>
    some r7)
    else (ob1 (rd 490 m_s (d_X6_ofA p1 p2)) fun v6 =>
    some v6)))
def d_X6_waits (p1 : Int32) (m_s : Nat → Int32) : Option (Int32) :=
    if 0 ≤ p1 then (ob1 (rd 490 m_s 476) fun v2 =>
    if v2 ≤ p1 then (some (-5))
    else (ob1 (rd 490 m_s (436 + p1)) fun v4 =>
    some v4))
    else (some (-2))
def d_X6_weigh (p1 : Int32) (p2 : Int32) (m_s : Nat → Int32) : Option (Int32) :=
    if (d_X6_in p1 0 1) = 0 then (some (-1))
    else (if (d_X6_in p2 1 99) = 0 then (some (-2))
    else (ob1 (d_X6_tells p1 p2 m_s) fun r3 =>
    some r3))
def d_X6_reason (p1 : Int32) (m_s : Nat → Int32) : Option (Int32) :=
    ob1 (d_X6_isAnswer p1 m_s) fun r1 =>
    if r1 = 0 then (some (-1))
    else (ob1 (rd 490 m_s (d_X6_ofA p1 4)) fun v4 =>
    if v4 = 0 then (ob1 (rd 490 m_s (d_X6_ofA p1 1)) fun v6 =>
    ob1 (rd 490 m_s (d_X6_ofA p1 3)) fun v7 =>
    ob1 (d_X6_tells 0 v7 m_s) fun r8 =>
    ob1 (rd 490 m_s (d_X6_ofA p1 3)) fun v10 =>
    ob1 (d_X6_tells 1 v10 m_s) fun r11 =>
    ob1 (rd 490 m_s (d_X6_ofR v6 3)) fun v13 =>
    if v13 = 0 then (ob1 (rd 490 m_s (d_X6_ofR v6 2)) fun v15 =>
    ob1 (rd 490 m_s (d_X6_ofA p1 2)) fun v16 =>
    if v15 = v16 then (ob1 (rd 490 m_s 479) fun v18 =>
    if (d_X6_size (r8 - r11)) ≤ v18 then (ob1 (d_X6_payment p1 r8 r11 m_s) fun r20 =>
    ob1 (d_X6_canPay p1 r20 m_s) fun r22 =>
    if r22 = 0 then (some 4)
    else (some 0))
    else (some 3))
    else (some 2))
    else (some 1))
    else (some (-4)))
def j_X6_settledIn_82 (p1 : Int32) (x3 : Int32) (m_s : Nat → Int32) (m_aside : Nat → Int32) : Option (Int32 × (Nat → Int32) × (Nat → Int32)) :=
    ob1 (d_X6_putBack m_s m_aside) fun m_s_12 =>
    some (x3, m_s_12, m_aside)
def j_X6_settledIn_62 (p1 : Int32) (x2 : Int32) (m_s : Nat → Int32) (m_aside : Nat → Int32) : Option (Int32 × (Nat → Int32) × (Nat → Int32)) :=
    ob1 (rd 490 m_s (d_X6_ofA p1 4)) fun v10 =>
    if v10 = 0 then (j_X6_settledIn_82  p1 (-5) m_s m_aside)
    else (j_X6_settledIn_82  p1 x2 m_s m_aside)
def lp_X6_settledIn_32 (p1 : Int32) : Nat → Int32 → (Nat → Int32) → (Nat → Int32) → Option (Int32 × (Nat → Int32) × (Nat → Int32))
  | 0 => fun _ _ _ => none
  | k + 1 => fun x2 m_s m_aside =>
    ob1 (rd 490 m_s (d_X6_ofA p1 4)) fun v8 =>
    if v8 = 0 then (if 300 ≤ x2 then (j_X6_settledIn_62  p1 x2 m_s m_aside)
    else (ob1 (d_X6_round m_s) fun m_s_15 =>
    (lp_X6_settledIn_32  p1 k) (x2 + 1) m_s_15 m_aside))
    else (j_X6_settledIn_62  p1 x2 m_s m_aside)
def d_X6_settledIn (p1 : Int32) (m_s : Nat → Int32) (m_aside : Nat → Int32) : Option (Int32 × (Nat → Int32) × (Nat → Int32)) :=
    ob1 (d_X6_isAnswer p1 m_s) fun r1 =>
    if r1 = 0 then (some ((-1), m_s, m_aside))
    else (ob1 (rd 490 m_s (d_X6_ofA p1 4)) fun v4 =>
    if v4 = 0 then (ob1 (d_X6_putAside m_s m_aside) fun m_aside_6 =>
    lp_X6_settledIn_32  p1 fuel 0 m_s m_aside_6)
    else (some ((-4), m_s, m_aside)))
def j_X6_ifRounds_39 (p1 : Int32) (p2 : Int32) (m_s : Nat → Int32) (m_aside : Nat → Int32) : Option (Int32 × (Nat → Int32) × (Nat → Int32)) :=
    ob2 (d_X6_passes p1 m_s) fun r5 m_s_6 =>
    ob1 (d_X6_putBack m_s_6 m_aside) fun m_s_8 =>
    some (r5, m_s_8, m_aside)
def d_X6_ifRounds (p1 : Int32) (p2 : Int32) (m_s : Nat → Int32) (m_aside : Nat → Int32) : Option (Int32 × (Nat → Int32) × (Nat → Int32)) :=
    if (d_X6_in p1 1 99) = 0 then (some ((-2), m_s, m_aside))
    else (ob1 (d_X6_putAside m_s m_aside) fun m_aside_2 =>
    if p2 = 0 then (j_X6_ifRounds_39  p1 p2 m_s m_aside_2)
    else (ob1 (wr 490 m_s 477 0) fun m_s_10 =>
    ob1 (wr 490 m_s_10 478 0) fun m_s_11 =>
    j_X6_ifRounds_39  p1 p2 m_s_11 m_aside_2))
def lp_X6_richest_4 (m_s : Nat → Int32) : Nat → Int32 → Int32 → Option (Int32)
  | 0 => fun _ _ => none
  | k + 1 => fun x1 x2 =>
    if 8 ≤ x2 then (some x1)
    else (ob1 (rd 490 m_s (0 + x2)) fun v2 =>
    ob1 (rd 490 m_s (0 + x1)) fun v3 =>
    if v2 ≤ v3 then ((lp_X6_richest_4  m_s k) x1 (x2 + 1))
    else ((lp_X6_richest_4  m_s k) x2 (x2 + 1)))
def d_X6_richest (m_s : Nat → Int32) : Option (Int32) :=
    lp_X6_richest_4  m_s fuel 0 1
def j_X6_account_68 (LP24 : Int32 → Int32 → Option (Int32)) (m_s : Nat → Int32) (p1 : Int32) (x2 : Int32) (x3 : Int32) : Option (Int32) :=
    ob1 (rd 490 m_s (d_X6_ofA x3 1)) fun v7 =>
    ob1 (rd 490 m_s (d_X6_ofR v7 0)) fun v8 =>
    if v8 = p1 then (ob1 (rd 490 m_s (d_X6_ofA x3 7)) fun v10 =>
    LP24 (x2 - v10) (x3 + 1))
    else (LP24 (x2 - 0) (x3 + 1))
def lp_X6_account_24 (m_s : Nat → Int32) (p1 : Int32) : Nat → Int32 → Int32 → Option (Int32)
  | 0 => fun _ _ => none
  | k + 1 => fun x2 x3 =>
    ob1 (rd 490 m_s 484) fun v3 =>
    if v3 ≤ x3 then (some x2)
    else (ob1 (rd 490 m_s (d_X6_ofA x3 0)) fun v5 =>
    if v5 = p1 then (ob1 (rd 490 m_s (d_X6_ofA x3 7)) fun v11 =>
    j_X6_account_68 (lp_X6_account_24  m_s p1 k) m_s p1 (x2 + v11) x3)
    else (j_X6_account_68 (lp_X6_account_24  m_s p1 k) m_s p1 (x2 + 0) x3))
def d_X6_account (p1 : Int32) (m_s : Nat → Int32) : Option (Int32) :=
    if (d_X6_isTrader p1) = 0 then (some (-1))
    else (ob1 (rd 490 m_s (8 + p1)) fun v2 =>
    lp_X6_account_24  m_s p1 fuel (100100 - v2) 0)
def lp_X6_open_4 (m_s : Nat → Int32) : Nat → Int32 → Int32 → Option (Int32)
  | 0 => fun _ _ => none
  | k + 1 => fun x1 x2 =>
    ob1 (rd 490 m_s 483) fun v1 =>
    if v1 ≤ x2 then (some x1)
    else (ob1 (rd 490 m_s (d_X6_ofR x2 3)) fun v3 =>
    if v3 = 0 then ((lp_X6_open_4  m_s k) (x1 + 1) (x2 + 1))
    else ((lp_X6_open_4  m_s k) (x1 + 0) (x2 + 1)))
def d_X6_open (m_s : Nat → Int32) : Option (Int32) :=
    lp_X6_open_4  m_s fuel 0 0
def lp_X6_debtors_4 (m_s : Nat → Int32) : Nat → Int32 → Int32 → Option (Int32)
  | 0 => fun _ _ => none
  | k + 1 => fun x1 x2 =>
    if 8 ≤ x2 then (some x1)
    else (ob1 (rd 490 m_s (0 + x2)) fun v2 =>
    if 0 ≤ v2 then ((lp_X6_debtors_4  m_s k) (x1 + 0) (x2 + 1))
    else ((lp_X6_debtors_4  m_s k) (x1 + 1) (x2 + 1)))
def d_X6_debtors (m_s : Nat → Int32) : Option (Int32) :=
    lp_X6_debtors_4  m_s fuel 0 0
def d_X6_count (p1 : Int32) (m_s : Nat → Int32) (m_pasts : Int32) (m_length : Int32) : Option (Int32) :=
    if p1 = 0 then (ob1 (rd 490 m_s 485) fun v3 =>
    some v3)
    else (if p1 = 1 then (ob1 (rd 490 m_s 483) fun v5 =>
    some v5)
    else (if p1 = 2 then (ob1 (d_X6_open m_s) fun r7 =>
    some r7)
    else (if p1 = 3 then (ob1 (rd 490 m_s 484) fun v10 =>
    some v10)
    else (if p1 = 4 then (ob1 (rd 490 m_s 476) fun v12 =>
    some v12)
    else (if p1 = 5 then (ob1 (d_X6_inState 1 m_s) fun r14 =>
    some r14)
    else (if p1 = 6 then (ob1 (d_X6_inState 2 m_s) fun r17 =>
    some r17)
    else (if p1 = 7 then (ob1 (rd 490 m_s 487) fun v20 =>
    some v20)
    else (if p1 = 8 then (ob1 (rd 490 m_s 488) fun v22 =>
    some v22)
    else (if p1 = 9 then (ob1 (rd 490 m_s 486) fun v24 =>
    some v24)
    else (if p1 = 10 then (ob1 (d_X6_debtors m_s) fun r26 =>
    some r26)
    else (if p1 = 11 then (ob1 (rd 490 m_s 489) fun v29 =>
    some v29)
    else (if p1 = 12 then (ob1 (rd 490 m_s ((477 + p1) - 12)) fun v31 =>
    some (v31 + 9))
    else (if p1 = 13 then (ob1 (rd 490 m_s ((477 + p1) - 12)) fun v33 =>
    some (v33 + 9))
    else (if p1 = 14 then (ob1 (rd 490 m_s ((479 + p1) - 14)) fun v35 =>
    some v35)
    else (if p1 = 15 then (ob1 (rd 490 m_s ((479 + p1) - 14)) fun v37 =>
    some v37)
    else (if p1 = 16 then (ob1 (rd 490 m_s ((479 + p1) - 14)) fun v39 =>
    some v39)
    else (if p1 = 17 then (ob1 (rd 490 m_s ((479 + p1) - 14)) fun v41 =>
    some v41)
    else (if p1 = 18 then (some m_pasts)
    else (if p1 = 19 then (some m_length)
    else (some (-2)))))))))))))))))))))