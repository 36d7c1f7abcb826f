def d_X5_finishAct (p1 : Int32) (N : Ex) (T : Ex) (Hs : Nat → Ex) (old : Int32) (sze : Int32) : Int32 × Ex × (Nat → Ex) × Int32 × Int32 :=
    if p1 < 0 then ((p1, N, Hs, old, sze))
    else (tb3 (d_X1_record N Hs old sze) fun Hs_2 old_3 sze_4 =>
    (p1, T, Hs_2, old_3, sze_4))
set_option maxHeartbeats 4000000 in
set_option maxRecDepth 100000 in
theorem c_X5_finishAct (l : Launch) (D : va_G) (cI cC cE : ClassId) (h0 hh oo hr : Nat) (aN : Nat → Nat) (aT : Nat → Nat) (aS : Nat → Nat) (aH : Nat → Nat → Nat) (sz : Nat) (N : Ex) (T : Ex) (Hs : Nat → Ex) (old : Int32) (sze : Int32) (hasS : Int32) (stN : Int32) (stE : Int32) (p1 : Int32) (r0 : Int32) (o_N : Ex) (o_Hs : Nat → Ex) (o_old : Int32) (o_sze : Int32) (h : d_X5_finishAct p1 N T Hs old sze = (r0, o_N, o_Hs, o_old, o_sze)) : Met l yX5_finishAct wsX5_finishAct ({ frames := 4, cells := 0, slots := 0, locals := 90 } : Room) (kP D (kT cI cC cE) [.ref h0, .int p1] (fl [trW h0 hh oo aN aT aS hasS stN stE, exW cI aN N, exW cI aT T, w_X1_stateAt cI cC cE hh hr aH old sze, exW cI (aH 0) (Hs 0), exW cI (aH 1) (Hs 1), exW cI (aH 2) (Hs 2), exW cI (aH 3) (Hs 3)]) sz) (kQi D (kT cI cC cE) (fl [trW h0 hh oo aN aT aS hasS stN stE, exW cI aN N, exW cI aT T, w_X1_stateAt cI cC cE hh hr aH old sze, exW cI (aH 0) (Hs 0), exW cI (aH 1) (Hs 1), exW cI (aH 2) (Hs 2), exW cI (aH 3) (Hs 3)]) (fl [trW h0 hh oo aN aT aS hasS stN stE, exW cI aN o_N, exW cI aT T, w_X1_stateAt cI cC cE hh hr aH o_old o_sze, exW cI (aH 0) (o_Hs 0), exW cI (aH 1) (o_Hs 1), exW cI (aH 2) (o_Hs 2), exW cI (aH 3) (o_Hs 3)]) sz r0) 0 0 (va_A (fl [trW h0 hh oo aN aT aS hasS stN stE, exW cI aN N, exW cI aT T, w_X1_stateAt cI cC cE hh hr aH old sze, exW cI (aH 0) (Hs 0), exW cI (aH 1) (Hs 1), exW cI (aH 2) (Hs 2), exW cI (aH 3) (Hs 3)]) sz) := by
  refine kMetI (cc := cX5_finishAct) (maxL := 2) (own := RX5) (by decide) rfl (Nat.le_of_ble_eq_true rfl) rfl ?_
  intro p e s m below meth c A Q hx hb hml hown hts hP hK hD hA hS hname fin ls hl
  have hl : lv_has ls 2 [(0, .ref h0), (1, .int p1)] := hl
  have hiX5 : ∀ w ∈ u_ws RX5 TX5 8, w ∈ wsX5_finishAct := by decide +kernel
  dsimp only [d_X5_finishAct] at h
  refine lv_iload_n hx hb dX5_finishAct_0 rfl (lv_at hl 1 rfl) ?_
  refine lv_if_lt (tgt := 26) hx hb dX5_finishAct_1 (by decide) (fun c1 => ?_) (fun c1 => ?_)
  · have h := (k_iB h).1 c1
    refine lv_iload_n hx hb dX5_finishAct_26 rfl (lv_at hl 1 rfl) ?_
    obtain ⟨rfl, rfl, rfl, rfl, rfl⟩ := inj5 (h)
    exact fin _ _ _ _ dX5_finishAct_27 hP hD hS
  · have h := (k_iB h).2 c1
    refine lv_aload_n hx hb dX5_finishAct_4 rfl (lv_at hl 0 rfl) ?_
    refine va_get (ci := 5) (C := RX5) (T := TX5) (N := 8) hx hb hts hiX5 hown hK hP 0 rfl rfl 3 (by decide) (hts (.fieldLink RX5 25 "RiddleTrade" "history" "LRiddleTrade$History;") (List.mem_of_getElem? (i := 1) rfl)) (fun _ h9 => h9) rfl dX5_finishAct_5 ?_
    refine lv_aload_n hx hb dX5_finishAct_8 rfl (lv_at hl 0 rfl) ?_
    refine va_get (ci := 5) (C := RX5) (T := TX5) (N := 8) hx hb hts hiX5 hown hK hP 0 rfl rfl 0 (by decide) (hts (.fieldLink RX5 10 "RiddleTrade" "now" "LRiddleTrade$Exchange;") (List.mem_of_getElem? (i := 2) rfl)) (fun _ h9 => h9) rfl dX5_finishAct_9 ?_
    obtain ⟨Hs_2, old_3, sze_4, hu5, h⟩ := tb3_el h
    refine kbv (ci := 1) (q := (RX1, TX1, 3)) (bs := [trW h0 hh oo aN aT aS hasS stN stE, exW cI aN N, exW cI aT T, w_X1_stateAt cI cC cE hh hr aH old sze, exW cI (aH 0) (Hs 0), exW cI (aH 1) (Hs 1), exW cI (aH 2) (Hs 2), exW cI (aH 3) (Hs 3)]) (cs := [w_X1_stateAt cI cC cE hh hr aH old sze, exW cI (aH 0) (Hs 0), exW cI (aH 1) (Hs 1), exW cI (aH 2) (Hs 2), exW cI (aH 3) (Hs 3), exW cI aN N]) (cs' := [w_X1_stateAt cI cC cE hh hr aH old_3 sze_4, exW cI (aH 0) (Hs_2 0), exW cI (aH 1) (Hs_2 1), exW cI (aH 2) (Hs_2 2), exW cI (aH 3) (Hs_2 3), exW cI aN N]) (bs1 := [trW h0 hh oo aN aT aS hasS stN stE, exW cI aN N, exW cI aT T, w_X1_stateAt cI cC cE hh hr aH old_3 sze_4, exW cI (aH 0) (Hs_2 0), exW cI (aH 1) (Hs_2 1), exW cI (aH 2) (Hs_2 2), exW cI (aH 3) (Hs_2 3)]) ⟨hx, hb, hml, hown, hts⟩ [3, 4, 5, 6, 7, 1] [0, 2] (c_X1_record l D cI cC cE hh hr aH aN _ N Hs old sze Hs_2 old_3 sze_4 hu5) (cwV 1 hts gX5_finishAct_X1_record rfl rfl rfl (by decide +kernel) ⟨Nat.le_of_ble_eq_true rfl, Nat.le_of_ble_eq_true rfl⟩) hK hP hD hS hA rfl rfl rfl rfl rfl rfl rfl rfl rfl hl.1 rfl (Nat.le_of_ble_eq_true rfl) dX5_finishAct_12 ⟨Nat.le_refl 0, Nat.le_refl 0⟩ (fun H locs hP hD hS => ?_)
    refine lv_aload_n hx hb dX5_finishAct_15 rfl (lv_at hl 0 rfl) ?_
    refine va_get (ci := 5) (C := RX5) (T := TX5) (N := 8) hx hb hts hiX5 hown hK hP 0 rfl rfl 0 (by decide) (hts (.fieldLink RX5 10 "RiddleTrade" "now" "LRiddleTrade$Exchange;") (List.mem_of_getElem? (i := 2) rfl)) (fun _ h9 => h9) rfl dX5_finishAct_16 ?_
    refine lv_aload_n hx hb dX5_finishAct_19 rfl (lv_at hl 0 rfl) ?_
    refine va_get (ci := 5) (C := RX5) (T := TX5) (N := 8) hx hb hts hiX5 hown hK hP 0 rfl rfl 1 (by decide) (hts (.fieldLink RX5 16 "RiddleTrade" "trial" "LRiddleTrade$Exchange;") (List.mem_of_getElem? (i := 3) rfl)) (fun _ h9 => h9) rfl dX5_finishAct_20 ?_
    refine kbv (ci := 0) (q := (RX0, TX0, 7)) (bs := [trW h0 hh oo aN aT aS hasS stN stE, exW cI aN N, exW cI aT T, w_X1_stateAt cI cC cE hh hr aH old_3 sze_4, exW cI (aH 0) (Hs_2 0), exW cI (aH 1) (Hs_2 1), exW cI (aH 2) (Hs_2 2), exW cI (aH 3) (Hs_2 3)]) (cs := [exW cI aN N, exW cI aT T]) (cs' := [exW cI aN T, exW cI aT T]) (bs1 := [trW h0 hh oo aN aT aS hasS stN stE, exW cI aN T, exW cI aT T, w_X1_stateAt cI cC cE hh hr aH old_3 sze_4, exW cI (aH 0) (Hs_2 0), exW cI (aH 1) (Hs_2 1), exW cI (aH 2) (Hs_2 2), exW cI (aH 3) (Hs_2 3)]) ⟨hx, hb, hml, hown, hts⟩ [1, 2] [0, 3, 4, 5, 6, 7] (ce_X0_copyFrom l D cI cC cE aN aT _ N T ) (cwV 1 hts gX5_finishAct_X0_copyFrom rfl rfl rfl (by decide +kernel) ⟨Nat.le_of_ble_eq_true rfl, Nat.le_of_ble_eq_true rfl⟩) hK hP hD hS hA rfl rfl rfl rfl rfl rfl rfl rfl rfl hl.1 rfl (Nat.le_of_ble_eq_true rfl) dX5_finishAct_23 ⟨Nat.le_refl 0, Nat.le_refl 0⟩ (fun H locs hP hD hS => ?_)
    refine lv_iload_n hx hb dX5_finishAct_26 rfl (lv_at hl 1 rfl) ?_
    obtain ⟨rfl, rfl, rfl, rfl, rfl⟩ := inj5 (h)
    exact fin _ _ _ _ dX5_finishAct_27 hP hD hS
def d_X5_ask (p1 : Int32) (p2 : Int32) (p3 : Int32) (N : Ex) (T : Ex) (Hs : Nat → Ex) (old : Int32) (sze : Int32) : Option (Int32 × Ex × Ex × (Nat → Ex) × Int32 × Int32) :=
    ob3 (d_X0_addRiddle p1 p2 p3 N.2.1 N.2.2.1) fun r1 TfR_2 TrR_3 =>
    tb5 (d_X5_finishAct r1 N (N.1, TfR_2, TrR_3, N.2.2.2.1, N.2.2.2.2.1, N.2.2.2.2.2.1, N.2.2.2.2.2.2.1, N.2.2.2.2.2.2.2.1, N.2.2.2.2.2.2.2.2.1, N.2.2.2.2.2.2.2.2.2.1, N.2.2.2.2.2.2.2.2.2.2) Hs old sze) fun r5 N_6 Hs_7 old_8 sze_9 =>
    some (r5, N_6, (N.1, TfR_2, TrR_3, N.2.2.2.1, N.2.2.2.2.1, N.2.2.2.2.2.1, N.2.2.2.2.2.2.1, N.2.2.2.2.2.2.2.1, N.2.2.2.2.2.2.2.2.1, N.2.2.2.2.2.2.2.2.2.1, N.2.2.2.2.2.2.2.2.2.2), Hs_7, old_8, sze_9)
set_option maxHeartbeats 4000000 in
set_option maxRecDepth 100000 in
theorem c_X5_ask (l : Launch) (D : va_G) (cI cC cE : ClassId) (h0 hh oo hr : Nat) (aN : Nat → Nat) (aT : Nat → Nat) (aS : Nat → Nat) (aH : Nat → Nat → Nat) (sz : Nat) (N : Ex) (T : Ex) (Hs : Nat → Ex) (old : Int32) (sze : Int32) (hasS : Int32) (stN : Int32) (stE : Int32) (p1 : Int32) (p2 : Int32) (p3 : Int32) (r0 : Int32) (o_N : Ex) (o_T : Ex) (o_Hs : Nat → Ex) (o_old : Int32) (o_sze : Int32) (h : d_X5_ask p1 p2 p3 N T Hs old sze = some (r0, o_N, o_T, o_Hs, o_old, o_sze)) : Met l yX5_ask wsX5_ask ({ frames := 5, cells := 0, slots := 0, locals := 111 } : Room) (kP D (kT cI cC cE) [.ref h0, .int p1, .int p2, .int p3] (fl [trW h0 hh oo aN aT aS hasS stN stE, exW cI aN N, exW cI aT T, w_X1_stateAt cI cC cE hh hr aH old sze, exW cI (aH 0) (Hs 0), exW cI (aH 1) (Hs 1), exW cI (aH 2) (Hs 2), exW cI (aH 3) (Hs 3)]) sz) (kQi D (kT cI cC cE) (fl [trW h0 hh oo aN aT aS hasS stN stE, exW cI aN N, exW cI aT T, w_X1_stateAt cI cC cE hh hr aH old sze, exW cI (aH 0) (Hs 0), exW cI (aH 1) (Hs 1), exW cI (aH 2) (Hs 2), exW cI (aH 3) (Hs 3)]) (fl [trW h0 hh oo aN aT aS hasS stN stE, exW cI aN o_N, exW cI aT o_T, w_X1_stateAt cI cC cE hh hr aH o_old o_sze, exW cI (aH 0) (o_Hs 0), exW cI (aH 1) (o_Hs 1), exW cI (aH 2) (o_Hs 2), exW cI (aH 3) (o_Hs 3)]) sz r0) 0 0 (va_A (fl [trW h0 hh oo aN aT aS hasS stN stE, exW cI aN N, exW cI aT T, w_X1_stateAt cI cC cE hh hr aH old sze, exW cI (aH 0) (Hs 0), exW cI (aH 1) (Hs 1), exW cI (aH 2) (Hs 2), exW cI (aH 3) (Hs 3)]) sz) := by
  refine kMetI (cc := cX5_ask) (maxL := 4) (own := RX5) (by decide) rfl (Nat.le_of_ble_eq_true rfl) rfl ?_
  intro p e s m below meth c A Q hx hb hml hown hts hP hK hD hA hS hname fin ls hl
  have hl : lv_has ls 4 [(0, .ref h0), (1, .int p1), (2, .int p2), (3, .int p3)] := hl
  have hiX5 : ∀ w ∈ u_ws RX5 TX5 8, w ∈ wsX5_ask := by decide +kernel
  dsimp only [d_X5_ask] at h
  refine lv_aload_n hx hb dX5_ask_0 rfl (lv_at hl 0 rfl) ?_
  refine va_get (ci := 5) (C := RX5) (T := TX5) (N := 8) hx hb hts hiX5 hown hK hP 0 rfl rfl 1 (by decide) (hts (.fieldLink RX5 16 "RiddleTrade" "trial" "LRiddleTrade$Exchange;") (List.mem_of_getElem? (i := 1) rfl)) (fun _ h9 => h9) rfl dX5_ask_1 ?_
  refine lv_aload_n hx hb dX5_ask_4 rfl (lv_at hl 0 rfl) ?_
  refine va_get (ci := 5) (C := RX5) (T := TX5) (N := 8) hx hb hts hiX5 hown hK hP 0 rfl rfl 0 (by decide) (hts (.fieldLink RX5 10 "RiddleTrade" "now" "LRiddleTrade$Exchange;") (List.mem_of_getElem? (i := 2) rfl)) (fun _ h9 => h9) rfl dX5_ask_5 ?_
  refine kbv (ci := 0) (q := (RX0, TX0, 7)) (bs := [trW h0 hh oo aN aT aS hasS stN stE, exW cI aN N, exW cI aT T, w_X1_stateAt cI cC cE hh hr aH old sze, exW cI (aH 0) (Hs 0), exW cI (aH 1) (Hs 1), exW cI (aH 2) (Hs 2), exW cI (aH 3) (Hs 3)]) (cs := [exW cI aT T, exW cI aN N]) (cs' := [exW cI aT N, exW cI aN N]) (bs1 := [trW h0 hh oo aN aT aS hasS stN stE, exW cI aN N, exW cI aT N, w_X1_stateAt cI cC cE hh hr aH old sze, exW cI (aH 0) (Hs 0), exW cI (aH 1) (Hs 1), exW cI (aH 2) (Hs 2), exW cI (aH 3) (Hs 3)]) ⟨hx, hb, hml, hown, hts⟩ [2, 1] [0, 3, 4, 5, 6, 7] (ce_X0_copyFrom l D cI cC cE aT aN _ T N ) (cwV 1 hts gX5_ask_X0_copyFrom rfl rfl rfl (by decide +kernel) ⟨Nat.le_of_ble_eq_true rfl, Nat.le_of_ble_eq_true rfl⟩) hK hP hD hS hA rfl rfl rfl rfl rfl rfl rfl rfl rfl hl.1 rfl (Nat.le_of_ble_eq_true rfl) dX5_ask_8 ⟨Nat.le_refl 0, Nat.le_refl 0⟩ (fun H locs hP hD hS => ?_)
  refine lv_aload_n hx hb dX5_ask_11 rfl (lv_at hl 0 rfl) ?_
  refine lv_aload_n hx hb dX5_ask_12 rfl (lv_at hl 0 rfl) ?_
  refine va_get (ci := 5) (C := RX5) (T := TX5) (N := 8) hx hb hts hiX5 hown hK hP 0 rfl rfl 1 (by decide) (hts (.fieldLink RX5 16 "RiddleTrade" "trial" "LRiddleTrade$Exchange;") (List.mem_of_getElem? (i := 1) rfl)) (fun _ h9 => h9) rfl dX5_ask_13 ?_
  refine lv_iload_n hx hb dX5_ask_16 rfl (lv_at hl 1 rfl) ?_
  refine lv_iload_n hx hb dX5_ask_17 rfl (lv_at hl 2 rfl) ?_
  refine lv_iload_n hx hb dX5_ask_18 rfl (lv_at hl 3 rfl) ?_
  obtain ⟨r1, TfR_2, TrR_3, hu4, h⟩ := ob3_el h
  refine kbi (ci := 0) (q := (RX0, TX0, 7)) (bs := [trW h0 hh oo aN aT aS hasS stN stE, exW cI aN N, exW cI aT N, w_X1_stateAt cI cC cE hh hr aH old sze, exW cI (aH 0) (Hs 0), exW cI (aH 1) (Hs 1), exW cI (aH 2) (Hs 2), exW cI (aH 3) (Hs 3)]) (cs := [exW cI aT N]) (cs' := [exW cI aT (N.1, TfR_2, TrR_3, N.2.2.2.1, N.2.2.2.2.1, N.2.2.2.2.2.1, N.2.2.2.2.2.2.1, N.2.2.2.2.2.2.2.1, N.2.2.2.2.2.2.2.2.1, N.2.2.2.2.2.2.2.2.2.1, N.2.2.2.2.2.2.2.2.2.2)]) (bs1 := [trW h0 hh oo aN aT aS hasS stN stE, exW cI aN N, exW cI aT (N.1, TfR_2, TrR_3, N.2.2.2.1, N.2.2.2.2.1, N.2.2.2.2.2.1, N.2.2.2.2.2.2.1, N.2.2.2.2.2.2.2.1, N.2.2.2.2.2.2.2.2.1, N.2.2.2.2.2.2.2.2.2.1, N.2.2.2.2.2.2.2.2.2.2), w_X1_stateAt cI cC cE hh hr aH old sze, exW cI (aH 0) (Hs 0), exW cI (aH 1) (Hs 1), exW cI (aH 2) (Hs 2), exW cI (aH 3) (Hs 3)]) ⟨hx, hb, hml, hown, hts⟩ [2] [0, 1, 3, 4, 5, 6, 7] (ce_X0_addRiddle l D cI cC cE aT _ N p1 p2 p3 r1 TfR_2 TrR_3 hu4) (cwV 3 hts gX5_ask_X0_addRiddle rfl rfl rfl (by decide +kernel) ⟨Nat.le_of_ble_eq_true rfl, Nat.le_of_ble_eq_true rfl⟩) hK hP hD hS hA rfl rfl rfl rfl rfl rfl rfl rfl rfl hl.1 rfl (Nat.le_of_ble_eq_true rfl) dX5_ask_19 ⟨Nat.le_refl 0, Nat.le_refl 0⟩ (fun H locs hP hD hS => ?_)
  obtain ⟨r5, N_6, Hs_7, old_8, sze_9, hu10, h⟩ := tb5_el h
  refine kbi (ci := 5) (q := (RX5, TX5, 8)) (bs := [trW h0 hh oo aN aT aS hasS stN stE, exW cI aN N, exW cI aT (N.1, TfR_2, TrR_3, N.2.2.2.1, N.2.2.2.2.1, N.2.2.2.2.2.1, N.2.2.2.2.2.2.1, N.2.2.2.2.2.2.2.1, N.2.2.2.2.2.2.2.2.1, N.2.2.2.2.2.2.2.2.2.1, N.2.2.2.2.2.2.2.2.2.2), w_X1_stateAt cI cC cE hh hr aH old sze, exW cI (aH 0) (Hs 0), exW cI (aH 1) (Hs 1), exW cI (aH 2) (Hs 2), exW cI (aH 3) (Hs 3)]) (cs := [trW h0 hh oo aN aT aS hasS stN stE, exW cI aN N, exW cI aT (N.1, TfR_2, TrR_3, N.2.2.2.1, N.2.2.2.2.1, N.2.2.2.2.2.1, N.2.2.2.2.2.2.1, N.2.2.2.2.2.2.2.1, N.2.2.2.2.2.2.2.2.1, N.2.2.2.2.2.2.2.2.2.1, N.2.2.2.2.2.2.2.2.2.2), w_X1_stateAt cI cC cE hh hr aH old sze, exW cI (aH 0) (Hs 0), exW cI (aH 1) (Hs 1), exW cI (aH 2) (Hs 2), exW cI (aH 3) (Hs 3)]) (cs' := [trW h0 hh oo aN aT aS hasS stN stE, exW cI aN N_6, exW cI aT (N.1, TfR_2, TrR_3, N.2.2.2.1, N.2.2.2.2.1, N.2.2.2.2.2.1, N.2.2.2.2.2.2.1, N.2.2.2.2.2.2.2.1, N.2.2.2.2.2.2.2.2.1, N.2.2.2.2.2.2.2.2.2.1, N.2.2.2.2.2.2.2.2.2.2), w_X1_stateAt cI cC cE hh hr aH old_8 sze_9, exW cI (aH 0) (Hs_7 0), exW cI (aH 1) (Hs_7 1), exW cI (aH 2) (Hs_7 2), exW cI (aH 3) (Hs_7 3)]) (bs1 := [trW h0 hh oo aN aT aS hasS stN stE, exW cI aN N_6, exW cI aT (N.1, TfR_2, TrR_3, N.2.2.2.1, N.2.2.2.2.1, N.2.2.2.2.2.1, N.2.2.2.2.2.2.1, N.2.2.2.2.2.2.2.1, N.2.2.2.2.2.2.2.2.1, N.2.2.2.2.2.2.2.2.2.1, N.2.2.2.2.2.2.2.2.2.2), w_X1_stateAt cI cC cE hh hr aH old_8 sze_9, exW cI (aH 0) (Hs_7 0), exW cI (aH 1) (Hs_7 1), exW cI (aH 2) (Hs_7 2), exW cI (aH 3) (Hs_7 3)]) ⟨hx, hb, hml, hown, hts⟩ [0, 1, 2, 3, 4, 5, 6, 7] [] (c_X5_finishAct l D cI cC cE h0 hh oo hr aN aT aS aH _ N (N.1, TfR_2, TrR_3, N.2.2.2.1, N.2.2.2.2.1, N.2.2.2.2.2.1, N.2.2.2.2.2.2.1, N.2.2.2.2.2.2.2.1, N.2.2.2.2.2.2.2.2.1, N.2.2.2.2.2.2.2.2.2.1, N.2.2.2.2.2.2.2.2.2.2) Hs old sze hasS stN stE r1 r5 N_6 Hs_7 old_8 sze_9 hu10) (cwV 1 hts gX5_ask_X5_finishAct rfl rfl rfl (by decide +kernel) ⟨Nat.le_of_ble_eq_true rfl, Nat.le_of_ble_eq_true rfl⟩) hK hP hD hS hA rfl rfl rfl rfl rfl rfl rfl rfl rfl hl.1 rfl (Nat.le_of_ble_eq_true rfl) dX5_ask_22 ⟨Nat.le_refl 0, Nat.le_refl 0⟩ (fun H locs hP hD hS => ?_)
  obtain ⟨rfl, rfl, rfl, rfl, rfl, rfl⟩ := inj6 (Option.some.inj h)
  exact fin _ _ _ _ dX5_ask_25 hP hD hS
def d_X5_withdraw (p1 : Int32) (N : Ex) (T : Ex) (Hs : Nat → Ex) (old : Int32) (sze : Int32) : Option (Int32 × Ex × Ex × (Nat → Ex) × Int32 × Int32) :=
    ob2 (d_X0_closeRiddle p1 N.2.1 N.2.2.1 N.2.2.2.1 N.2.2.2.2.1) fun r1 TfR_2 =>
    tb5 (d_X5_finishAct r1 N (N.1, TfR_2, N.2.2.1, N.2.2.2.1, N.2.2.2.2.1, N.2.2.2.2.2.1, N.2.2.2.2.2.2.1, N.2.2.2.2.2.2.2.1, N.2.2.2.2.2.2.2.2.1, N.2.2.2.2.2.2.2.2.2.1, N.2.2.2.2.2.2.2.2.2.2) Hs old sze) fun r4 N_5 Hs_6 old_7 sze_8 =>
    some (r4, N_5, (N.1, TfR_2, N.2.2.1, N.2.2.2.1, N.2.2.2.2.1, N.2.2.2.2.2.1, N.2.2.2.2.2.2.1, N.2.2.2.2.2.2.2.1, N.2.2.2.2.2.2.2.2.1, N.2.2.2.2.2.2.2.2.2.1, N.2.2.2.2.2.2.2.2.2.2), Hs_6, old_7, sze_8)
set_option maxHeartbeats 4000000 in
set_option maxRecDepth 100000 in
theorem c_X5_withdraw (l : Launch) (D : va_G) (cI cC cE : ClassId) (h0 hh oo hr : Nat) (aN : Nat → Nat) (aT : Nat → Nat) (aS : Nat → Nat) (aH : Nat → Nat → Nat) (sz : Nat) (N : Ex) (T : Ex) (Hs : Nat → Ex) (old : Int32) (sze : Int32) (hasS : Int32) (stN : Int32) (stE : Int32) (p1 : Int32) (r0 : Int32) (o_N : Ex) (o_T : Ex) (o_Hs : Nat → Ex) (o_old : Int32) (o_sze : Int32) (h : d_X5_withdraw p1 N T Hs old sze = some (r0, o_N, o_T, o_Hs, o_old, o_sze)) : Met l yX5_withdraw wsX5_withdraw ({ frames := 5, cells := 0, slots := 0, locals := 111 } : Room) (kP D (kT cI cC cE) [.ref h0, .int p1] (fl [trW h0 hh oo aN aT aS hasS stN stE, exW cI aN N, exW cI aT T, w_X1_stateAt cI cC cE hh hr aH old sze, exW cI (aH 0) (Hs 0), exW cI (aH 1) (Hs 1), exW cI (aH 2) (Hs 2), exW cI (aH 3) (Hs 3)]) sz) (kQi D (kT cI cC cE) (fl [trW h0 hh oo aN aT aS hasS stN stE, exW cI aN N, exW cI aT T, w_X1_stateAt cI cC cE hh hr aH old sze, exW cI (aH 0) (Hs 0), exW cI (aH 1) (Hs 1), exW cI (aH 2) (Hs 2), exW cI (aH 3) (Hs 3)]) (fl [trW h0 hh oo aN aT aS hasS stN stE, exW cI aN o_N, exW cI aT o_T, w_X1_stateAt cI cC cE hh hr aH o_old o_sze, exW cI (aH 0) (o_Hs 0), exW cI (aH 1) (o_Hs 1), exW cI (aH 2) (o_Hs 2), exW cI (aH 3) (o_Hs 3)]) sz r0) 0 0 (va_A (fl [trW h0 hh oo aN aT aS hasS stN stE, exW cI aN N, exW cI aT T, w_X1_stateAt cI cC cE hh hr aH old sze, exW cI (aH 0) (Hs 0), exW cI (aH 1) (Hs 1), exW cI (aH 2) (Hs 2), exW cI (aH 3) (Hs 3)]) sz) := by
  refine kMetI (cc := cX5_withdraw) (maxL := 2) (own := RX5) (by decide) rfl (Nat.le_of_ble_eq_true rfl) rfl ?_
  intro p e s m below meth c A Q hx hb hml hown hts hP hK hD hA hS hname fin ls hl
  have hl : lv_has ls 2 [(0, .ref h0), (1, .int p1)] := hl
  have hiX5 : ∀ w ∈ u_ws RX5 TX5 8, w ∈ wsX5_withdraw := by decide +kernel
  dsimp only [d_X5_withdraw] at h
  refine lv_aload_n hx hb dX5_withdraw_0 rfl (lv_at hl 0 rfl) ?_
  refine va_get (ci := 5) (C := RX5) (T := TX5) (N := 8) hx hb hts hiX5 hown hK hP 0 rfl rfl 1 (by decide) (hts (.fieldLink RX5 16 "RiddleTrade" "trial" "LRiddleTrade$Exchange;") (List.mem_of_getElem? (i := 1) rfl)) (fun _ h9 => h9) rfl dX5_withdraw_1 ?_
  refine lv_aload_n hx hb dX5_withdraw_4 rfl (lv_at hl 0 rfl) ?_
  refine va_get (ci := 5) (C := RX5) (T := TX5) (N := 8) hx hb hts hiX5 hown hK hP 0 rfl rfl 0 (by decide) (hts (.fieldLink RX5 10 "RiddleTrade" "now" "LRiddleTrade$Exchange;") (List.mem_of_getElem? (i := 2) rfl)) (fun _ h9 => h9) rfl dX5_withdraw_5 ?_
  refine kbv (ci := 0) (q := (RX0, TX0, 7)) (bs := [trW h0 hh oo aN aT aS hasS stN stE, exW cI aN N, exW cI aT T, w_X1_stateAt cI cC cE hh hr aH old sze, exW cI (aH 0) (Hs 0), exW cI (aH 1) (Hs 1), exW cI (aH 2) (Hs 2), exW cI (aH 3) (Hs 3)]) (cs := [exW cI aT T, exW cI aN N]) (cs' := [exW cI aT N, exW cI aN N]) (bs1 := [trW h0 hh oo aN aT aS hasS stN stE, exW cI aN N, exW cI aT N, w_X1_stateAt cI cC cE hh hr aH old sze, exW cI (aH 0) (Hs 0), exW cI (aH 1) (Hs 1), exW cI (aH 2) (Hs 2), exW cI (aH 3) (Hs 3)]) ⟨hx, hb, hml, hown, hts⟩ [2, 1] [0, 3, 4, 5, 6, 7] (ce_X0_copyFrom l D cI cC cE aT aN _ T N ) (cwV 1 hts gX5_withdraw_X0_copyFrom rfl rfl rfl (by decide +kernel) ⟨Nat.le_of_ble_eq_true rfl, Nat.le_of_ble_eq_true rfl⟩) hK hP hD hS hA rfl rfl rfl rfl rfl rfl rfl rfl rfl hl.1 rfl (Nat.le_of_ble_eq_true rfl) dX5_withdraw_8 ⟨Nat.le_refl 0, Nat.le_refl 0⟩ (fun H locs hP hD hS => ?_)
  refine lv_aload_n hx hb dX5_withdraw_11 rfl (lv_at hl 0 rfl) ?_
  refine lv_aload_n hx hb dX5_withdraw_12 rfl (lv_at hl 0 rfl) ?_
  refine va_get (ci := 5) (C := RX5) (T := TX5) (N := 8) hx hb hts hiX5 hown hK hP 0 rfl rfl 1 (by decide) (hts (.fieldLink RX5 16 "RiddleTrade" "trial" "LRiddleTrade$Exchange;") (List.mem_of_getElem? (i := 1) rfl)) (fun _ h9 => h9) rfl dX5_withdraw_13 ?_
  refine lv_iload_n hx hb dX5_withdraw_16 rfl (lv_at hl 1 rfl) ?_
  obtain ⟨r1, TfR_2, hu3, h⟩ := ob2_el h
  refine kbi (ci := 0) (q := (RX0, TX0, 7)) (bs := [trW h0 hh oo aN aT aS hasS stN stE, exW cI aN N, exW cI aT N, w_X1_stateAt cI cC cE hh hr aH old sze, exW cI (aH 0) (Hs 0), exW cI (aH 1) (Hs 1), exW cI (aH 2) (Hs 2), exW cI (aH 3) (Hs 3)]) (cs := [exW cI aT N]) (cs' := [exW cI aT (N.1, TfR_2, N.2.2.1, N.2.2.2.1, N.2.2.2.2.1, N.2.2.2.2.2.1, N.2.2.2.2.2.2.1, N.2.2.2.2.2.2.2.1, N.2.2.2.2.2.2.2.2.1, N.2.2.2.2.2.2.2.2.2.1, N.2.2.2.2.2.2.2.2.2.2)]) (bs1 := [trW h0 hh oo aN aT aS hasS stN stE, exW cI aN N, exW cI aT (N.1, TfR_2, N.2.2.1, N.2.2.2.1, N.2.2.2.2.1, N.2.2.2.2.2.1, N.2.2.2.2.2.2.1, N.2.2.2.2.2.2.2.1, N.2.2.2.2.2.2.2.2.1, N.2.2.2.2.2.2.2.2.2.1, N.2.2.2.2.2.2.2.2.2.2), w_X1_stateAt cI cC cE hh hr aH old sze, exW cI (aH 0) (Hs 0), exW cI (aH 1) (Hs 1), exW cI (aH 2) (Hs 2), exW cI (aH 3) (Hs 3)]) ⟨hx, hb, hml, hown, hts⟩ [2] [0, 1, 3, 4, 5, 6, 7] (ce_X0_closeRiddle l D cI cC cE aT _ N p1 r1 TfR_2 hu3) (cwV 1 hts gX5_withdraw_X0_closeRiddle rfl rfl rfl (by decide +kernel) ⟨Nat.le_of_ble_eq_true rfl, Nat.le_of_ble_eq_true rfl⟩) hK hP hD hS hA rfl rfl rfl rfl rfl rfl rfl rfl rfl hl.1 rfl (Nat.le_of_ble_eq_true rfl) dX5_withdraw_17 ⟨Nat.le_refl 0, Nat.le_refl 0⟩ (fun H locs hP hD hS => ?_)
  obtain ⟨r4, N_5, Hs_6, old_7, sze_8, hu9, h⟩ := tb5_el h
  refine kbi (ci := 5) (q := (RX5, TX5, 8)) (bs := [trW h0 hh oo aN aT aS hasS stN stE, exW cI aN N, exW cI aT (N.1, TfR_2, N.2.2.1, N.2.2.2.1, N.2.2.2.2.1, N.2.2.2.2.2.1, N.2.2.2.2.2.2.1, N.2.2.2.2.2.2.2.1, N.2.2.2.2.2.2.2.2.1, N.2.2.2.2.2.2.2.2.2.1, N.2.2.2.2.2.2.2.2.2.2), w_X1_stateAt cI cC cE hh hr aH old sze, exW cI (aH 0) (Hs 0), exW cI (aH 1) (Hs 1), exW cI (aH 2) (Hs 2), exW cI (aH 3) (Hs 3)]) (cs := [trW h0 hh oo aN aT aS hasS stN stE, exW cI aN N, exW cI aT (N.1, TfR_2, N.2.2.1, N.2.2.2.1, N.2.2.2.2.1, N.2.2.2.2.2.1, N.2.2.2.2.2.2.1, N.2.2.2.2.2.2.2.1, N.2.2.2.2.2.2.2.2.1, N.2.2.2.2.2.2.2.2.2.1, N.2.2.2.2.2.2.2.2.2.2), w_X1_stateAt cI cC cE hh hr aH old sze, exW cI (aH 0) (Hs 0), exW cI (aH 1) (Hs 1), exW cI (aH 2) (Hs 2), exW cI (aH 3) (Hs 3)]) (cs' := [trW h0 hh oo aN aT aS hasS stN stE, exW cI aN N_5, exW cI aT (N.1, TfR_2, N.2.2.1, N.2.2.2.1, N.2.2.2.2.1, N.2.2.2.2.2.1, N.2.2.2.2.2.2.1, N.2.2.2.2.2.2.2.1, N.2.2.2.2.2.2.2.2.1, N.2.2.2.2.2.2.2.2.2.1, N.2.2.2.2.2.2.2.2.2.2), w_X1_stateAt cI cC cE hh hr aH old_7 sze_8, exW cI (aH 0) (Hs_6 0), exW cI (aH 1) (Hs_6 1), exW cI (aH 2) (Hs_6 2), exW cI (aH 3) (Hs_6 3)]) (bs1 := [trW h0 hh oo aN aT aS hasS stN stE, exW cI aN N_5, exW cI aT (N.1, TfR_2, N.2.2.1, N.2.2.2.1, N.2.2.2.2.1, N.2.2.2.2.2.1, N.2.2.2.2.2.2.1, N.2.2.2.2.2.2.2.1, N.2.2.2.2.2.2.2.2.1, N.2.2.2.2.2.2.2.2.2.1, N.2.2.2.2.2.2.2.2.2.2), w_X1_stateAt cI cC cE hh hr aH old_7 sze_8, exW cI (aH 0) (Hs_6 0), exW cI (aH 1) (Hs_6 1), exW cI (aH 2) (Hs_6 2), exW cI (aH 3) (Hs_6 3)]) ⟨hx, hb, hml, hown, hts⟩ [0, 1, 2, 3, 4, 5, 6, 7] [] (c_X5_finishAct l D cI cC cE h0 hh oo hr aN aT aS aH _ N (N.1, TfR_2, N.2.2.1, N.2.2.2.1, N.2.2.2.2.1, N.2.2.2.2.2.1, N.2.2.2.2.2.2.1, N.2.2.2.2.2.2.2.1, N.2.2.2.2.2.2.2.2.1, N.2.2.2.2.2.2.2.2.2.1, N.2.2.2.2.2.2.2.2.2.2) Hs old sze hasS stN stE r1 r4 N_5 Hs_6 old_7 sze_8 hu9) (cwV 1 hts gX5_withdraw_X5_finishAct rfl rfl rfl (by decide +kernel) ⟨Nat.le_of_ble_eq_true rfl, Nat.le_of_ble_eq_true rfl⟩) hK hP hD hS hA rfl rfl rfl rfl rfl rfl rfl rfl rfl hl.1 rfl (Nat.le_of_ble_eq_true rfl) dX5_withdraw_20 ⟨Nat.le_refl 0, Nat.le_refl 0⟩ (fun H locs hP hD hS => ?_)
  obtain ⟨rfl, rfl, rfl, rfl, rfl, rfl⟩ := inj6 (Option.some.inj h)
  exact fin _ _ _ _ dX5_withdraw_23 hP hD hS
def d_X5_deliver (p1 : Int32) (p2 : Int32) (p3 : Int32) (p4 : Int32) (N : Ex) (T : Ex) (Hs : Nat → Ex) (old : Int32) (sze : Int32) : Option (Int32 × Ex × Ex × (Nat → Ex) × Int32 × Int32) :=
    ob5 (d_X0_addAnswer p1 p2 p3 p4 N.2.1 N.2.2.1 N.2.2.2.1 N.2.2.2.2.1 N.2.2.2.2.2.2.2.1 N.2.2.2.2.2.2.2.2.1 N.2.2.2.2.2.2.2.2.2.1) fun r1 TfA_2 TrA_3 Tri_4 Tln_5 =>
    tb5 (d_X5_finishAct r1 N (N.1, N.2.1, N.2.2.1, TfA_2, TrA_3, N.2.2.2.2.2.1, N.2.2.2.2.2.2.1, Tri_4, N.2.2.2.2.2.2.2.2.1, Tln_5, N.2.2.2.2.2.2.2.2.2.2) Hs old sze) fun r7 N_8 Hs_9 old_10 sze_11 =>
    some (r7, N_8, (N.1, N.2.1, N.2.2.1, TfA_2, TrA_3, N.2.2.2.2.2.1, N.2.2.2.2.2.2.1, Tri_4, N.2.2.2.2.2.2.2.2.1, Tln_5, N.2.2.2.2.2.2.2.2.2.2), Hs_9, old_10, sze_11)
set_option maxHeartbeats 4000000 in
set_option maxRecDepth 100000 in
theorem c_X5_deliver (l : Launch) (D : va_G) (cI cC cE : ClassId) (h0 hh oo hr : Nat) (aN : Nat → Nat) (aT : Nat → Nat) (aS : Nat → Nat) (aH : Nat → Nat → Nat) (sz : Nat) (N : Ex) (T : Ex) (Hs : Nat → Ex) (old : Int32) (sze : Int32) (hasS : Int32) (stN : Int32) (stE : Int32) (p1 : Int32) (p2 : Int32) (p3 : Int32) (p4 : Int32) (r0 : Int32) (o_N : Ex) (o_T : Ex) (o_Hs : Nat → Ex) (o_old : Int32) (o_sze : Int32) (h : d_X5_deliver p1 p2 p3 p4 N T Hs old sze = some (r0, o_N, o_T, o_Hs, o_old, o_sze)) : Met l yX5_deliver wsX5_deliver ({ frames := 5, cells := 0, slots := 0, locals := 111 } : Room) (kP D (kT cI cC cE) [.ref h0, .int p1, .int p2, .int p3, .int p4] (fl [trW h0 hh oo aN aT aS hasS stN stE, exW cI aN N, exW cI aT T, w_X1_stateAt cI cC cE hh hr aH old sze, exW cI (aH 0) (Hs 0), exW cI (aH 1) (Hs 1), exW cI (aH 2) (Hs 2), exW cI (aH 3) (Hs 3)]) sz) (kQi D (kT cI cC cE) (fl [trW h0 hh oo aN aT aS hasS stN stE, exW cI aN N, exW cI aT T, w_X1_stateAt cI cC cE hh hr aH old sze, exW cI (aH 0) (Hs 0), exW cI (aH 1) (Hs 1), exW cI (aH 2) (Hs 2), exW cI (aH 3) (Hs 3)]) (fl [trW h0 hh oo aN aT aS hasS stN stE, exW cI aN o_N, exW cI aT o_T, w_X1_stateAt cI cC cE hh hr aH o_old o_sze, exW cI (aH 0) (o_Hs 0), exW cI (aH 1) (o_Hs 1), exW cI (aH 2) (o_Hs 2), exW cI (aH 3) (o_Hs 3)]) sz r0) 0 0 (va_A (fl [trW h0 hh oo aN aT aS hasS stN stE, exW cI aN N, exW cI aT T, w_X1_stateAt cI cC cE hh hr aH old sze, exW cI (aH 0) (Hs 0), exW cI (aH 1) (Hs 1), exW cI (aH 2) (Hs 2), exW cI (aH 3) (Hs 3)]) sz) := by
  refine kMetI (cc := cX5_deliver) (maxL := 5) (own := RX5) (by decide) rfl (Nat.le_of_ble_eq_true rfl) rfl ?_
  intro p e s m below meth c A Q hx hb hml hown hts hP hK hD hA hS hname fin ls hl
  have hl : lv_has ls 5 [(0, .ref h0), (1, .int p1), (2, .int p2), (3, .int p3), (4, .int p4)] := hl
  have hiX5 : ∀ w ∈ u_ws RX5 TX5 8, w ∈ wsX5_deliver := by decide +kernel
  dsimp only [d_X5_deliver] at h
  refine lv_aload_n hx hb dX5_deliver_0 rfl (lv_at hl 0 rfl) ?_
  refine va_get (ci := 5) (C := RX5) (T := TX5) (N := 8) hx hb hts hiX5 hown hK hP 0 rfl rfl 1 (by decide) (hts (.fieldLink RX5 16 "RiddleTrade" "trial" "LRiddleTrade$Exchange;") (List.mem_of_getElem? (i := 1) rfl)) (fun _ h9 => h9) rfl dX5_deliver_1 ?_
  refine lv_aload_n hx hb dX5_deliver_4 rfl (lv_at hl 0 rfl) ?_
  refine va_get (ci := 5) (C := RX5) (T := TX5) (N := 8) hx hb hts hiX5 hown hK hP 0 rfl rfl 0 (by decide) (hts (.fieldLink RX5 10 "RiddleTrade" "now" "LRiddleTrade$Exchange;") (List.mem_of_getElem? (i := 2) rfl)) (fun _ h9 => h9) rfl dX5_deliver_5 ?_
  refine kbv (ci := 0) (q := (RX0, TX0, 7)) (bs := [trW h0 hh oo aN aT aS hasS stN stE, exW cI aN N, exW cI aT T, w_X1_stateAt cI cC cE hh hr aH old sze, exW cI (aH 0) (Hs 0), exW cI (aH 1) (Hs 1), exW cI (aH 2) (Hs 2), exW cI (aH 3) (Hs 3)]) (cs := [exW cI aT T, exW cI aN N]) (cs' := [exW cI aT N, exW cI aN N]) (bs1 := [trW h0 hh oo aN aT aS hasS stN stE, exW cI aN N, exW cI aT N, w_X1_stateAt cI cC cE hh hr aH old sze, exW cI (aH 0) (Hs 0), exW cI (aH 1) (Hs 1), exW cI (aH 2) (Hs 2), exW cI (aH 3) (Hs 3)]) ⟨hx, hb, hml, hown, hts⟩ [2, 1] [0, 3, 4, 5, 6, 7] (ce_X0_copyFrom l D cI cC cE aT aN _ T N ) (cwV 1 hts gX5_deliver_X0_copyFrom rfl rfl rfl (by decide +kernel) ⟨Nat.le_of_ble_eq_true rfl, Nat.le_of_ble_eq_true rfl⟩) hK hP hD hS hA rfl rfl rfl rfl rfl rfl rfl rfl rfl hl.1 rfl (Nat.le_of_ble_eq_true rfl) dX5_deliver_8 ⟨Nat.le_refl 0, Nat.le_refl 0⟩ (fun H locs hP hD hS => ?_)
  refine lv_aload_n hx hb dX5_deliver_11 rfl (lv_at hl 0 rfl) ?_
  refine lv_aload_n hx hb dX5_deliver_12 rfl (lv_at hl 0 rfl) ?_
  refine va_get (ci := 5) (C := RX5) (T := TX5) (N := 8) hx hb hts hiX5 hown hK hP 0 rfl rfl 1 (by decide) (hts (.fieldLink RX5 16 "RiddleTrade" "trial" "LRiddleTrade$Exchange;") (List.mem_of_getElem? (i := 1) rfl)) (fun _ h9 => h9) rfl dX5_deliver_13 ?_
  refine lv_iload_n hx hb dX5_deliver_16 rfl (lv_at hl 1 rfl) ?_
  refine lv_iload_n hx hb dX5_deliver_17 rfl (lv_at hl 2 rfl) ?_
  refine lv_iload_n hx hb dX5_deliver_18 rfl (lv_at hl 3 rfl) ?_
  refine lv_iload hx hb dX5_deliver_19 (lv_at hl 4 rfl) ?_
  obtain ⟨r1, TfA_2, TrA_3, Tri_4, Tln_5, hu6, h⟩ := ob5_el h
  refine kbi (ci := 0) (q := (RX0, TX0, 7)) (bs := [trW h0 hh oo aN aT aS hasS stN stE, exW cI aN N, exW cI aT N, w_X1_stateAt cI cC cE hh hr aH old sze, exW cI (aH 0) (Hs 0), exW cI (aH 1) (Hs 1), exW cI (aH 2) (Hs 2), exW cI (aH 3) (Hs 3)]) (cs := [exW cI aT N]) (cs' := [exW cI aT (N.1, N.2.1, N.2.2.1, TfA_2, TrA_3, N.2.2.2.2.2.1, N.2.2.2.2.2.2.1, Tri_4, N.2.2.2.2.2.2.2.2.1, Tln_5, N.2.2.2.2.2.2.2.2.2.2)]) (bs1 := [trW h0 hh oo aN aT aS hasS stN stE, exW cI aN N, exW cI aT (N.1, N.2.1, N.2.2.1, TfA_2, TrA_3, N.2.2.2.2.2.1, N.2.2.2.2.2.2.1, Tri_4, N.2.2.2.2.2.2.2.2.1, Tln_5, N.2.2.2.2.2.2.2.2.2.2), w_X1_stateAt cI cC cE hh hr aH old sze, exW cI (aH 0) (Hs 0), exW cI (aH 1) (Hs 1), exW cI (aH 2) (Hs 2), exW cI (aH 3) (Hs 3)]) ⟨hx, hb, hml, hown, hts⟩ [2] [0, 1, 3, 4, 5, 6, 7] (ce_X0_addAnswer l D cI cC cE aT _ N p1 p2 p3 p4 r1 TfA_2 TrA_3 Tri_4 Tln_5 hu6) (cwV 4 hts gX5_deliver_X0_addAnswer rfl rfl rfl (by decide +kernel) ⟨Nat.le_of_ble_eq_true rfl, Nat.le_of_ble_eq_true rfl⟩) hK hP hD hS hA rfl rfl rfl rfl rfl rfl rfl rfl rfl hl.1 rfl (Nat.le_of_ble_eq_true rfl) dX5_deliver_21 ⟨Nat.le_refl 0, Nat.le_refl 0⟩ (fun H locs hP hD hS => ?_)
  obtain ⟨r7, N_8, Hs_9, old_10, sze_11, hu12, h⟩ := tb5_el h
  refine kbi (ci := 5) (q := (RX5, TX5, 8)) (bs := [trW h0 hh oo aN aT aS hasS stN stE, exW cI aN N, exW cI aT (N.1, N.2.1, N.2.2.1, TfA_2, TrA_3, N.2.2.2.2.2.1, N.2.2.2.2.2.2.1, Tri_4, N.2.2.2.2.2.2.2.2.1, Tln_5, N.2.2.2.2.2.2.2.2.2.2), w_X1_stateAt cI cC cE hh hr aH old sze, exW cI (aH 0) (Hs 0), exW cI (aH 1) (Hs 1), exW cI (aH 2) (Hs 2), exW cI (aH 3) (Hs 3)]) (cs := [trW h0 hh oo aN aT aS hasS stN stE, exW cI aN N, exW cI aT (N.1, N.2.1, N.2.2.1, TfA_2, TrA_3, N.2.2.2.2.2.1, N.2.2.2.2.2.2.1, Tri_4, N.2.2.2.2.2.2.2.2.1, Tln_5, N.2.2.2.2.2.2.2.2.2.2), w_X1_stateAt cI cC cE hh hr aH old sze, exW cI (aH 0) (Hs 0), exW cI (aH 1) (Hs 1), exW cI (aH 2) (Hs 2), exW cI (aH 3) (Hs 3)]) (cs' := [trW h0 hh oo aN aT aS hasS stN stE, exW cI aN N_8, exW cI aT (N.1, N.2.1, N.2.2.1, TfA_2, TrA_3, N.2.2.2.2.2.1, N.2.2.2.2.2.2.1, Tri_4, N.2.2.2.2.2.2.2.2.1, Tln_5, N.2.2.2.2.2.2.2.2.2.2), w_X1_stateAt cI cC cE hh hr aH old_10 sze_11, exW cI (aH 0) (Hs_9 0), exW cI (aH 1) (Hs_9 1), exW cI (aH 2) (Hs_9 2), exW cI (aH 3) (Hs_9 3)]) (bs1 := [trW h0 hh oo aN aT aS hasS stN stE, exW cI aN N_8, exW cI aT (N.1, N.2.1, N.2.2.1, TfA_2, TrA_3, N.2.2.2.2.2.1, N.2.2.2.2.2.2.1, Tri_4, N.2.2.2.2.2.2.2.2.1, Tln_5, N.2.2.2.2.2.2.2.2.2.2), w_X1_stateAt cI cC cE hh hr aH old_10 sze_11, exW cI (aH 0) (Hs_9 0), exW cI (aH 1) (Hs_9 1), exW cI (aH 2) (Hs_9 2), exW cI (aH 3) (Hs_9 3)]) ⟨hx, hb, hml, hown, hts⟩ [0, 1, 2, 3, 4, 5, 6, 7] [] (c_X5_finishAct l D cI cC cE h0 hh oo hr aN aT aS aH _ N (N.1, N.2.1, N.2.2.1, TfA_2, TrA_3, N.2.2.2.2.2.1, N.2.2.2.2.2.2.1, Tri_4, N.2.2.2.2.2.2.2.2.1, Tln_5, N.2.2.2.2.2.2.2.2.2.2) Hs old sze hasS stN stE r1 r7 N_8 Hs_9 old_10 sze_11 hu12) (cwV 1 hts gX5_deliver_X5_finishAct rfl rfl rfl (by decide +kernel) ⟨Nat.le_of_ble_eq_true rfl, Nat.le_of_ble_eq_true rfl⟩) hK hP hD hS hA rfl rfl rfl rfl rfl rfl rfl rfl rfl hl.1 rfl (Nat.le_of_ble_eq_true rfl) dX5_deliver_24 ⟨Nat.le_refl 0, Nat.le_refl 0⟩ (fun H locs hP hD hS => ?_)
  obtain ⟨rfl, rfl, rfl, rfl, rfl, rfl⟩ := inj6 (Option.some.inj h)
  exact fin _ _ _ _ dX5_deliver_27 hP hD hS
def d_X5_adjust (N : Ex) (T : Ex) (Hs : Nat → Ex) (old : Int32) (sze : Int32) : Option (Int32 × Ex × Ex × (Nat → Ex) × Int32 × Int32) :=
    ob2 (d_X0_setScalesRight N.2.2.2.2.2.1) fun r1 TfS_2 =>
    tb5 (d_X5_finishAct r1 N (N.1, N.2.1, N.2.2.1, N.2.2.2.1, N.2.2.2.2.1, TfS_2, N.2.2.2.2.2.2.1, N.2.2.2.2.2.2.2.1, N.2.2.2.2.2.2.2.2.1, N.2.2.2.2.2.2.2.2.2.1, N.2.2.2.2.2.2.2.2.2.2) Hs old sze) fun r4 N_5 Hs_6 old_7 sze_8 =>
    some (r4, N_5, (N.1, N.2.1, N.2.2.1, N.2.2.2.1, N.2.2.2.2.1, TfS_2, N.2.2.2.2.2.2.1, N.2.2.2.2.2.2.2.1, N.2.2.2.2.2.2.2.2.1, N.2.2.2.2.2.2.2.2.2.1, N.2.2.2.2.2.2.2.2.2.2), Hs_6, old_7, sze_8)
set_option maxHeartbeats 4000000 in
set_option maxRecDepth 100000 in
theorem c_X5_adjust (l : Launch) (D : va_G) (cI cC cE : ClassId) (h0 hh oo hr : Nat) (aN : Nat → Nat) (aT : Nat → Nat) (aS : Nat → Nat) (aH : Nat → Nat → Nat) (sz : Nat) (N : Ex) (T : Ex) (Hs : Nat → Ex) (old : Int32) (sze : Int32) (hasS : Int32) (stN : Int32) (stE : Int32) (r0 : Int32) (o_N : Ex) (o_T : Ex) (o_Hs : Nat → Ex) (o_old : Int32) (o_sze : Int32) (h : d_X5_adjust N T Hs old sze = some (r0, o_N, o_T, o_Hs, o_old, o_sze)) : Met l yX5_adjust wsX5_adjust ({ frames := 5, cells := 0, slots := 0, locals := 111 } : Room) (kP D (kT cI cC cE) [.ref h0] (fl [trW h0 hh oo aN aT aS hasS stN stE, exW cI aN N, exW cI aT T, w_X1_stateAt cI cC cE hh hr aH old sze, exW cI (aH 0) (Hs 0), exW cI (aH 1) (Hs 1), exW cI (aH 2) (Hs 2), exW cI (aH 3) (Hs 3)]) sz) (kQi D (kT cI cC cE) (fl [trW h0 hh oo aN aT aS hasS stN stE, exW cI aN N, exW cI aT T, w_X1_stateAt cI cC cE hh hr aH old sze, exW cI (aH 0) (Hs 0), exW cI (aH 1) (Hs 1), exW cI (aH 2) (Hs 2), exW cI (aH 3) (Hs 3)]) (fl [trW h0 hh oo aN aT aS hasS stN stE, exW cI aN o_N, exW cI aT o_T, w_X1_stateAt cI cC cE hh hr aH o_old o_sze, exW cI (aH 0) (o_Hs 0), exW cI (aH 1) (o_Hs 1), exW cI (aH 2) (o_Hs 2), exW cI (aH 3) (o_Hs 3)]) sz r0) 0 0 (va_A (fl [trW h0 hh oo aN aT aS hasS stN stE, exW cI aN N, exW cI aT T, w_X1_stateAt cI cC cE hh hr aH old sze, exW cI (aH 0) (Hs 0), exW cI (aH 1) (Hs 1), exW cI (aH 2) (Hs 2), exW cI (aH 3) (Hs 3)]) sz) := by
  refine kMetI (cc := cX5_adjust) (maxL := 1) (own := RX5) (by decide) rfl (Nat.le_of_ble_eq_true rfl) rfl ?_
  intro p e s m below meth c A Q hx hb hml hown hts hP hK hD hA hS hname fin ls hl
  have hl : lv_has ls 1 [(0, .ref h0)] := hl
  have hiX5 : ∀ w ∈ u_ws RX5 TX5 8, w ∈ wsX5_adjust := by decide +kernel
  dsimp only [d_X5_adjust] at h
  refine lv_aload_n hx hb dX5_adjust_0 rfl (lv_at hl 0 rfl) ?_
  refine va_get (ci := 5) (C := RX5) (T := TX5) (N := 8) hx hb hts hiX5 hown hK hP 0 rfl rfl 1 (by decide) (hts (.fieldLink RX5 16 "RiddleTrade" "trial" "LRiddleTrade$Exchange;") (List.mem_of_getElem? (i := 1) rfl)) (fun _ h9 => h9) rfl dX5_adjust_1 ?_
  refine lv_aload_n hx hb dX5_adjust_4 rfl (lv_at hl 0 rfl) ?_
  refine va_get (ci := 5) (C := RX5) (T := TX5) (N := 8) hx hb hts hiX5 hown hK hP 0 rfl rfl 0 (by decide) (hts (.fieldLink RX5 10 "RiddleTrade" "now" "LRiddleTrade$Exchange;") (List.mem_of_getElem? (i := 2) rfl)) (fun _ h9 => h9) rfl dX5_adjust_5 ?_
  refine kbv (ci := 0) (q := (RX0, TX0, 7)) (bs := [trW h0 hh oo aN aT aS hasS stN stE, exW cI aN N, exW cI aT T, w_X1_stateAt cI cC cE hh hr aH old sze, exW cI (aH 0) (Hs 0), exW cI (aH 1) (Hs 1), exW cI (aH 2) (Hs 2), exW cI (aH 3) (Hs 3)]) (cs := [exW cI aT T, exW cI aN N]) (cs' := [exW cI aT N, exW cI aN N]) (bs1 := [trW h0 hh oo aN aT aS hasS stN stE, exW cI aN N, exW cI aT N, w_X1_stateAt cI cC cE hh hr aH old sze, exW cI (aH 0) (Hs 0), exW cI (aH 1) (Hs 1), exW cI (aH 2) (Hs 2), exW cI (aH 3) (Hs 3)]) ⟨hx, hb, hml, hown, hts⟩ [2, 1] [0, 3, 4, 5, 6, 7] (ce_X0_copyFrom l D cI cC cE aT aN _ T N ) (cwV 1 hts gX5_adjust_X0_copyFrom rfl rfl rfl (by decide +kernel) ⟨Nat.le_of_ble_eq_true rfl, Nat.le_of_ble_eq_true rfl⟩) hK hP hD hS hA rfl rfl rfl rfl rfl rfl rfl rfl rfl hl.1 rfl (Nat.le_of_ble_eq_true rfl) dX5_adjust_8 ⟨Nat.le_refl 0, Nat.le_refl 0⟩ (fun H locs hP hD hS => ?_)
  refine lv_aload_n hx hb dX5_adjust_11 rfl (lv_at hl 0 rfl) ?_
  refine lv_aload_n hx hb dX5_adjust_12 rfl (lv_at hl 0 rfl) ?_
  refine va_get (ci := 5) (C := RX5) (T := TX5) (N := 8) hx hb hts hiX5 hown hK hP 0 rfl rfl 1 (by decide) (hts (.fieldLink RX5 16 "RiddleTrade" "trial" "LRiddleTrade$Exchange;") (List.mem_of_getElem? (i := 1) rfl)) (fun _ h9 => h9) rfl dX5_adjust_13 ?_
  obtain ⟨r1, TfS_2, hu3, h⟩ := ob2_el h
  refine kbi (ci := 0) (q := (RX0, TX0, 7)) (bs := [trW h0 hh oo aN aT aS hasS stN stE, exW cI aN N, exW cI aT N, w_X1_stateAt cI cC cE hh hr aH old sze, exW cI (aH 0) (Hs 0), exW cI (aH 1) (Hs 1), exW cI (aH 2) (Hs 2), exW cI (aH 3) (Hs 3)]) (cs := [exW cI aT N]) (cs' := [exW cI aT (N.1, N.2.1, N.2.2.1, N.2.2.2.1, N.2.2.2.2.1, TfS_2, N.2.2.2.2.2.2.1, N.2.2.2.2.2.2.2.1, N.2.2.2.2.2.2.2.2.1, N.2.2.2.2.2.2.2.2.2.1, N.2.2.2.2.2.2.2.2.2.2)]) (bs1 := [trW h0 hh oo aN aT aS hasS stN stE, exW cI aN N, exW cI aT (N.1, N.2.1, N.2.2.1, N.2.2.2.1, N.2.2.2.2.1, TfS_2, N.2.2.2.2.2.2.1, N.2.2.2.2.2.2.2.1, N.2.2.2.2.2.2.2.2.1, N.2.2.2.2.2.2.2.2.2.1, N.2.2.2.2.2.2.2.2.2.2), w_X1_stateAt cI cC cE hh hr aH old sze, exW cI (aH 0) (Hs 0), exW cI (aH 1) (Hs 1), exW cI (aH 2) (Hs 2), exW cI (aH 3) (Hs 3)]) ⟨hx, hb, hml, hown, hts⟩ [2] [0, 1, 3, 4, 5, 6, 7] (ce_X0_setScalesRight l D cI cC cE aT _ N r1 TfS_2 hu3) (cwV 0 hts gX5_adjust_X0_setScalesRight rfl rfl rfl (by decide +kernel) ⟨Nat.le_of_ble_eq_true rfl, Nat.le_of_ble_eq_true rfl⟩) hK hP hD hS hA rfl rfl rfl rfl rfl rfl rfl rfl rfl hl.1 rfl (Nat.le_of_ble_eq_true rfl) dX5_adjust_16 ⟨Nat.le_refl 0, Nat.le_refl 0⟩ (fun H locs hP hD hS => ?_)
  obtain ⟨r4, N_5, Hs_6, old_7, sze_8, hu9, h⟩ := tb5_el h
  refine kbi (ci := 5) (q := (RX5, TX5, 8)) (bs := [trW h0 hh oo aN aT aS hasS stN stE, exW cI aN N, exW cI aT (N.1, N.2.1, N.2.2.1, N.2.2.2.1, N.2.2.2.2.1, TfS_2, N.2.2.2.2.2.2.1, N.2.2.2.2.2.2.2.1, N.2.2.2.2.2.2.2.2.1, N.2.2.2.2.2.2.2.2.2.1, N.2.2.2.2.2.2.2.2.2.2), w_X1_stateAt cI cC cE hh hr aH old sze, exW cI (aH 0) (Hs 0), exW cI (aH 1) (Hs 1), exW cI (aH 2) (Hs 2), exW cI (aH 3) (Hs 3)]) (cs := [trW h0 hh oo aN aT aS hasS stN stE, exW cI aN N, exW cI aT (N.1, N.2.1, N.2.2.1, N.2.2.2.1, N.2.2.2.2.1, TfS_2, N.2.2.2.2.2.2.1, N.2.2.2.2.2.2.2.1, N.2.2.2.2.2.2.2.2.1, N.2.2.2.2.2.2.2.2.2.1, N.2.2.2.2.2.2.2.2.2.2), w_X1_stateAt cI cC cE hh hr aH old sze, exW cI (aH 0) (Hs 0), exW cI (aH 1) (Hs 1), exW cI (aH 2) (Hs 2), exW cI (aH 3) (Hs 3)]) (cs' := [trW h0 hh oo aN aT aS hasS stN stE, exW cI aN N_5, exW cI aT (N.1, N.2.1, N.2.2.1, N.2.2.2.1, N.2.2.2.2.1, TfS_2, N.2.2.2.2.2.2.1, N.2.2.2.2.2.2.2.1, N.2.2.2.2.2.2.2.2.1, N.2.2.2.2.2.2.2.2.2.1, N.2.2.2.2.2.2.2.2.2.2), w_X1_stateAt cI cC cE hh hr aH old_7 sze_8, exW cI (aH 0) (Hs_6 0), exW cI (aH 1) (Hs_6 1), exW cI (aH 2) (Hs_6 2), exW cI (aH 3) (Hs_6 3)]) (bs1 := [trW h0 hh oo aN aT aS hasS stN stE, exW cI aN N_5, exW cI aT (N.1, N.2.1, N.2.2.1, N.2.2.2.1, N.2.2.2.2.1, TfS_2, N.2.2.2.2.2.2.1, N.2.2.2.2.2.2.2.1, N.2.2.2.2.2.2.2.2.1, N.2.2.2.2.2.2.2.2.2.1, N.2.2.2.2.2.2.2.2.2.2), w_X1_stateAt cI cC cE hh hr aH old_7 sze_8, exW cI (aH 0) (Hs_6 0), exW cI (aH 1) (Hs_6 1), exW cI (aH 2) (Hs_6 2), exW cI (aH 3) (Hs_6 3)]) ⟨hx, hb, hml, hown, hts⟩ [0, 1, 2, 3, 4, 5, 6, 7] [] (c_X5_finishAct l D cI cC cE h0 hh oo hr aN aT aS aH _ N (N.1, N.2.1, N.2.2.1, N.2.2.2.1, N.2.2.2.2.1, TfS_2, N.2.2.2.2.2.2.1, N.2.2.2.2.2.2.2.1, N.2.2.2.2.2.2.2.2.1, N.2.2.2.2.2.2.2.2.2.1, N.2.2.2.2.2.2.2.2.2.2) Hs old sze hasS stN stE r1 r4 N_5 Hs_6 old_7 sze_8 hu9) (cwV 1 hts gX5_adjust_X5_finishAct rfl rfl rfl (by decide +kernel) ⟨Nat.le_of_ble_eq_true rfl, Nat.le_of_ble_eq_true rfl⟩) hK hP hD hS hA rfl rfl rfl rfl rfl rfl rfl rfl rfl hl.1 rfl (Nat.le_of_ble_eq_true rfl) dX5_adjust_19 ⟨Nat.le_refl 0, Nat.le_refl 0⟩ (fun H locs hP hD hS => ?_)
  obtain ⟨rfl, rfl, rfl, rfl, rfl, rfl⟩ := inj6 (Option.some.inj h)
  exact fin _ _ _ _ dX5_adjust_22 hP hD hS
def d_X5_set (p1 : Int32) (p2 : Int32) (N : Ex) (T : Ex) (Hs : Nat → Ex) (old : Int32) (sze : Int32) : Option (Int32 × Ex × Ex × (Nat → Ex) × Int32 × Int32) :=
    ob2 (d_X0_changeSetting p1 p2 N.2.2.2.2.2.2.1) fun r1 TfE_2 =>
    tb5 (d_X5_finishAct r1 N (N.1, N.2.1, N.2.2.1, N.2.2.2.1, N.2.2.2.2.1, N.2.2.2.2.2.1, TfE_2, N.2.2.2.2.2.2.2.1, N.2.2.2.2.2.2.2.2.1, N.2.2.2.2.2.2.2.2.2.1, N.2.2.2.2.2.2.2.2.2.2) Hs old sze) fun r4 N_5 Hs_6 old_7 sze_8 =>
    some (r4, N_5, (N.1, N.2.1, N.2.2.1, N.2.2.2.1, N.2.2.2.2.1, N.2.2.2.2.2.1, TfE_2, N.2.2.2.2.2.2.2.1, N.2.2.2.2.2.2.2.2.1, N.2.2.2.2.2.2.2.2.2.1, N.2.2.2.2.2.2.2.2.2.2), Hs_6, old_7, sze_8)
set_option maxHeartbeats 4000000 in
set_option maxRecDepth 100000 in
theorem c_X5_set (l : Launch) (D : va_G) (cI cC cE : ClassId) (h0 hh oo hr : Nat) (aN : Nat → Nat) (aT : Nat → Nat) (aS : Nat → Nat) (aH : Nat → Nat → Nat) (sz : Nat) (N : Ex) (T : Ex) (Hs : Nat → Ex) (old : Int32) (sze : Int32) (hasS : Int32) (stN : Int32) (stE : Int32) (p1 : Int32) (p2 : Int32) (r0 : Int32) (o_N : Ex) (o_T : Ex) (o_Hs : Nat → Ex) (o_old : Int32) (o_sze : Int32) (h : d_X5_set p1 p2 N T Hs old sze = some (r0, o_N, o_T, o_Hs, o_old, o_sze)) : Met l yX5_set wsX5_set ({ frames := 5, cells := 0, slots := 0, locals := 111 } : Room) (kP D (kT cI cC cE) [.ref h0, .int p1, .int p2] (fl [trW h0 hh oo aN aT aS hasS stN stE, exW cI aN N, exW cI aT T, w_X1_stateAt cI cC cE hh hr aH old sze, exW cI (aH 0) (Hs 0), exW cI (aH 1) (Hs 1), exW cI (aH 2) (Hs 2), exW cI (aH 3) (Hs 3)]) sz) (kQi D (kT cI cC cE) (fl [trW h0 hh oo aN aT aS hasS stN stE, exW cI aN N, exW cI aT T, w_X1_stateAt cI cC cE hh hr aH old sze, exW cI (aH 0) (Hs 0), exW cI (aH 1) (Hs 1), exW cI (aH 2) (Hs 2), exW cI (aH 3) (Hs 3)]) (fl [trW h0 hh oo aN aT aS hasS stN stE, exW cI aN o_N, exW cI aT o_T, w_X1_stateAt cI cC cE hh hr aH o_old o_sze, exW cI (aH 0) (o_Hs 0), exW cI (aH 1) (o_Hs 1), exW cI (aH 2) (o_Hs 2), exW cI (aH 3) (o_Hs 3)]) sz r0) 0 0 (va_A (fl [trW h0 hh oo aN aT aS hasS stN stE, exW cI aN N, exW cI aT T, w_X1_stateAt cI cC cE hh hr aH old sze, exW cI (aH 0) (Hs 0), exW cI (aH 1) (Hs 1), exW cI (aH 2) (Hs 2), exW cI (aH 3) (Hs 3)]) sz) := by
  refine kMetI (cc := cX5_set) (maxL := 3) (own := RX5) (by decide) rfl (Nat.le_of_ble_eq_true rfl) rfl ?_
  intro p e s m below meth c A Q hx hb hml hown hts hP hK hD hA hS hname fin ls hl
  have hl : lv_has ls 3 [(0, .ref h0), (1, .int p1), (2, .int p2)] := hl
  have hiX5 : ∀ w ∈ u_ws RX5 TX5 8, w ∈ wsX5_set := by decide +kernel
  dsimp only [d_X5_set] at h
  refine lv_aload_n hx hb dX5_set_0 rfl (lv_at hl 0 rfl) ?_
  refine va_get (ci := 5) (C := RX5) (T := TX5) (N := 8) hx hb hts hiX5 hown hK hP 0 rfl rfl 1 (by decide) (hts (.fieldLink RX5 16 "RiddleTrade" "trial" "LRiddleTrade$Exchange;") (List.mem_of_getElem? (i := 1) rfl)) (fun _ h9 => h9) rfl dX5_set_1 ?_
  refine lv_aload_n hx hb dX5_set_4 rfl (lv_at hl 0 rfl) ?_
  refine va_get (ci := 5) (C := RX5) (T := TX5) (N := 8) hx hb hts hiX5 hown hK hP 0 rfl rfl 0 (by decide) (hts (.fieldLink RX5 10 "RiddleTrade" "now" "LRiddleTrade$Exchange;") (List.mem_of_getElem? (i := 2) rfl)) (fun _ h9 => h9) rfl dX5_set_5 ?_
  refine kbv (ci := 0) (q := (RX0, TX0, 7)) (bs := [trW h0 hh oo aN aT aS hasS stN stE, exW cI aN N, exW cI aT T, w_X1_stateAt cI cC cE hh hr aH old sze, exW cI (aH 0) (Hs 0), exW cI (aH 1) (Hs 1), exW cI (aH 2) (Hs 2), exW cI (aH 3) (Hs 3)]) (cs := [exW cI aT T, exW cI aN N]) (cs' := [exW cI aT N, exW cI aN N]) (bs1 := [trW h0 hh oo aN aT aS hasS stN stE, exW cI aN N, exW cI aT N, w_X1_stateAt cI cC cE hh hr aH old sze, exW cI (aH 0) (Hs 0), exW cI (aH 1) (Hs 1), exW cI (aH 2) (Hs 2), exW cI (aH 3) (Hs 3)]) ⟨hx, hb, hml, hown, hts⟩ [2, 1] [0, 3, 4, 5, 6, 7] (ce_X0_copyFrom l D cI cC cE aT aN _ T N ) (cwV 1 hts gX5_set_X0_copyFrom rfl rfl rfl (by decide +kernel) ⟨Nat.le_of_ble_eq_true rfl, Nat.le_of_ble_eq_true rfl⟩) hK hP hD hS hA rfl rfl rfl rfl rfl rfl rfl rfl rfl hl.1 rfl (Nat.le_of_ble_eq_true rfl) dX5_set_8 ⟨Nat.le_refl 0, Nat.le_refl 0⟩ (fun H locs hP hD hS => ?_)
  refine lv_aload_n hx hb dX5_set_11 rfl (lv_at hl 0 rfl) ?_
  refine lv_aload_n hx hb dX5_set_12 rfl (lv_at hl 0 rfl) ?_
  refine va_get (ci := 5) (C := RX5) (T := TX5) (N := 8) hx hb hts hiX5 hown hK hP 0 rfl rfl 1 (by decide) (hts (.fieldLink RX5 16 "RiddleTrade" "trial" "LRiddleTrade$Exchange;") (List.mem_of_getElem? (i := 1) rfl)) (fun _ h9 => h9) rfl dX5_set_13 ?_
  refine lv_iload_n hx hb dX5_set_16 rfl (lv_at hl 1 rfl) ?_
  refine lv_iload_n hx hb dX5_set_17 rfl (lv_at hl 2 rfl) ?_
  obtain ⟨r1, TfE_2, hu3, h⟩ := ob2_el h
  refine kbi (ci := 0) (q := (RX0, TX0, 7)) (bs := [trW h0 hh oo aN aT aS hasS stN stE, exW cI aN N, exW cI aT N, w_X1_stateAt cI cC cE hh hr aH old sze, exW cI (aH 0) (Hs 0), exW cI (aH 1) (Hs 1), exW cI (aH 2) (Hs 2), exW cI (aH 3) (Hs 3)]) (cs := [exW cI aT N]) (cs' := [exW cI aT (N.1, N.2.1, N.2.2.1, N.2.2.2.1, N.2.2.2.2.1, N.2.2.2.2.2.1, TfE_2, N.2.2.2.2.2.2.2.1, N.2.2.2.2.2.2.2.2.1, N.2.2.2.2.2.2.2.2.2.1, N.2.2.2.2.2.2.2.2.2.2)]) (bs1 := [trW h0 hh oo aN aT aS hasS stN stE, exW cI aN N, exW cI aT (N.1, N.2.1, N.2.2.1, N.2.2.2.1, N.2.2.2.2.1, N.2.2.2.2.2.1, TfE_2, N.2.2.2.2.2.2.2.1, N.2.2.2.2.2.2.2.2.1, N.2.2.2.2.2.2.2.2.2.1, N.2.2.2.2.2.2.2.2.2.2), w_X1_stateAt cI cC cE hh hr aH old sze, exW cI (aH 0) (Hs 0), exW cI (aH 1) (Hs 1), exW cI (aH 2) (Hs 2), exW cI (aH 3) (Hs 3)]) ⟨hx, hb, hml, hown, hts⟩ [2] [0, 1, 3, 4, 5, 6, 7] (ce_X0_changeSetting l D cI cC cE aT _ N p1 p2 r1 TfE_2 hu3) (cwV 2 hts gX5_set_X0_changeSetting rfl rfl rfl (by decide +kernel) ⟨Nat.le_of_ble_eq_true rfl, Nat.le_of_ble_eq_true rfl⟩) hK hP hD hS hA rfl rfl rfl rfl rfl rfl rfl rfl rfl hl.1 rfl (Nat.le_of_ble_eq_true rfl) dX5_set_18 ⟨Nat.le_refl 0, Nat.le_refl 0⟩ (fun H locs hP hD hS => ?_)
  obtain ⟨r4, N_5, Hs_6, old_7, sze_8, hu9, h⟩ := tb5_el h
  refine kbi (ci := 5) (q := (RX5, TX5, 8)) (bs := [trW h0 hh oo aN aT aS hasS stN stE, exW cI aN N, exW cI aT (N.1, N.2.1, N.2.2.1, N.2.2.2.1, N.2.2.2.2.1, N.2.2.2.2.2.1, TfE_2, N.2.2.2.2.2.2.2.1, N.2.2.2.2.2.2.2.2.1, N.2.2.2.2.2.2.2.2.2.1, N.2.2.2.2.2.2.2.2.2.2), w_X1_stateAt cI cC cE hh hr aH old sze, exW cI (aH 0) (Hs 0), exW cI (aH 1) (Hs 1), exW cI (aH 2) (Hs 2), exW cI (aH 3) (Hs 3)]) (cs := [trW h0 hh oo aN aT aS hasS stN stE, exW cI aN N, exW cI aT (N.1, N.2.1, N.2.2.1, N.2.2.2.1, N.2.2.2.2.1, N.2.2.2.2.2.1, TfE_2, N.2.2.2.2.2.2.2.1, N.2.2.2.2.2.2.2.2.1, N.2.2.2.2.2.2.2.2.2.1, N.2.2.2.2.2.2.2.2.2.2), w_X1_stateAt cI cC cE hh hr aH old sze, exW cI (aH 0) (Hs 0), exW cI (aH 1) (Hs 1), exW cI (aH 2) (Hs 2), exW cI (aH 3) (Hs 3)]) (cs' := [trW h0 hh oo aN aT aS hasS stN stE, exW cI aN N_5, exW cI aT (N.1, N.2.1, N.2.2.1, N.2.2.2.1, N.2.2.2.2.1, N.2.2.2.2.2.1, TfE_2, N.2.2.2.2.2.2.2.1, N.2.2.2.2.2.2.2.2.1, N.2.2.2.2.2.2.2.2.2.1, N.2.2.2.2.2.2.2.2.2.2), w_X1_stateAt cI cC cE hh hr aH old_7 sze_8, exW cI (aH 0) (Hs_6 0), exW cI (aH 1) (Hs_6 1), exW cI (aH 2) (Hs_6 2), exW cI (aH 3) (Hs_6 3)]) (bs1 := [trW h0 hh oo aN aT aS hasS stN stE, exW cI aN N_5, exW cI aT (N.1, N.2.1, N.2.2.1, N.2.2.2.1, N.2.2.2.2.1, N.2.2.2.2.2.1, TfE_2, N.2.2.2.2.2.2.2.1, N.2.2.2.2.2.2.2.2.1, N.2.2.2.2.2.2.2.2.2.1, N.2.2.2.2.2.2.2.2.2.2), w_X1_stateAt cI cC cE hh hr aH old_7 sze_8, exW cI (aH 0) (Hs_6 0), exW cI (aH 1) (Hs_6 1), exW cI (aH 2) (Hs_6 2), exW cI (aH 3) (Hs_6 3)]) ⟨hx, hb, hml, hown, hts⟩ [0, 1, 2, 3, 4, 5, 6, 7] [] (c_X5_finishAct l D cI cC cE h0 hh oo hr aN aT aS aH _ N (N.1, N.2.1, N.2.2.1, N.2.2.2.1, N.2.2.2.2.1, N.2.2.2.2.2.1, TfE_2, N.2.2.2.2.2.2.2.1, N.2.2.2.2.2.2.2.2.1, N.2.2.2.2.2.2.2.2.2.1, N.2.2.2.2.2.2.2.2.2.2) Hs old sze hasS stN stE r1 r4 N_5 Hs_6 old_7 sze_8 hu9) (cwV 1 hts gX5_set_X5_finishAct rfl rfl rfl (by decide +kernel) ⟨Nat.le_of_ble_eq_true rfl, Nat.le_of_ble_eq_true rfl⟩) hK hP hD hS hA rfl rfl rfl rfl rfl rfl rfl rfl rfl hl.1 rfl (Nat.le_of_ble_eq_true rfl) dX5_set_21 ⟨Nat.le_refl 0, Nat.le_refl 0⟩ (fun H locs hP hD hS => ?_)
  obtain ⟨rfl, rfl, rfl, rfl, rfl, rfl⟩ := inj6 (Option.some.inj h)
  exact fin _ _ _ _ dX5_set_24 hP hD hS
def d_X5_pass (p1 : Int32) (N : Ex) (T : Ex) (Hs : Nat → Ex) (old : Int32) (sze : Int32) : Option (Int32 × Ex × Ex × (Nat → Ex) × Int32 × Int32) :=
    ob9 (d_X0_playRounds p1 N.1 N.2.1 N.2.2.2.1 N.2.2.2.2.2.1 N.2.2.2.2.2.2.1 N.2.2.2.2.2.2.2.1 N.2.2.2.2.2.2.2.2.1 N.2.2.2.2.2.2.2.2.2.1 N.2.2.2.2.2.2.2.2.2.2) fun r1 TfT_2 TfR_3 TfA_4 TfS_5 Tri_6 Thd_7 Tln_8 Trnd_9 =>
    tb5 (d_X5_finishAct r1 N (TfT_2, TfR_3, N.2.2.1, TfA_4, N.2.2.2.2.1, TfS_5, N.2.2.2.2.2.2.1, Tri_6, Thd_7, Tln_8, Trnd_9) Hs old sze) fun r11 N_12 Hs_13 old_14 sze_15 =>
    some (r11, N_12, (TfT_2, TfR_3, N.2.2.1, TfA_4, N.2.2.2.2.1, TfS_5, N.2.2.2.2.2.2.1, Tri_6, Thd_7, Tln_8, Trnd_9), Hs_13, old_14, sze_15)
set_option maxHeartbeats 4000000 in
set_option maxRecDepth 100000 in
theorem c_X5_pass (l : Launch) (D : va_G) (cI cC cE : ClassId) (h0 hh oo hr : Nat) (aN : Nat → Nat) (aT : Nat → Nat) (aS : Nat → Nat) (aH : Nat → Nat → Nat) (sz : Nat) (N : Ex) (T : Ex) (Hs : Nat → Ex) (old : Int32) (sze : Int32) (hasS : Int32) (stN : Int32) (stE : Int32) (p1 : Int32) (r0 : Int32) (o_N : Ex) (o_T : Ex) (o_Hs : Nat → Ex) (o_old : Int32) (o_sze : Int32) (h : d_X5_pass p1 N T Hs old sze = some (r0, o_N, o_T, o_Hs, o_old, o_sze)) : Met l yX5_pass wsX5_pass ({ frames := 6, cells := 0, slots := 0, locals := 139 } : Room) (kP D (kT cI cC cE) [.ref h0, .int p1] (fl [trW h0 hh oo aN aT aS hasS stN stE, exW cI aN N, exW cI aT T, w_X1_stateAt cI cC cE hh hr aH old sze, exW cI (aH 0) (Hs 0), exW cI (aH 1) (Hs 1), exW cI (aH 2) (Hs 2), exW cI (aH 3) (Hs 3)]) sz) (kQi D (kT cI cC cE) (fl [trW h0 hh oo aN aT aS hasS stN stE, exW cI aN N, exW cI aT T, w_X1_stateAt cI cC cE hh hr aH old sze, exW cI (aH 0) (Hs 0), exW cI (aH 1) (Hs 1), exW cI (aH 2) (Hs 2), exW cI (aH 3) (Hs 3)]) (fl [trW h0 hh oo aN aT aS hasS stN stE, exW cI aN o_N, exW cI aT o_T, w_X1_stateAt cI cC cE hh hr aH o_old o_sze, exW cI (aH 0) (o_Hs 0), exW cI (aH 1) (o_Hs 1), exW cI (aH 2) (o_Hs 2), exW cI (aH 3) (o_Hs 3)]) sz r0) 0 0 (va_A (fl [trW h0 hh oo aN aT aS hasS stN stE, exW cI aN N, exW cI aT T, w_X1_stateAt cI cC cE hh hr aH old sze, exW cI (aH 0) (Hs 0), exW cI (aH 1) (Hs 1), exW cI (aH 2) (Hs 2), exW cI (aH 3) (Hs 3)]) sz) := by
  refine kMetI (cc := cX5_pass) (maxL := 2) (own := RX5) (by decide) rfl (Nat.le_of_ble_eq_true rfl) rfl ?_
  intro p e s m below meth c A Q hx hb hml hown hts hP hK hD hA hS hname fin ls hl
  have hl : lv_has ls 2 [(0, .ref h0), (1, .int p1)] := hl
  have hiX5 : ∀ w ∈ u_ws RX5 TX5 8, w ∈ wsX5_pass := by decide +kernel
  dsimp only [d_X5_pass] at h
  refine lv_aload_n hx hb dX5_pass_0 rfl (lv_at hl 0 rfl) ?_
  refine va_get (ci := 5) (C := RX5) (T := TX5) (N := 8) hx hb hts hiX5 hown hK hP 0 rfl rfl 1 (by decide) (hts (.fieldLink RX5 16 "RiddleTrade" "trial" "LRiddleTrade$Exchange;") (List.mem_of_getElem? (i := 1) rfl)) (fun _ h9 => h9) rfl dX5_pass_1 ?_
  refine lv_aload_n hx hb dX5_pass_4 rfl (lv_at hl 0 rfl) ?_
  refine va_get (ci := 5) (C := RX5) (T := TX5) (N := 8) hx hb hts hiX5 hown hK hP 0 rfl rfl 0 (by decide) (hts (.fieldLink RX5 10 "RiddleTrade" "now" "LRiddleTrade$Exchange;") (List.mem_of_getElem? (i := 2) rfl)) (fun _ h9 => h9) rfl dX5_pass_5 ?_
  refine kbv (ci := 0) (q := (RX0, TX0, 7)) (bs := [trW h0 hh oo aN aT aS hasS stN stE, exW cI aN N, exW cI aT T, w_X1_stateAt cI cC cE hh hr aH old sze, exW cI (aH 0) (Hs 0), exW cI (aH 1) (Hs 1), exW cI (aH 2) (Hs 2), exW cI (aH 3) (Hs 3)]) (cs := [exW cI aT T, exW cI aN N]) (cs' := [exW cI aT N, exW cI aN N]) (bs1 := [trW h0 hh oo aN aT aS hasS stN stE, exW cI aN N, exW cI aT N, w_X1_stateAt cI cC cE hh hr aH old sze, exW cI (aH 0) (Hs 0), exW cI (aH 1) (Hs 1), exW cI (aH 2) (Hs 2), exW cI (aH 3) (Hs 3)]) ⟨hx, hb, hml, hown, hts⟩ [2, 1] [0, 3, 4, 5, 6, 7] (ce_X0_copyFrom l D cI cC cE aT aN _ T N ) (cwV 1 hts gX5_pass_X0_copyFrom rfl rfl rfl (by decide +kernel) ⟨Nat.le_of_ble_eq_true rfl, Nat.le_of_ble_eq_true rfl⟩) hK hP hD hS hA rfl rfl rfl rfl rfl rfl rfl rfl rfl hl.1 rfl (Nat.le_of_ble_eq_true rfl) dX5_pass_8 ⟨Nat.le_refl 0, Nat.le_refl 0⟩ (fun H locs hP hD hS => ?_)
  refine lv_aload_n hx hb dX5_pass_11 rfl (lv_at hl 0 rfl) ?_
  refine lv_aload_n hx hb dX5_pass_12 rfl (lv_at hl 0 rfl) ?_
  refine va_get (ci := 5) (C := RX5) (T := TX5) (N := 8) hx hb hts hiX5 hown hK hP 0 rfl rfl 1 (by decide) (hts (.fieldLink RX5 16 "RiddleTrade" "trial" "LRiddleTrade$Exchange;") (List.mem_of_getElem? (i := 1) rfl)) (fun _ h9 => h9) rfl dX5_pass_13 ?_
  refine lv_iload_n hx hb dX5_pass_16 rfl (lv_at hl 1 rfl) ?_
  obtain ⟨r1, TfT_2, TfR_3, TfA_4, TfS_5, Tri_6, Thd_7, Tln_8, Trnd_9, hu10, h⟩ := ob9_el h
  refine kbi (ci := 0) (q := (RX0, TX0, 7)) (bs := [trW h0 hh oo aN aT aS hasS stN stE, exW cI aN N, exW cI aT N, w_X1_stateAt cI cC cE hh hr aH old sze, exW cI (aH 0) (Hs 0), exW cI (aH 1) (Hs 1), exW cI (aH 2) (Hs 2), exW cI (aH 3) (Hs 3)]) (cs := [exW cI aT N]) (cs' := [exW cI aT (TfT_2, TfR_3, N.2.2.1, TfA_4, N.2.2.2.2.1, TfS_5, N.2.2.2.2.2.2.1, Tri_6, Thd_7, Tln_8, Trnd_9)]) (bs1 := [trW h0 hh oo aN aT aS hasS stN stE, exW cI aN N, exW cI aT (TfT_2, TfR_3, N.2.2.1, TfA_4, N.2.2.2.2.1, TfS_5, N.2.2.2.2.2.2.1, Tri_6, Thd_7, Tln_8, Trnd_9), w_X1_stateAt cI cC cE hh hr aH old sze, exW cI (aH 0) (Hs 0), exW cI (aH 1) (Hs 1), exW cI (aH 2) (Hs 2), exW cI (aH 3) (Hs 3)]) ⟨hx, hb, hml, hown, hts⟩ [2] [0, 1, 3, 4, 5, 6, 7] (ce_X0_playRounds l D cI cC cE aT _ N p1 r1 TfT_2 TfR_3 TfA_4 TfS_5 Tri_6 Thd_7 Tln_8 Trnd_9 hu10) (cwV 1 hts gX5_pass_X0_playRounds rfl rfl rfl (by decide +kernel) ⟨Nat.le_of_ble_eq_true rfl, Nat.le_of_ble_eq_true rfl⟩) hK hP hD hS hA rfl rfl rfl rfl rfl rfl rfl rfl rfl hl.1 rfl (Nat.le_of_ble_eq_true rfl) dX5_pass_17 ⟨Nat.le_refl 0, Nat.le_refl 0⟩ (fun H locs hP hD hS => ?_)
  obtain ⟨r11, N_12, Hs_13, old_14, sze_15, hu16, h⟩ := tb5_el h
  refine kbi (ci := 5) (q := (RX5, TX5, 8)) (bs := [trW h0 hh oo aN aT aS hasS stN stE, exW cI aN N, exW cI aT (TfT_2, TfR_3, N.2.2.1, TfA_4, N.2.2.2.2.1, TfS_5, N.2.2.2.2.2.2.1, Tri_6, Thd_7, Tln_8, Trnd_9), w_X1_stateAt cI cC cE hh hr aH old sze, exW cI (aH 0) (Hs 0), exW cI (aH 1) (Hs 1), exW cI (aH 2) (Hs 2), exW cI (aH 3) (Hs 3)]) (cs := [trW h0 hh oo aN aT aS hasS stN stE, exW cI aN N, exW cI aT (TfT_2, TfR_3, N.2.2.1, TfA_4, N.2.2.2.2.1, TfS_5, N.2.2.2.2.2.2.1, Tri_6, Thd_7, Tln_8, Trnd_9), w_X1_stateAt cI cC cE hh hr aH old sze, exW cI (aH 0) (Hs 0), exW cI (aH 1) (Hs 1), exW cI (aH 2) (Hs 2), exW cI (aH 3) (Hs 3)]) (cs' := [trW h0 hh oo aN aT aS hasS stN stE, exW cI aN N_12, exW cI aT (TfT_2, TfR_3, N.2.2.1, TfA_4, N.2.2.2.2.1, TfS_5, N.2.2.2.2.2.2.1, Tri_6, Thd_7, Tln_8, Trnd_9), w_X1_stateAt cI cC cE hh hr aH old_14 sze_15, exW cI (aH 0) (Hs_13 0), exW cI (aH 1) (Hs_13 1), exW cI (aH 2) (Hs_13 2), exW cI (aH 3) (Hs_13 3)]) (bs1 := [trW h0 hh oo aN aT aS hasS stN stE, exW cI aN N_12, exW cI aT (TfT_2, TfR_3, N.2.2.1, TfA_4, N.2.2.2.2.1, TfS_5, N.2.2.2.2.2.2.1, Tri_6, Thd_7, Tln_8, Trnd_9), w_X1_stateAt cI cC cE hh hr aH old_14 sze_15, exW cI (aH 0) (Hs_13 0), exW cI (aH 1) (Hs_13 1), exW cI (aH 2) (Hs_13 2), exW cI (aH 3) (Hs_13 3)]) ⟨hx, hb, hml, hown, hts⟩ [0, 1, 2, 3, 4, 5, 6, 7] [] (c_X5_finishAct l D cI cC cE h0 hh oo hr aN aT aS aH _ N (TfT_2, TfR_3, N.2.2.1, TfA_4, N.2.2.2.2.1, TfS_5, N.2.2.2.2.2.2.1, Tri_6, Thd_7, Tln_8, Trnd_9) Hs old sze hasS stN stE r1 r11 N_12 Hs_13 old_14 sze_15 hu16) (cwV 1 hts gX5_pass_X5_finishAct rfl rfl rfl (by decide +kernel) ⟨Nat.le_of_ble_eq_true rfl, Nat.le_of_ble_eq_true rfl⟩) hK hP hD hS hA rfl rfl rfl rfl rfl rfl rfl rfl rfl hl.1 rfl (Nat.le_of_ble_eq_true rfl) dX5_pass_20 ⟨Nat.le_refl 0, Nat.le_refl 0⟩ (fun H locs hP hD hS => ?_)
  obtain ⟨rfl, rfl, rfl, rfl, rfl, rfl⟩ := inj6 (Option.some.inj h)
  exact fin _ _ _ _ dX5_pass_23 hP hD hS
def d_X5_type (p1 : Int32) (ft : Nat → Int32) (len : Int32) : Option (Int32 × (Nat → Int32) × Int32) :=
    ob3 (d_X2_addCharacter p1 ft len) fun r1 ft_2 len_3 =>
    some (r1, ft_2, len_3)
set_option maxHeartbeats 4000000 in
set_option maxRecDepth 100000 in
theorem c_X5_type (l : Launch) (D : va_G) (cI cC cE : ClassId) (h0 hh oo o1 o2 o3 : Nat) (aN : Nat → Nat) (aT : Nat → Nat) (aS : Nat → Nat) (sz : Nat) (ft : Nat → Int32) (fG : Nat → Int32) (rG : Int32) (len : Int32) (pos : Int32) (bad : Int32) (hasS : Int32) (stN : Int32) (stE : Int32) (p1 : Int32) (r0 : Int32) (o_ft : Nat → Int32) (o_len : Int32) (h : d_X5_type p1 ft len = some (r0, o_ft, o_len)) : Met l yX5_type wsX5_type ({ frames := 1, cells := 0, slots := 0, locals := 21 } : Room) (kP D (kT cI cC cE) [.ref h0, .int p1] (fl [trW h0 hh oo aN aT aS hasS stN stE, ofW cI cC oo o1 o2 o3 ft fG rG len pos bad]) sz) (kQi D (kT cI cC cE) (fl [trW h0 hh oo aN aT aS hasS stN stE, ofW cI cC oo o1 o2 o3 ft fG rG len pos bad]) (fl [trW h0 hh oo aN aT aS hasS stN stE, ofW cI cC oo o1 o2 o3 o_ft fG rG o_len pos bad]) sz r0) 0 0 (va_A (fl [trW h0 hh oo aN aT aS hasS stN stE, ofW cI cC oo o1 o2 o3 ft fG rG len pos bad]) sz) := by
  refine kMetI (cc := cX5_type) (maxL := 2) (own := RX5) (by decide) rfl (Nat.le_of_ble_eq_true rfl) rfl ?_
  intro p e s m below meth c A Q hx hb hml hown hts hP hK hD hA hS hname fin ls hl
  have hl : lv_has ls 2 [(0, .ref h0), (1, .int p1)] := hl
  have hiX5 : ∀ w ∈ u_ws RX5 TX5 8, w ∈ wsX5_type := by decide +kernel
  dsimp only [d_X5_type] at h
  refine lv_aload_n hx hb dX5_type_0 rfl (lv_at hl 0 rfl) ?_
  refine va_get (ci := 5) (C := RX5) (T := TX5) (N := 8) hx hb hts hiX5 hown hK hP 0 rfl rfl 4 (by decide) (hts (.fieldLink RX5 32 "RiddleTrade" "offers" "LRiddleTrade$Offers;") (List.mem_of_getElem? (i := 1) rfl)) (fun _ h9 => h9) rfl dX5_type_1 ?_
  refine lv_iload_n hx hb dX5_type_4 rfl (lv_at hl 1 rfl) ?_
  obtain ⟨r1, ft_2, len_3, hu4, h⟩ := ob3_el h
  refine kbi (ci := 2) (q := (RX2, TX2, 5)) (bs := [trW h0 hh oo aN aT aS hasS stN stE, ofW cI cC oo o1 o2 o3 ft fG rG len pos bad]) (cs := [ofW cI cC oo o1 o2 o3 ft fG rG len pos bad]) (cs' := [ofW cI cC oo o1 o2 o3 ft_2 fG rG len_3 pos bad]) (bs1 := [trW h0 hh oo aN aT aS hasS stN stE, ofW cI cC oo o1 o2 o3 ft_2 fG rG len_3 pos bad]) ⟨hx, hb, hml, hown, hts⟩ [1] [0] (ce_X2_addCharacter l D cI cC cE oo o1 o2 o3 _ ft fG rG len pos bad p1 r1 ft_2 len_3 hu4) (cwV 1 hts gX5_type_X2_addCharacter rfl rfl rfl (by decide +kernel) ⟨Nat.le_of_ble_eq_true rfl, Nat.le_of_ble_eq_true rfl⟩) hK hP hD hS hA rfl rfl rfl rfl rfl rfl rfl rfl rfl hl.1 rfl (Nat.le_of_ble_eq_true rfl) dX5_type_5 ⟨Nat.le_refl 0, Nat.le_refl 0⟩ (fun H locs hP hD hS => ?_)
  obtain ⟨rfl, rfl, rfl⟩ := inj3 (Option.some.inj h)
  exact fin _ _ _ _ dX5_type_8 hP hD hS
def d_X5_clearText (len : Int32) : Int32 × Int32 :=
    tb2 (d_X2_emptyText len) fun r1 len_2 =>
    (r1, len_2)
set_option maxHeartbeats 4000000 in
set_option maxRecDepth 100000 in
theorem c_X5_clearText (l : Launch) (D : va_G) (cI cC cE : ClassId) (h0 hh oo o1 o2 o3 : Nat) (aN : Nat → Nat) (aT : Nat → Nat) (aS : Nat → Nat) (sz : Nat) (ft : Nat → Int32) (fG : Nat → Int32) (rG : Int32) (len : Int32) (pos : Int32) (bad : Int32) (hasS : Int32) (stN : Int32) (stE : Int32) (r0 : Int32) (o_len : Int32) (h : d_X5_clearText len = (r0, o_len)) : Met l yX5_clearText wsX5_clearText ({ frames := 1, cells := 0, slots := 0, locals := 21 } : Room) (kP D (kT cI cC cE) [.ref h0] (fl [trW h0 hh oo aN aT aS hasS stN stE, ofW cI cC oo o1 o2 o3 ft fG rG len pos bad]) sz) (kQi D (kT cI cC cE) (fl [trW h0 hh oo aN aT aS hasS stN stE, ofW cI cC oo o1 o2 o3 ft fG rG len pos bad]) (fl [trW h0 hh oo aN aT aS hasS stN stE, ofW cI cC oo o1 o2 o3 ft fG rG o_len pos bad]) sz r0) 0 0 (va_A (fl [trW h0 hh oo aN aT aS hasS stN stE, ofW cI cC oo o1 o2 o3 ft fG rG len pos bad]) sz) := by
  refine kMetI (cc := cX5_clearText) (maxL := 1) (own := RX5) (by decide) rfl (Nat.le_of_ble_eq_true rfl) rfl ?_
  intro p e s m below meth c A Q hx hb hml hown hts hP hK hD hA hS hname fin ls hl
  have hl : lv_has ls 1 [(0, .ref h0)] := hl
  have hiX5 : ∀ w ∈ u_ws RX5 TX5 8, w ∈ wsX5_clearText := by decide +kernel
  dsimp only [d_X5_clearText] at h
  refine lv_aload_n hx hb dX5_clearText_0 rfl (lv_at hl 0 rfl) ?_
  refine va_get (ci := 5) (C := RX5) (T := TX5) (N := 8) hx hb hts hiX5 hown hK hP 0 rfl rfl 4 (by decide) (hts (.fieldLink RX5 32 "RiddleTrade" "offers" "LRiddleTrade$Offers;") (List.mem_of_getElem? (i := 1) rfl)) (fun _ h9 => h9) rfl dX5_clearText_1 ?_
  obtain ⟨r1, len_2, hu3, h⟩ := tb2_el h
  refine kbi (ci := 2) (q := (RX2, TX2, 5)) (bs := [trW h0 hh oo aN aT aS hasS stN stE, ofW cI cC oo o1 o2 o3 ft fG rG len pos bad]) (cs := [ofW cI cC oo o1 o2 o3 ft fG rG len pos bad]) (cs' := [ofW cI cC oo o1 o2 o3 ft fG rG len_2 pos bad]) (bs1 := [trW h0 hh oo aN aT aS hasS stN stE, ofW cI cC oo o1 o2 o3 ft fG rG len_2 pos bad]) ⟨hx, hb, hml, hown, hts⟩ [1] [0] (ce_X2_emptyText l D cI cC cE oo o1 o2 o3 _ ft fG rG len pos bad r1 len_2 hu3) (cwV 0 hts gX5_clearText_X2_emptyText rfl rfl rfl (by decide +kernel) ⟨Nat.le_of_ble_eq_true rfl, Nat.le_of_ble_eq_true rfl⟩) hK hP hD hS hA rfl rfl rfl rfl rfl rfl rfl rfl rfl hl.1 rfl (Nat.le_of_ble_eq_true rfl) dX5_clearText_4 ⟨Nat.le_refl 0, Nat.le_refl 0⟩ (fun H locs hP hD hS => ?_)
  obtain ⟨rfl, rfl⟩ := inj2 (h)
  exact fin _ _ _ _ dX5_clearText_7 hP hD hS
def d_X5_doThing (p1 : Int32) (T : Ex) (fG : Nat → Int32) : Option (Int32 × Ex) :=
    ob1 (d_X2_numberOf p1 1 fG) fun r1 =>
    ob1 (d_X2_numberOf p1 2 fG) fun r3 =>
    ob1 (d_X2_numberOf p1 3 fG) fun r5 =>
    ob1 (d_X2_numberOf p1 0 fG) fun r7 =>
    if r7 = 0 then (ob3 (d_X0_addRiddle r1 r3 r5 T.2.1 T.2.2.1) fun r11 TfR_12 TrR_13 =>
    some (r11, (T.1, TfR_12, TrR_13, T.2.2.2.1, T.2.2.2.2.1, T.2.2.2.2.2.1, T.2.2.2.2.2.2.1, T.2.2.2.2.2.2.2.1, T.2.2.2.2.2.2.2.2.1, T.2.2.2.2.2.2.2.2.2.1, T.2.2.2.2.2.2.2.2.2.2)))
    else (if r7 = 1 then (ob1 (d_X2_numberOf p1 4 fG) fun r16 =>
    ob5 (d_X0_addAnswer r1 r3 r5 r16 T.2.1 T.2.2.1 T.2.2.2.1 T.2.2.2.2.1 T.2.2.2.2.2.2.2.1 T.2.2.2.2.2.2.2.2.1 T.2.2.2.2.2.2.2.2.2.1) fun r18 TfA_19 TrA_20 Tri_21 Tln_22 =>
    some (r18, (T.1, T.2.1, T.2.2.1, TfA_19, TrA_20, T.2.2.2.2.2.1, T.2.2.2.2.2.2.1, Tri_21, T.2.2.2.2.2.2.2.2.1, Tln_22, T.2.2.2.2.2.2.2.2.2.2)))
    else (ob9 (d_X0_playRounds r1 T.1 T.2.1 T.2.2.2.1 T.2.2.2.2.2.1 T.2.2.2.2.2.2.1 T.2.2.2.2.2.2.2.1 T.2.2.2.2.2.2.2.2.1 T.2.2.2.2.2.2.2.2.2.1 T.2.2.2.2.2.2.2.2.2.2) fun r24 TfT_25 TfR_26 TfA_27 TfS_28 Tri_29 Thd_30 Tln_31 Trnd_32 =>
    some (r24, (TfT_25, TfR_26, T.2.2.1, TfA_27, T.2.2.2.2.1, TfS_28, T.2.2.2.2.2.2.1, Tri_29, Thd_30, Tln_31, Trnd_32))))
set_option maxHeartbeats 4000000 in
set_option maxRecDepth 100000 in
theorem c_X5_doThing (l : Launch) (D : va_G) (cI cC cE : ClassId) (h0 hh oo o1 o2 o3 : Nat) (aN : Nat → Nat) (aT : Nat → Nat) (aS : Nat → Nat) (sz : Nat) (T : Ex) (ft : Nat → Int32) (fG : Nat → Int32) (rG : Int32) (len : Int32) (pos : Int32) (bad : Int32) (hasS : Int32) (stN : Int32) (stE : Int32) (p1 : Int32) (r0 : Int32) (o_T : Ex) (h : d_X5_doThing p1 T fG = some (r0, o_T)) : Met l yX5_doThing wsX5_doThing ({ frames := 6, cells := 0, slots := 0, locals := 139 } : Room) (kP D (kT cI cC cE) [.ref h0, .int p1] (fl [trW h0 hh oo aN aT aS hasS stN stE, exW cI aT T, ofW cI cC oo o1 o2 o3 ft fG rG len pos bad]) sz) (kQi D (kT cI cC cE) (fl [trW h0 hh oo aN aT aS hasS stN stE, exW cI aT T, ofW cI cC oo o1 o2 o3 ft fG rG len pos bad]) (fl [trW h0 hh oo aN aT aS hasS stN stE, exW cI aT o_T, ofW cI cC oo o1 o2 o3 ft fG rG len pos bad]) sz r0) 0 0 (va_A (fl [trW h0 hh oo aN aT aS hasS stN stE, exW cI aT T, ofW cI cC oo o1 o2 o3 ft fG rG len pos bad]) sz) := by
  refine kMetI (cc := cX5_doThing) (maxL := 5) (own := RX5) (by decide) rfl (Nat.le_of_ble_eq_true rfl) rfl ?_
  intro p e s m below meth c A Q hx hb hml hown hts hP hK hD hA hS hname fin ls hl
  have hl : lv_has ls 5 [(0, .ref h0), (1, .int p1)] := hl
  have hiX5 : ∀ w ∈ u_ws RX5 TX5 8, w ∈ wsX5_doThing := by decide +kernel
  dsimp only [d_X5_doThing] at h
  refine lv_aload_n hx hb dX5_doThing_0 rfl (lv_at hl 0 rfl) ?_
  refine va_get (ci := 5) (C := RX5) (T := TX5) (N := 8) hx hb hts hiX5 hown hK hP 0 rfl rfl 4 (by decide) (hts (.fieldLink RX5 32 "RiddleTrade" "offers" "LRiddleTrade$Offers;") (List.mem_of_getElem? (i := 1) rfl)) (fun _ h9 => h9) rfl dX5_doThing_1 ?_
  refine lv_iload_n hx hb dX5_doThing_4 rfl (lv_at hl 1 rfl) ?_
  refine lv_iconst (v := 1) hx hb dX5_doThing_5 (by decide) ?_
  obtain ⟨r1, hu2, h⟩ := ob1_el h
  refine kbi (ci := 2) (q := (RX2, TX2, 5)) (bs := [trW h0 hh oo aN aT aS hasS stN stE, exW cI aT T, ofW cI cC oo o1 o2 o3 ft fG rG len pos bad]) (cs := [ofW cI cC oo o1 o2 o3 ft fG rG len pos bad]) (cs' := [ofW cI cC oo o1 o2 o3 ft fG rG len pos bad]) (bs1 := [trW h0 hh oo aN aT aS hasS stN stE, exW cI aT T, ofW cI cC oo o1 o2 o3 ft fG rG len pos bad]) ⟨hx, hb, hml, hown, hts⟩ [2] [0, 1] (ce_X2_numberOf l D cI cC cE oo o1 o2 o3 _ ft fG rG len pos bad p1 1 r1 hu2) (cwV 2 hts gX5_doThing_X2_numberOf rfl rfl rfl (by decide +kernel) ⟨Nat.le_of_ble_eq_true rfl, Nat.le_of_ble_eq_true rfl⟩) hK hP hD hS hA rfl rfl rfl rfl rfl rfl rfl rfl rfl hl.1 rfl (Nat.le_of_ble_eq_true rfl) dX5_doThing_6 ⟨Nat.le_refl 0, Nat.le_refl 0⟩ (fun H locs hP hD hS => ?_)
  refine lv_istore_n (lv' := [(2, .int r1), (0, .ref h0), (1, .int p1)]) hx hb dX5_doThing_9 rfl hl (by decide) rfl (fun ls hl => ?_)
  refine lv_aload_n hx hb dX5_doThing_10 rfl (lv_at hl 1 rfl) ?_
  refine va_get (ci := 5) (C := RX5) (T := TX5) (N := 8) hx hb hts hiX5 hown hK hP 0 rfl rfl 4 (by decide) (hts (.fieldLink RX5 32 "RiddleTrade" "offers" "LRiddleTrade$Offers;") (List.mem_of_getElem? (i := 1) rfl)) (fun _ h9 => h9) rfl dX5_doThing_11 ?_
  refine lv_iload_n hx hb dX5_doThing_14 rfl (lv_at hl 2 rfl) ?_
  refine lv_iconst (v := 2) hx hb dX5_doThing_15 (by decide) ?_
  obtain ⟨r3, hu4, h⟩ := ob1_el h
  refine kbi (ci := 2) (q := (RX2, TX2, 5)) (bs := [trW h0 hh oo aN aT aS hasS stN stE, exW cI aT T, ofW cI cC oo o1 o2 o3 ft fG rG len pos bad]) (cs := [ofW cI cC oo o1 o2 o3 ft fG rG len pos bad]) (cs' := [ofW cI cC oo o1 o2 o3 ft fG rG len pos bad]) (bs1 := [trW h0 hh oo aN aT aS hasS stN stE, exW cI aT T, ofW cI cC oo o1 o2 o3 ft fG rG len pos bad]) ⟨hx, hb, hml, hown, hts⟩ [2] [0, 1] (ce_X2_numberOf l D cI cC cE oo o1 o2 o3 _ ft fG rG len pos bad p1 2 r3 hu4) (cwV 2 hts gX5_doThing_X2_numberOf rfl rfl rfl (by decide +kernel) ⟨Nat.le_of_ble_eq_true rfl, Nat.le_of_ble_eq_true rfl⟩) hK hP hD hS hA rfl rfl rfl rfl rfl rfl rfl rfl rfl hl.1 rfl (Nat.le_of_ble_eq_true rfl) dX5_doThing_16 ⟨Nat.le_refl 0, Nat.le_refl 0⟩ (fun H locs hP hD hS => ?_)
  refine lv_istore_n (lv' := [(3, .int r3), (2, .int r1), (0, .ref h0), (1, .int p1)]) hx hb dX5_doThing_19 rfl hl (by decide) rfl (fun ls hl => ?_)
  refine lv_aload_n hx hb dX5_doThing_20 rfl (lv_at hl 2 rfl) ?_
  refine va_get (ci := 5) (C := RX5) (T := TX5) (N := 8) hx hb hts hiX5 hown hK hP 0 rfl rfl 4 (by decide) (hts (.fieldLink RX5 32 "RiddleTrade" "offers" "LRiddleTrade$Offers;") (List.mem_of_getElem? (i := 1) rfl)) (fun _ h9 => h9) rfl dX5_doThing_21 ?_
  refine lv_iload_n hx hb dX5_doThing_24 rfl (lv_at hl 3 rfl) ?_
  refine lv_iconst (v := 3) hx hb dX5_doThing_25 (by decide) ?_
  obtain ⟨r5, hu6, h⟩ := ob1_el h
  refine kbi (ci := 2) (q := (RX2, TX2, 5)) (bs := [trW h0 hh oo aN aT aS hasS stN stE, exW cI aT T, ofW cI cC oo o1 o2 o3 ft fG rG len pos bad]) (cs := [ofW cI cC oo o1 o2 o3 ft fG rG len pos bad]) (cs' := [ofW cI cC oo o1 o2 o3 ft fG rG len pos bad]) (bs1 := [trW h0 hh oo aN aT aS hasS stN stE, exW cI aT T, ofW cI cC oo o1 o2 o3 ft fG rG len pos bad]) ⟨hx, hb, hml, hown, hts⟩ [2] [0, 1] (ce_X2_numberOf l D cI cC cE oo o1 o2 o3 _ ft fG rG len pos bad p1 3 r5 hu6) (cwV 2 hts gX5_doThing_X2_numberOf rfl rfl rfl (by decide +kernel) ⟨Nat.le_of_ble_eq_true rfl, Nat.le_of_ble_eq_true rfl⟩) hK hP hD hS hA rfl rfl rfl rfl rfl rfl rfl rfl rfl hl.1 rfl (Nat.le_of_ble_eq_true rfl) dX5_doThing_26 ⟨Nat.le_refl 0, Nat.le_refl 0⟩ (fun H locs hP hD hS => ?_)
  refine lv_istore (lv' := [(4, .int r5), (3, .int r3), (2, .int r1), (0, .ref h0), (1, .int p1)]) hx hb dX5_doThing_29 hl (by decide) rfl (fun ls hl => ?_)
  refine lv_aload_n hx hb dX5_doThing_31 rfl (lv_at hl 3 rfl) ?_
  refine va_get (ci := 5) (C := RX5) (T := TX5) (N := 8) hx hb hts hiX5 hown hK hP 0 rfl rfl 4 (by decide) (hts (.fieldLink RX5 32 "RiddleTrade" "offers" "LRiddleTrade$Offers;") (List.mem_of_getElem? (i := 1) rfl)) (fun _ h9 => h9) rfl dX5_doThing_32 ?_
  refine lv_iload_n hx hb dX5_doThing_35 rfl (lv_at hl 4 rfl) ?_
  refine lv_iconst (v := 0) hx hb dX5_doThing_36 (by decide) ?_
  obtain ⟨r7, hu8, h⟩ := ob1_el h
  refine kbi (ci := 2) (q := (RX2, TX2, 5)) (bs := [trW h0 hh oo aN aT aS hasS stN stE, exW cI aT T, ofW cI cC oo o1 o2 o3 ft fG rG len pos bad]) (cs := [ofW cI cC oo o1 o2 o3 ft fG rG len pos bad]) (cs' := [ofW cI cC oo o1 o2 o3 ft fG rG len pos bad]) (bs1 := [trW h0 hh oo aN aT aS hasS stN stE, exW cI aT T, ofW cI cC oo o1 o2 o3 ft fG rG len pos bad]) ⟨hx, hb, hml, hown, hts⟩ [2] [0, 1] (ce_X2_numberOf l D cI cC cE oo o1 o2 o3 _ ft fG rG len pos bad p1 0 r7 hu8) (cwV 2 hts gX5_doThing_X2_numberOf rfl rfl rfl (by decide +kernel) ⟨Nat.le_of_ble_eq_true rfl, Nat.le_of_ble_eq_true rfl⟩) hK hP hD hS hA rfl rfl rfl rfl rfl rfl rfl rfl rfl hl.1 rfl (Nat.le_of_ble_eq_true rfl) dX5_doThing_37 ⟨Nat.le_refl 0, Nat.le_refl 0⟩ (fun H locs hP hD hS => ?_)
  by_cases c10 : r7 = 0
  · have h := (k_iB h).1 c10
    refine lv_lookup (off := 28) (tgt := 68) hx hb dX5_doThing_40 (by decide) (by show Op.lookupswitch.offset [(0, 28), (1, 40)] (61) _ = _; rw [c10]; rfl) (by decide) ?_
    refine lv_aload_n hx hb dX5_doThing_68 rfl (lv_at hl 3 rfl) ?_
    refine va_get (ci := 5) (C := RX5) (T := TX5) (N := 8) hx hb hts hiX5 hown hK hP 0 rfl rfl 1 (by decide) (hts (.fieldLink RX5 16 "RiddleTrade" "trial" "LRiddleTrade$Exchange;") (List.mem_of_getElem? (i := 2) rfl)) (fun _ h9 => h9) rfl dX5_doThing_69 ?_
    refine lv_iload_n hx hb dX5_doThing_72 rfl (lv_at hl 2 rfl) ?_
    refine lv_iload_n hx hb dX5_doThing_73 rfl (lv_at hl 1 rfl) ?_
    refine lv_iload hx hb dX5_doThing_74 (lv_at hl 0 rfl) ?_
    obtain ⟨r11, TfR_12, TrR_13, hu14, h⟩ := ob3_el h
    refine kbi (ci := 0) (q := (RX0, TX0, 7)) (bs := [trW h0 hh oo aN aT aS hasS stN stE, exW cI aT T, ofW cI cC oo o1 o2 o3 ft fG rG len pos bad]) (cs := [exW cI aT T]) (cs' := [exW cI aT (T.1, TfR_12, TrR_13, T.2.2.2.1, T.2.2.2.2.1, T.2.2.2.2.2.1, T.2.2.2.2.2.2.1, T.2.2.2.2.2.2.2.1, T.2.2.2.2.2.2.2.2.1, T.2.2.2.2.2.2.2.2.2.1, T.2.2.2.2.2.2.2.2.2.2)]) (bs1 := [trW h0 hh oo aN aT aS hasS stN stE, exW cI aT (T.1, TfR_12, TrR_13, T.2.2.2.1, T.2.2.2.2.1, T.2.2.2.2.2.1, T.2.2.2.2.2.2.1, T.2.2.2.2.2.2.2.1, T.2.2.2.2.2.2.2.2.1, T.2.2.2.2.2.2.2.2.2.1, T.2.2.2.2.2.2.2.2.2.2), ofW cI cC oo o1 o2 o3 ft fG rG len pos bad]) ⟨hx, hb, hml, hown, hts⟩ [1] [0, 2] (ce_X0_addRiddle l D cI cC cE aT _ T r1 r3 r5 r11 TfR_12 TrR_13 hu14) (cwV 3 hts gX5_doThing_X0_addRiddle rfl rfl rfl (by decide +kernel) ⟨Nat.le_of_ble_eq_true rfl, Nat.le_of_ble_eq_true rfl⟩) hK hP hD hS hA rfl rfl rfl rfl rfl rfl rfl rfl rfl hl.1 rfl (Nat.le_of_ble_eq_true rfl) dX5_doThing_76 ⟨Nat.le_refl 0, Nat.le_refl 0⟩ (fun H locs hP hD hS => ?_)
    obtain ⟨rfl, rfl⟩ := inj2 (Option.some.inj h)
    exact fin _ _ _ _ dX5_doThing_79 hP hD hS
  · have h := (k_iB h).2 c10
    by_cases c15 : r7 = 1
    · have h := (k_iB h).1 c15
      refine lv_lookup (off := 40) (tgt := 80) hx hb dX5_doThing_40 (by decide) (by show Op.lookupswitch.offset [(0, 28), (1, 40)] (61) _ = _; rw [lv_osw (a := 0) c10 rfl, c15]; rfl) (by decide) ?_
      refine lv_aload_n hx hb dX5_doThing_80 rfl (lv_at hl 3 rfl) ?_
      refine va_get (ci := 5) (C := RX5) (T := TX5) (N := 8) hx hb hts hiX5 hown hK hP 0 rfl rfl 1 (by decide) (hts (.fieldLink RX5 16 "RiddleTrade" "trial" "LRiddleTrade$Exchange;") (List.mem_of_getElem? (i := 2) rfl)) (fun _ h9 => h9) rfl dX5_doThing_81 ?_
      refine lv_iload_n hx hb dX5_doThing_84 rfl (lv_at hl 2 rfl) ?_
      refine lv_iload_n hx hb dX5_doThing_85 rfl (lv_at hl 1 rfl) ?_
      refine lv_iload hx hb dX5_doThing_86 (lv_at hl 0 rfl) ?_
      refine lv_aload_n hx hb dX5_doThing_88 rfl (lv_at hl 3 rfl) ?_
      refine va_get (ci := 5) (C := RX5) (T := TX5) (N := 8) hx hb hts hiX5 hown hK hP 0 rfl rfl 4 (by decide) (hts (.fieldLink RX5 32 "RiddleTrade" "offers" "LRiddleTrade$Offers;") (List.mem_of_getElem? (i := 1) rfl)) (fun _ h9 => h9) rfl dX5_doThing_89 ?_
      refine lv_iload_n hx hb dX5_doThing_92 rfl (lv_at hl 4 rfl) ?_
      refine lv_iconst (v := 4) hx hb dX5_doThing_93 (by decide) ?_
      obtain ⟨r16, hu17, h⟩ := ob1_el h
      refine kbi (ci := 2) (q := (RX2, TX2, 5)) (bs := [trW h0 hh oo aN aT aS hasS stN stE, exW cI aT T, ofW cI cC oo o1 o2 o3 ft fG rG len pos bad]) (cs := [ofW cI cC oo o1 o2 o3 ft fG rG len pos bad]) (cs' := [ofW cI cC oo o1 o2 o3 ft fG rG len pos bad]) (bs1 := [trW h0 hh oo aN aT aS hasS stN stE, exW cI aT T, ofW cI cC oo o1 o2 o3 ft fG rG len pos bad]) ⟨hx, hb, hml, hown, hts⟩ [2] [0, 1] (ce_X2_numberOf l D cI cC cE oo o1 o2 o3 _ ft fG rG len pos bad p1 4 r16 hu17) (cwV 2 hts gX5_doThing_X2_numberOf rfl rfl rfl (by decide +kernel) ⟨Nat.le_of_ble_eq_true rfl, Nat.le_of_ble_eq_true rfl⟩) hK hP hD hS hA rfl rfl rfl rfl rfl rfl rfl rfl rfl hl.1 rfl (Nat.le_of_ble_eq_true rfl) dX5_doThing_94 ⟨Nat.le_refl 0, Nat.le_refl 0⟩ (fun H locs hP hD hS => ?_)
      obtain ⟨r18, TfA_19, TrA_20, Tri_21, Tln_22, hu23, h⟩ := ob5_el h
      refine kbi (ci := 0) (q := (RX0, TX0, 7)) (bs := [trW h0 hh oo aN aT aS hasS stN stE, exW cI aT T, ofW cI cC oo o1 o2 o3 ft fG rG len pos bad]) (cs := [exW cI aT T]) (cs' := [exW cI aT (T.1, T.2.1, T.2.2.1, TfA_19, TrA_20, T.2.2.2.2.2.1, T.2.2.2.2.2.2.1, Tri_21, T.2.2.2.2.2.2.2.2.1, Tln_22, T.2.2.2.2.2.2.2.2.2.2)]) (bs1 := [trW h0 hh oo aN aT aS hasS stN stE, exW cI aT (T.1, T.2.1, T.2.2.1, TfA_19, TrA_20, T.2.2.2.2.2.1, T.2.2.2.2.2.2.1, Tri_21, T.2.2.2.2.2.2.2.2.1, Tln_22, T.2.2.2.2.2.2.2.2.2.2), ofW cI cC oo o1 o2 o3 ft fG rG len pos bad]) ⟨hx, hb, hml, hown, hts⟩ [1] [0, 2] (ce_X0_addAnswer l D cI cC cE aT _ T r1 r3 r5 r16 r18 TfA_19 TrA_20 Tri_21 Tln_22 hu23) (cwV 4 hts gX5_doThing_X0_addAnswer rfl rfl rfl (by decide +kernel) ⟨Nat.le_of_ble_eq_true rfl, Nat.le_of_ble_eq_true rfl⟩) hK hP hD hS hA rfl rfl rfl rfl rfl rfl rfl rfl rfl hl.1 rfl (Nat.le_of_ble_eq_true rfl) dX5_doThing_97 ⟨Nat.le_refl 0, Nat.le_refl 0⟩ (fun H locs hP hD hS => ?_)
      obtain ⟨rfl, rfl⟩ := inj2 (Option.some.inj h)
      exact fin _ _ _ _ dX5_doThing_100 hP hD hS
    · have h := (k_iB h).2 c15
      refine lv_lookup (off := 61) (tgt := 101) hx hb dX5_doThing_40 (by decide) (by show Op.lookupswitch.offset [(0, 28), (1, 40)] (61) _ = _; rw [lv_osw (a := 0) c10 rfl, lv_osw (a := 1) c15 rfl]; rfl) (by decide) ?_
      refine lv_aload_n hx hb dX5_doThing_101 rfl (lv_at hl 3 rfl) ?_
      refine va_get (ci := 5) (C := RX5) (T := TX5) (N := 8) hx hb hts hiX5 hown hK hP 0 rfl rfl 1 (by decide) (hts (.fieldLink RX5 16 "RiddleTrade" "trial" "LRiddleTrade$Exchange;") (List.mem_of_getElem? (i := 2) rfl)) (fun _ h9 => h9) rfl dX5_doThing_102 ?_
      refine lv_iload_n hx hb dX5_doThing_105 rfl (lv_at hl 2 rfl) ?_
      obtain ⟨r24, TfT_25, TfR_26, TfA_27, TfS_28, Tri_29, Thd_30, Tln_31, Trnd_32, hu33, h⟩ := ob9_el h
      refine kbi (ci := 0) (q := (RX0, TX0, 7)) (bs := [trW h0 hh oo aN aT aS hasS stN stE, exW cI aT T, ofW cI cC oo o1 o2 o3 ft fG rG len pos bad]) (cs := [exW cI aT T]) (cs' := [exW cI aT (TfT_25, TfR_26, T.2.2.1, TfA_27, T.2.2.2.2.1, TfS_28, T.2.2.2.2.2.2.1, Tri_29, Thd_30, Tln_31, Trnd_32)]) (bs1 := [trW h0 hh oo aN aT aS hasS stN stE, exW cI aT (TfT_25, TfR_26, T.2.2.1, TfA_27, T.2.2.2.2.1, TfS_28, T.2.2.2.2.2.2.1, Tri_29, Thd_30, Tln_31, Trnd_32), ofW cI cC oo o1 o2 o3 ft fG rG len pos bad]) ⟨hx, hb, hml, hown, hts⟩ [1] [0, 2] (ce_X0_playRounds l D cI cC cE aT _ T r1 r24 TfT_25 TfR_26 TfA_27 TfS_28 Tri_29 Thd_30 Tln_31 Trnd_32 hu33) (cwV 1 hts gX5_doThing_X0_playRounds rfl rfl rfl (by decide +kernel) ⟨Nat.le_of_ble_eq_true rfl, Nat.le_of_ble_eq_true rfl⟩) hK hP hD hS hA rfl rfl rfl rfl rfl rfl rfl rfl rfl hl.1 rfl (Nat.le_of_ble_eq_true rfl) dX5_doThing_106 ⟨Nat.le_refl 0, Nat.le_refl 0⟩ (fun H locs hP hD hS => ?_)
      obtain ⟨rfl, rfl⟩ := inj2 (Option.some.inj h)
      exact fin _ _ _ _ dX5_doThing_109 hP hD hS
def lp_X5_perform_38 (ft : Nat → Int32) (len : Int32) : Nat → Int32 → Int32 → Ex → Ex → (Nat → Ex) → Int32 → Int32 → (Nat → Int32) → Int32 → Int32 → Int32 → Int32 → Int32 → Option (Int32 × Ex × Ex × (Nat → Ex) × Int32 × Int32 × (Nat → Int32) × Int32 × Int32 × Int32 × Int32 × Int32)
  | 0 => fun _ _ _ _ _ _ _ _ _ _ _ _ _ => none
  | k + 1 => fun x2 x3 N T Hs old sze fG rG pos bad stN stE =>
    if x2 ≤ x3 then (tb5 (d_X5_finishAct x2 N T Hs old sze) fun r9 N_10 Hs_11 old_12 sze_13 =>
    some (r9, N_10, T, Hs_11, old_12, sze_13, fG, rG, pos, bad, stN, stE))
    else (ob2 (d_X5_doThing x3 T fG) fun r15 T_16 =>
    if 0 ≤ r15 then ((lp_X5_perform_38  ft len k) x2 (x3 + 1) N T_16 Hs old sze fG rG pos bad stN stE)
    else (some ((-4), N, T_16, Hs, old, sze, fG, rG, pos, bad, x3, r15)))
def d_X5_perform (N : Ex) (T : Ex) (Hs : Nat → Ex) (old : Int32) (sze : Int32) (ft : Nat → Int32) (fG : Nat → Int32) (rG : Int32) (len : Int32) (pos : Int32) (bad : Int32) (stN : Int32) (stE : Int32) : Option (Int32 × Ex × Ex × (Nat → Ex) × Int32 × Int32 × (Nat → Int32) × Int32 × Int32 × Int32 × Int32 × Int32) :=
    ob5 (d_X2_read ft fG rG len pos bad) fun r1 fG_2 rG_3 pos_4 bad_5 =>
    if r1 < 0 then (lp_X5_perform_38  ft len fuel (d_X2_thingCount rG_3) 0 N N Hs old sze fG_2 rG_3 pos_4 bad_5 stN stE)
    else (some (((-100) - r1), N, T, Hs, old, sze, fG_2, rG_3, pos_4, bad_5, stN, stE))
set_option maxHeartbeats 4000000 in
set_option maxRecDepth 100000 in
theorem c_X5_perform (l : Launch) (D : va_G) (cI cC cE : ClassId) (h0 hh oo hr o1 o2 o3 : Nat) (aN : Nat → Nat) (aT : Nat → Nat) (aS : Nat → Nat) (aH : Nat → Nat → Nat) (sz : Nat) (N : Ex) (T : Ex) (Hs : Nat → Ex) (old : Int32) (sze : Int32) (ft : Nat → Int32) (fG : Nat → Int32) (rG : Int32) (len : Int32) (pos : Int32) (bad : Int32) (hasS : Int32) (stN : Int32) (stE : Int32) (r0 : Int32) (o_N : Ex) (o_T : Ex) (o_Hs : Nat → Ex) (o_old : Int32) (o_sze : Int32) (o_fG : Nat → Int32) (o_rG : Int32) (o_pos : Int32) (o_bad : Int32) (o_stN : Int32) (o_stE : Int32) (h : d_X5_perform N T Hs old sze ft fG rG len pos bad stN stE = some (r0, o_N, o_T, o_Hs, o_old, o_sze, o_fG, o_rG, o_pos, o_bad, o_stN, o_stE)) : Met l yX5_perform wsX5_perform ({ frames := 7, cells := 0, slots := 0, locals := 163 } : Room) (kP D (kT cI cC cE) [.ref h0] (fl [trW h0 hh oo aN aT aS hasS stN stE, exW cI aN N, exW cI aT T, w_X1_stateAt cI cC cE hh hr aH old sze, exW cI (aH 0) (Hs 0), exW cI (aH 1) (Hs 1), exW cI (aH 2) (Hs 2), exW cI (aH 3) (Hs 3), ofW cI cC oo o1 o2 o3 ft fG rG len pos bad]) sz) (kQi D (kT cI cC cE) (fl [trW h0 hh oo aN aT aS hasS stN stE, exW cI aN N, exW cI aT T, w_X1_stateAt cI cC cE hh hr aH old sze, exW cI (aH 0) (Hs 0), exW cI (aH 1) (Hs 1), exW cI (aH 2) (Hs 2), exW cI (aH 3) (Hs 3), ofW cI cC oo o1 o2 o3 ft fG rG len pos bad]) (fl [trW h0 hh oo aN aT aS hasS o_stN o_stE, exW cI aN o_N, exW cI aT o_T, w_X1_stateAt cI cC cE hh hr aH o_old o_sze, exW cI (aH 0) (o_Hs 0), exW cI (aH 1) (o_Hs 1), exW cI (aH 2) (o_Hs 2), exW cI (aH 3) (o_Hs 3), ofW cI cC oo o1 o2 o3 ft o_fG o_rG len o_pos o_bad]) sz r0) 0 0 (va_A (fl [trW h0 hh oo aN aT aS hasS stN stE, exW cI aN N, exW cI aT T, w_X1_stateAt cI cC cE hh hr aH old sze, exW cI (aH 0) (Hs 0), exW cI (aH 1) (Hs 1), exW cI (aH 2) (Hs 2), exW cI (aH 3) (Hs 3), ofW cI cC oo o1 o2 o3 ft fG rG len pos bad]) sz) := by
  refine kMetI (cc := cX5_perform) (maxL := 5) (own := RX5) (by decide) rfl (Nat.le_of_ble_eq_true rfl) rfl ?_
  intro p e s m below meth c A Q hx hb hml hown hts hP hK hD hA hS hname fin ls hl
  have hl : lv_has ls 5 [(0, .ref h0)] := hl
  have hiX5 : ∀ w ∈ u_ws RX5 TX5 8, w ∈ wsX5_perform := by decide +kernel
  have hL38 : ∀ (k : Nat), ∀ (x2 : Int32) (x3 : Int32) (N : Ex) (T : Ex) (Hs : Nat → Ex) (old : Int32) (sze : Int32) (fG : Nat → Int32) (rG : Int32) (pos : Int32) (bad : Int32) (stN : Int32) (stE : Int32) (H : Heap) (locs : List Loc), va_P D vwCl (fl [trW h0 hh oo aN aT aS hasS stN stE, exW cI aN N, exW cI aT T, w_X1_stateAt cI cC cE hh hr aH old sze, exW cI (aH 0) (Hs 0), exW cI (aH 1) (Hs 1), exW cI (aH 2) (Hs 2), exW cI (aH 3) (Hs 3), ofW cI cC oo o1 o2 o3 ft fG rG len pos bad]) H → va_D A (fl [trW h0 hh oo aN aT aS hasS stN stE, exW cI aN N, exW cI aT T, w_X1_stateAt cI cC cE hh hr aH old sze, exW cI (aH 0) (Hs 0), exW cI (aH 1) (Hs 1), exW cI (aH 2) (Hs 2), exW cI (aH 3) (Hs 3), ofW cI cC oo o1 o2 o3 ft fG rG len pos bad]) → va_S A s.heap H locs → ∀ (ls : Array Slot), lv_has ls 5 [(0, .ref h0), (2, .int x2), (3, .int x3)] → lp_X5_perform_38  ft len k x2 x3 N T Hs old sze fG rG pos bad stN stE = some (r0, o_N, o_T, o_Hs, o_old, o_sze, o_fG, o_rG, o_pos, o_bad, o_stN, o_stE) → W p l e ({ frames := 7, cells := 0, slots := 0, locals := 163 } : Room) s m [.ref h0].toArray below meth c H locs 0 0 Q (F0 m 38 ls []) := by
    intro k
    induction k with
    | zero =>
      intro x2 x3 N T Hs old sze fG rG pos bad stN stE H locs hP hD hS ls hl h
      exact k_none h
    | succ k ih =>
      intro x2 x3 N T Hs old sze fG rG pos bad stN stE H locs hP hD hS ls hl h
      dsimp only [lp_X5_perform_38] at h
      refine lv_iload_n hx hb dX5_perform_38 rfl (lv_at hl 2 rfl) ?_
      refine lv_iload_n hx hb dX5_perform_39 rfl (lv_at hl 1 rfl) ?_
      refine lv_icmp_ge (tgt := 75) hx hb dX5_perform_40 (by decide) (fun c8 => ?_) (fun c8 => ?_)
      · have h := (k_iB h).1 c8
        refine lv_aload_n hx hb dX5_perform_75 rfl (lv_at hl 0 rfl) ?_
        refine lv_iload_n hx hb dX5_perform_76 rfl (lv_at hl 1 rfl) ?_
        obtain ⟨r9, N_10, Hs_11, old_12, sze_13, hu14, h⟩ := tb5_el h
        refine kbi (ci := 5) (q := (RX5, TX5, 8)) (bs := [trW h0 hh oo aN aT aS hasS stN stE, exW cI aN N, exW cI aT T, w_X1_stateAt cI cC cE hh hr aH old sze, exW cI (aH 0) (Hs 0), exW cI (aH 1) (Hs 1), exW cI (aH 2) (Hs 2), exW cI (aH 3) (Hs 3), ofW cI cC oo o1 o2 o3 ft fG rG len pos bad]) (cs := [trW h0 hh oo aN aT aS hasS stN stE, exW cI aN N, exW cI aT T, w_X1_stateAt cI cC cE hh hr aH old sze, exW cI (aH 0) (Hs 0), exW cI (aH 1) (Hs 1), exW cI (aH 2) (Hs 2), exW cI (aH 3) (Hs 3)]) (cs' := [trW h0 hh oo aN aT aS hasS stN stE, exW cI aN N_10, exW cI aT T, w_X1_stateAt cI cC cE hh hr aH old_12 sze_13, exW cI (aH 0) (Hs_11 0), exW cI (aH 1) (Hs_11 1), exW cI (aH 2) (Hs_11 2), exW cI (aH 3) (Hs_11 3)]) (bs1 := [trW h0 hh oo aN aT aS hasS stN stE, exW cI aN N_10, exW cI aT T, w_X1_stateAt cI cC cE hh hr aH old_12 sze_13, exW cI (aH 0) (Hs_11 0), exW cI (aH 1) (Hs_11 1), exW cI (aH 2) (Hs_11 2), exW cI (aH 3) (Hs_11 3), ofW cI cC oo o1 o2 o3 ft fG rG len pos bad]) ⟨hx, hb, hml, hown, hts⟩ [0, 1, 2, 3, 4, 5, 6, 7] [8] (c_X5_finishAct l D cI cC cE h0 hh oo hr aN aT aS aH _ N T Hs old sze hasS stN stE x2 r9 N_10 Hs_11 old_12 sze_13 hu14) (cwV 1 hts gX5_perform_X5_finishAct rfl rfl rfl (by decide +kernel) ⟨Nat.le_of_ble_eq_true rfl, Nat.le_of_ble_eq_true rfl⟩) hK hP hD hS hA rfl rfl rfl rfl rfl rfl rfl rfl rfl hl.1 rfl (Nat.le_of_ble_eq_true rfl) dX5_perform_77 ⟨Nat.le_refl 0, Nat.le_refl 0⟩ (fun H locs hP hD hS => ?_)
        obtain ⟨rfl, rfl, rfl, rfl, rfl, rfl, rfl, rfl, rfl, rfl, rfl, rfl⟩ := inj12 (Option.some.inj h)
        exact fin _ _ _ _ dX5_perform_80 hP hD hS
      · have h := (k_iB h).2 c8
        refine lv_aload_n hx hb dX5_perform_43 rfl (lv_at hl 0 rfl) ?_
        refine lv_iload_n hx hb dX5_perform_44 rfl (lv_at hl 2 rfl) ?_
        obtain ⟨r15, T_16, hu17, h⟩ := ob2_el h
        refine kbi (ci := 5) (q := (RX5, TX5, 8)) (bs := [trW h0 hh oo aN aT aS hasS stN stE, exW cI aN N, exW cI aT T, w_X1_stateAt cI cC cE hh hr aH old sze, exW cI (aH 0) (Hs 0), exW cI (aH 1) (Hs 1), exW cI (aH 2) (Hs 2), exW cI (aH 3) (Hs 3), ofW cI cC oo o1 o2 o3 ft fG rG len pos bad]) (cs := [trW h0 hh oo aN aT aS hasS stN stE, exW cI aT T, ofW cI cC oo o1 o2 o3 ft fG rG len pos bad]) (cs' := [trW h0 hh oo aN aT aS hasS stN stE, exW cI aT T_16, ofW cI cC oo o1 o2 o3 ft fG rG len pos bad]) (bs1 := [trW h0 hh oo aN aT aS hasS stN stE, exW cI aN N, exW cI aT T_16, w_X1_stateAt cI cC cE hh hr aH old sze, exW cI (aH 0) (Hs 0), exW cI (aH 1) (Hs 1), exW cI (aH 2) (Hs 2), exW cI (aH 3) (Hs 3), ofW cI cC oo o1 o2 o3 ft fG rG len pos bad]) ⟨hx, hb, hml, hown, hts⟩ [0, 2, 8] [1, 3, 4, 5, 6, 7] (c_X5_doThing l D cI cC cE h0 hh oo o1 o2 o3 aN aT aS _ T ft fG rG len pos bad hasS stN stE x3 r15 T_16 hu17) (cwV 1 hts gX5_perform_X5_doThing rfl rfl rfl (by decide +kernel) ⟨Nat.le_of_ble_eq_true rfl, Nat.le_of_ble_eq_true rfl⟩) hK hP hD hS hA rfl rfl rfl rfl rfl rfl rfl rfl rfl hl.1 rfl (Nat.le_of_ble_eq_true rfl) dX5_perform_45 ⟨Nat.le_refl 0, Nat.le_refl 0⟩ (fun H locs hP hD hS => ?_)
        refine lv_istore (lv' := [(4, .int r15), (0, .ref h0), (2, .int x2), (3, .int x3)]) hx hb dX5_perform_48 hl (by decide) rfl (fun ls hl => ?_)
        refine lv_iload hx hb dX5_perform_50 (lv_at hl 0 rfl) ?_
        refine lv_if_ge (tgt := 69) hx hb dX5_perform_52 (by decide) (fun c18 => ?_) (fun c18 => ?_)
        · have h := (k_iB h).1 c18
          refine lv_iinc (v := (x3 + 1)) (lv' := [(3, .int (x3 + 1)), (4, .int r15), (0, .ref h0), (2, .int x2)]) hx hb dX5_perform_69 hl (k := 3) rfl rfl (by decide) rfl (fun ls hl => ?_)
          refine lv_goto (tgt := 38) hx hb dX5_perform_72 (by decide) ?_
          exact ih x2 (x3 + 1) N T_16 Hs old sze fG rG pos bad stN stE _ _ hP hD hS _ (lv_sub hl [2, 3, 0] rfl) h
        · have h := (k_iB h).2 c18
          refine lv_aload_n hx hb dX5_perform_55 rfl (lv_at hl 1 rfl) ?_
          refine lv_iload_n hx hb dX5_perform_56 rfl (lv_at hl 3 rfl) ?_
          refine va_put (ci := 5) (ty := .int) (C := RX5) (T := TX5) (N := 8) hx hb hts hiX5 tyX5 tyX5_ok nmX5 hown hK hP hD hS 0 rfl rfl 6 (by decide) (hts (.fieldLink RX5 36 "RiddleTrade" "stoppedNumber" "I") (List.mem_of_getElem? (i := 4) rfl)) (fun _ h9 => h9) rfl (by decide +kernel) rfl rfl (Nat.le_of_ble_eq_true rfl) dX5_perform_57 (fun H locs hP hD hS => ?_)
          have hP : va_P D vwCl (fl [trW h0 hh oo aN aT aS hasS x3 stE, exW cI aN N, exW cI aT T_16, w_X1_stateAt cI cC cE hh hr aH old sze, exW cI (aH 0) (Hs 0), exW cI (aH 1) (Hs 1), exW cI (aH 2) (Hs 2), exW cI (aH 3) (Hs 3), ofW cI cC oo o1 o2 o3 ft fG rG len pos bad]) H := hP
          have hD : va_D A (fl [trW h0 hh oo aN aT aS hasS x3 stE, exW cI aN N, exW cI aT T_16, w_X1_stateAt cI cC cE hh hr aH old sze, exW cI (aH 0) (Hs 0), exW cI (aH 1) (Hs 1), exW cI (aH 2) (Hs 2), exW cI (aH 3) (Hs 3), ofW cI cC oo o1 o2 o3 ft fG rG len pos bad]) := hD
          refine lv_aload_n hx hb dX5_perform_60 rfl (lv_at hl 1 rfl) ?_
          refine lv_iload hx hb dX5_perform_61 (lv_at hl 0 rfl) ?_
          refine va_put (ci := 5) (ty := .int) (C := RX5) (T := TX5) (N := 8) hx hb hts hiX5 tyX5 tyX5_ok nmX5 hown hK hP hD hS 0 rfl rfl 7 (by decide) (hts (.fieldLink RX5 40 "RiddleTrade" "stoppedError" "I") (List.mem_of_getElem? (i := 5) rfl)) (fun _ h9 => h9) rfl (by decide +kernel) rfl rfl (Nat.le_of_ble_eq_true rfl) dX5_perform_63 (fun H locs hP hD hS => ?_)
          have hP : va_P D vwCl (fl [trW h0 hh oo aN aT aS hasS x3 r15, exW cI aN N, exW cI aT T_16, w_X1_stateAt cI cC cE hh hr aH old sze, exW cI (aH 0) (Hs 0), exW cI (aH 1) (Hs 1), exW cI (aH 2) (Hs 2), exW cI (aH 3) (Hs 3), ofW cI cC oo o1 o2 o3 ft fG rG len pos bad]) H := hP
          have hD : va_D A (fl [trW h0 hh oo aN aT aS hasS x3 r15, exW cI aN N, exW cI aT T_16, w_X1_stateAt cI cC cE hh hr aH old sze, exW cI (aH 0) (Hs 0), exW cI (aH 1) (Hs 1), exW cI (aH 2) (Hs 2), exW cI (aH 3) (Hs 3), ofW cI cC oo o1 o2 o3 ft fG rG len pos bad]) := hD
          refine lv_bipush (v := (-4)) hx hb dX5_perform_66 (by decide) ?_
          obtain ⟨rfl, rfl, rfl, rfl, rfl, rfl, rfl, rfl, rfl, rfl, rfl, rfl⟩ := inj12 (Option.some.inj h)
          exact fin _ _ _ _ dX5_perform_68 hP hD hS
  dsimp only [d_X5_perform] at h
  refine lv_aload_n hx hb dX5_perform_0 rfl (lv_at hl 0 rfl) ?_
  refine va_get (ci := 5) (C := RX5) (T := TX5) (N := 8) hx hb hts hiX5 hown hK hP 0 rfl rfl 4 (by decide) (hts (.fieldLink RX5 32 "RiddleTrade" "offers" "LRiddleTrade$Offers;") (List.mem_of_getElem? (i := 1) rfl)) (fun _ h9 => h9) rfl dX5_perform_1 ?_
  obtain ⟨r1, fG_2, rG_3, pos_4, bad_5, hu6, h⟩ := ob5_el h
  refine kbi (ci := 2) (q := (RX2, TX2, 5)) (bs := [trW h0 hh oo aN aT aS hasS stN stE, exW cI aN N, exW cI aT T, w_X1_stateAt cI cC cE hh hr aH old sze, exW cI (aH 0) (Hs 0), exW cI (aH 1) (Hs 1), exW cI (aH 2) (Hs 2), exW cI (aH 3) (Hs 3), ofW cI cC oo o1 o2 o3 ft fG rG len pos bad]) (cs := [ofW cI cC oo o1 o2 o3 ft fG rG len pos bad]) (cs' := [ofW cI cC oo o1 o2 o3 ft fG_2 rG_3 len pos_4 bad_5]) (bs1 := [trW h0 hh oo aN aT aS hasS stN stE, exW cI aN N, exW cI aT T, w_X1_stateAt cI cC cE hh hr aH old sze, exW cI (aH 0) (Hs 0), exW cI (aH 1) (Hs 1), exW cI (aH 2) (Hs 2), exW cI (aH 3) (Hs 3), ofW cI cC oo o1 o2 o3 ft fG_2 rG_3 len pos_4 bad_5]) ⟨hx, hb, hml, hown, hts⟩ [8] [0, 1, 2, 3, 4, 5, 6, 7] (ce_X2_read l D cI cC cE oo o1 o2 o3 _ ft fG rG len pos bad r1 fG_2 rG_3 pos_4 bad_5 hu6) (cwV 0 hts gX5_perform_X2_read rfl rfl rfl (by decide +kernel) ⟨Nat.le_of_ble_eq_true rfl, Nat.le_of_ble_eq_true rfl⟩) hK hP hD hS hA rfl rfl rfl rfl rfl rfl rfl rfl rfl hl.1 rfl (Nat.le_of_ble_eq_true rfl) dX5_perform_4 ⟨Nat.le_refl 0, Nat.le_refl 0⟩ (fun H locs hP hD hS => ?_)
  refine lv_istore_n (lv' := [(1, .int r1), (0, .ref h0)]) hx hb dX5_perform_7 rfl hl (by decide) rfl (fun ls hl => ?_)
  refine lv_iload_n hx hb dX5_perform_8 rfl (lv_at hl 0 rfl) ?_
  refine lv_if_lt (tgt := 17) hx hb dX5_perform_9 (by decide) (fun c7 => ?_) (fun c7 => ?_)
  · have h := (k_iB h).1 c7
    refine lv_aload_n hx hb dX5_perform_17 rfl (lv_at hl 1 rfl) ?_
    refine va_get (ci := 5) (C := RX5) (T := TX5) (N := 8) hx hb hts hiX5 hown hK hP 0 rfl rfl 1 (by decide) (hts (.fieldLink RX5 16 "RiddleTrade" "trial" "LRiddleTrade$Exchange;") (List.mem_of_getElem? (i := 2) rfl)) (fun _ h9 => h9) rfl dX5_perform_18 ?_
    refine lv_aload_n hx hb dX5_perform_21 rfl (lv_at hl 1 rfl) ?_
    refine va_get (ci := 5) (C := RX5) (T := TX5) (N := 8) hx hb hts hiX5 hown hK hP 0 rfl rfl 0 (by decide) (hts (.fieldLink RX5 10 "RiddleTrade" "now" "LRiddleTrade$Exchange;") (List.mem_of_getElem? (i := 3) rfl)) (fun _ h9 => h9) rfl dX5_perform_22 ?_
    refine kbv (ci := 0) (q := (RX0, TX0, 7)) (bs := [trW h0 hh oo aN aT aS hasS stN stE, exW cI aN N, exW cI aT T, w_X1_stateAt cI cC cE hh hr aH old sze, exW cI (aH 0) (Hs 0), exW cI (aH 1) (Hs 1), exW cI (aH 2) (Hs 2), exW cI (aH 3) (Hs 3), ofW cI cC oo o1 o2 o3 ft fG_2 rG_3 len pos_4 bad_5]) (cs := [exW cI aT T, exW cI aN N]) (cs' := [exW cI aT N, exW cI aN N]) (bs1 := [trW h0 hh oo aN aT aS hasS stN stE, exW cI aN N, exW cI aT N, w_X1_stateAt cI cC cE hh hr aH old sze, exW cI (aH 0) (Hs 0), exW cI (aH 1) (Hs 1), exW cI (aH 2) (Hs 2), exW cI (aH 3) (Hs 3), ofW cI cC oo o1 o2 o3 ft fG_2 rG_3 len pos_4 bad_5]) ⟨hx, hb, hml, hown, hts⟩ [2, 1] [0, 3, 4, 5, 6, 7, 8] (ce_X0_copyFrom l D cI cC cE aT aN _ T N ) (cwV 1 hts gX5_perform_X0_copyFrom rfl rfl rfl (by decide +kernel) ⟨Nat.le_of_ble_eq_true rfl, Nat.le_of_ble_eq_true rfl⟩) hK hP hD hS hA rfl rfl rfl rfl rfl rfl rfl rfl rfl hl.1 rfl (Nat.le_of_ble_eq_true rfl) dX5_perform_25 ⟨Nat.le_refl 0, Nat.le_refl 0⟩ (fun H locs hP hD hS => ?_)
    refine lv_aload_n hx hb dX5_perform_28 rfl (lv_at hl 1 rfl) ?_
    refine va_get (ci := 5) (C := RX5) (T := TX5) (N := 8) hx hb hts hiX5 hown hK hP 0 rfl rfl 4 (by decide) (hts (.fieldLink RX5 32 "RiddleTrade" "offers" "LRiddleTrade$Offers;") (List.mem_of_getElem? (i := 1) rfl)) (fun _ h9 => h9) rfl dX5_perform_29 ?_
    refine kbi (ci := 2) (q := (RX2, TX2, 5)) (bs := [trW h0 hh oo aN aT aS hasS stN stE, exW cI aN N, exW cI aT N, w_X1_stateAt cI cC cE hh hr aH old sze, exW cI (aH 0) (Hs 0), exW cI (aH 1) (Hs 1), exW cI (aH 2) (Hs 2), exW cI (aH 3) (Hs 3), ofW cI cC oo o1 o2 o3 ft fG_2 rG_3 len pos_4 bad_5]) (cs := [ofW cI cC oo o1 o2 o3 ft fG_2 rG_3 len pos_4 bad_5]) (cs' := [ofW cI cC oo o1 o2 o3 ft fG_2 rG_3 len pos_4 bad_5]) (bs1 := [trW h0 hh oo aN aT aS hasS stN stE, exW cI aN N, exW cI aT N, w_X1_stateAt cI cC cE hh hr aH old sze, exW cI (aH 0) (Hs 0), exW cI (aH 1) (Hs 1), exW cI (aH 2) (Hs 2), exW cI (aH 3) (Hs 3), ofW cI cC oo o1 o2 o3 ft fG_2 rG_3 len pos_4 bad_5]) ⟨hx, hb, hml, hown, hts⟩ [8] [0, 1, 2, 3, 4, 5, 6, 7] (ce_X2_thingCount l D cI cC cE oo o1 o2 o3 _ ft fG_2 rG_3 len pos_4 bad_5 (d_X2_thingCount rG_3) rfl) (cwV 0 hts gX5_perform_X2_thingCount rfl rfl rfl (by decide +kernel) ⟨Nat.le_of_ble_eq_true rfl, Nat.le_of_ble_eq_true rfl⟩) hK hP hD hS hA rfl rfl rfl rfl rfl rfl rfl rfl rfl hl.1 rfl (Nat.le_of_ble_eq_true rfl) dX5_perform_32 ⟨Nat.le_refl 0, Nat.le_refl 0⟩ (fun H locs hP hD hS => ?_)
    refine lv_istore_n (lv' := [(2, .int (d_X2_thingCount rG_3)), (1, .int r1), (0, .ref h0)]) hx hb dX5_perform_35 rfl hl (by decide) rfl (fun ls hl => ?_)
    refine lv_iconst (v := 0) hx hb dX5_perform_36 (by decide) ?_
    refine lv_istore_n (lv' := [(3, .int 0), (2, .int (d_X2_thingCount rG_3)), (1, .int r1), (0, .ref h0)]) hx hb dX5_perform_37 rfl hl (by decide) rfl (fun ls hl => ?_)
    exact hL38   fuel (d_X2_thingCount rG_3) 0 N N Hs old sze fG_2 rG_3 pos_4 bad_5 stN stE _ _ hP hD hS _ (lv_sub hl [3, 1, 0] rfl) h
  · have h := (k_iB h).2 c7
    refine lv_bipush (v := (-100)) hx hb dX5_perform_12 (by decide) ?_
    refine lv_iload_n hx hb dX5_perform_14 rfl (lv_at hl 0 rfl) ?_
    refine lv_isub hx hb dX5_perform_15 ?_
    obtain ⟨rfl, rfl, rfl, rfl, rfl, rfl, rfl, rfl, rfl, rfl, rfl, rfl⟩ := inj12 (Option.some.inj h)
    exact fin _ _ _ _ dX5_perform_16 hP hD hS
def d_X5_stopped (p1 : Int32) (stN : Int32) (stE : Int32) : Int32 :=
    if p1 = 0 then (stN)
    else (if p1 = 1 then (stE)
    else ((-2)))
set_option maxHeartbeats 4000000 in
set_option maxRecDepth 100000 in
theorem c_X5_stopped (l : Launch) (D : va_G) (cI cC cE : ClassId) (h0 hh oo : Nat) (aN : Nat → Nat) (aT : Nat → Nat) (aS : Nat → Nat) (sz : Nat) (hasS : Int32) (stN : Int32) (stE : Int32) (p1 : Int32) (r0 : Int32) (h : d_X5_stopped p1 stN stE = r0) : Met l yX5_stopped wsX5_stopped ({ frames := 0, cells := 0, slots := 0, locals := 0 } : Room) (kP D (kT cI cC cE) [.ref h0, .int p1] (fl [trW h0 hh oo aN aT aS hasS stN stE]) sz) (kQi D (kT cI cC cE) (fl [trW h0 hh oo aN aT aS hasS stN stE]) (fl [trW h0 hh oo aN aT aS hasS stN stE]) sz r0) 0 0 (va_A (fl [trW h0 hh oo aN aT aS hasS stN stE]) sz) := by
  refine kMetI (cc := cX5_stopped) (maxL := 2) (own := RX5) (by decide) rfl (Nat.le_of_ble_eq_true rfl) rfl ?_
  intro p e s m below meth c A Q hx hb hml hown hts hP hK hD hA hS hname fin ls hl
  have hl : lv_has ls 2 [(0, .ref h0), (1, .int p1)] := hl
  have hiX5 : ∀ w ∈ u_ws RX5 TX5 8, w ∈ wsX5_stopped := by decide +kernel
  dsimp only [d_X5_stopped] at h
  refine lv_iload_n hx hb dX5_stopped_0 rfl (lv_at hl 1 rfl) ?_
  by_cases c2 : p1 = 0
  · have h := (k_iB h).1 c2
    refine lv_lookup (off := 27) (tgt := 28) hx hb dX5_stopped_1 (by decide) (by show Op.lookupswitch.offset [(0, 27), (1, 32)] (37) _ = _; rw [c2]; rfl) (by decide) ?_
    refine lv_aload_n hx hb dX5_stopped_28 rfl (lv_at hl 0 rfl) ?_
    refine va_get (ci := 5) (C := RX5) (T := TX5) (N := 8) hx hb hts hiX5 hown hK hP 0 rfl rfl 6 (by decide) (hts (.fieldLink RX5 36 "RiddleTrade" "stoppedNumber" "I") (List.mem_of_getElem? (i := 1) rfl)) (fun _ h9 => h9) rfl dX5_stopped_29 ?_
    obtain rfl := h
    exact fin _ _ _ _ dX5_stopped_32 hP hD hS
  · have h := (k_iB h).2 c2
    by_cases c3 : p1 = 1
    · have h := (k_iB h).1 c3
      refine lv_lookup (off := 32) (tgt := 33) hx hb dX5_stopped_1 (by decide) (by show Op.lookupswitch.offset [(0, 27), (1, 32)] (37) _ = _; rw [lv_osw (a := 0) c2 rfl, c3]; rfl) (by decide) ?_
      refine lv_aload_n hx hb dX5_stopped_33 rfl (lv_at hl 0 rfl) ?_
      refine va_get (ci := 5) (C := RX5) (T := TX5) (N := 8) hx hb hts hiX5 hown hK hP 0 rfl rfl 7 (by decide) (hts (.fieldLink RX5 40 "RiddleTrade" "stoppedError" "I") (List.mem_of_getElem? (i := 2) rfl)) (fun _ h9 => h9) rfl dX5_stopped_34 ?_
      obtain rfl := h
      exact fin _ _ _ _ dX5_stopped_37 hP hD hS
    · have h := (k_iB h).2 c3
      refine lv_lookup (off := 37) (tgt := 38) hx hb dX5_stopped_1 (by decide) (by show Op.lookupswitch.offset [(0, 27), (1, 32)] (37) _ = _; rw [lv_osw (a := 0) c2 rfl, lv_osw (a := 1) c3 rfl]; rfl) (by decide) ?_
      refine lv_bipush (v := (-2)) hx hb dX5_stopped_38 (by decide) ?_
      obtain rfl := h
      exact fin _ _ _ _ dX5_stopped_40 hP hD hS
def d_X5_undo (N : Ex) (Hs : Nat → Ex) (old : Int32) (sze : Int32) : Int32 × Ex × Int32 :=
    tb3 (d_X1_takeBackInto N Hs old sze) fun r1 N_2 sze_3 =>
    (r1, N_2, sze_3)
set_option maxHeartbeats 4000000 in
set_option maxRecDepth 100000 in
theorem c_X5_undo (l : Launch) (D : va_G) (cI cC cE : ClassId) (h0 hh oo hr : Nat) (aN : Nat → Nat) (aT : Nat → Nat) (aS : Nat → Nat) (aH : Nat → Nat → Nat) (sz : Nat) (N : Ex) (Hs : Nat → Ex) (old : Int32) (sze : Int32) (hasS : Int32) (stN : Int32) (stE : Int32) (r0 : Int32) (o_N : Ex) (o_sze : Int32) (h : d_X5_undo N Hs old sze = (r0, o_N, o_sze)) : Met l yX5_undo wsX5_undo ({ frames := 4, cells := 0, slots := 0, locals := 90 } : Room) (kP D (kT cI cC cE) [.ref h0] (fl [trW h0 hh oo aN aT aS hasS stN stE, exW cI aN N, w_X1_stateAt cI cC cE hh hr aH old sze, exW cI (aH 0) (Hs 0), exW cI (aH 1) (Hs 1), exW cI (aH 2) (Hs 2), exW cI (aH 3) (Hs 3)]) sz) (kQi D (kT cI cC cE) (fl [trW h0 hh oo aN aT aS hasS stN stE, exW cI aN N, w_X1_stateAt cI cC cE hh hr aH old sze, exW cI (aH 0) (Hs 0), exW cI (aH 1) (Hs 1), exW cI (aH 2) (Hs 2), exW cI (aH 3) (Hs 3)]) (fl [trW h0 hh oo aN aT aS hasS stN stE, exW cI aN o_N, w_X1_stateAt cI cC cE hh hr aH old o_sze, exW cI (aH 0) (Hs 0), exW cI (aH 1) (Hs 1), exW cI (aH 2) (Hs 2), exW cI (aH 3) (Hs 3)]) sz r0) 0 0 (va_A (fl [trW h0 hh oo aN aT aS hasS stN stE, exW cI aN N, w_X1_stateAt cI cC cE hh hr aH old sze, exW cI (aH 0) (Hs 0), exW cI (aH 1) (Hs 1), exW cI (aH 2) (Hs 2), exW cI (aH 3) (Hs 3)]) sz) := by
  refine kMetI (cc := cX5_undo) (maxL := 1) (own := RX5) (by decide) rfl (Nat.le_of_ble_eq_true rfl) rfl ?_
  intro p e s m below meth c A Q hx hb hml hown hts hP hK hD hA hS hname fin ls hl
  have hl : lv_has ls 1 [(0, .ref h0)] := hl
  have hiX5 : ∀ w ∈ u_ws RX5 TX5 8, w ∈ wsX5_undo := by decide +kernel
  dsimp only [d_X5_undo] at h
  refine lv_aload_n hx hb dX5_undo_0 rfl (lv_at hl 0 rfl) ?_
  refine va_get (ci := 5) (C := RX5) (T := TX5) (N := 8) hx hb hts hiX5 hown hK hP 0 rfl rfl 3 (by decide) (hts (.fieldLink RX5 25 "RiddleTrade" "history" "LRiddleTrade$History;") (List.mem_of_getElem? (i := 1) rfl)) (fun _ h9 => h9) rfl dX5_undo_1 ?_
  refine lv_aload_n hx hb dX5_undo_4 rfl (lv_at hl 0 rfl) ?_
  refine va_get (ci := 5) (C := RX5) (T := TX5) (N := 8) hx hb hts hiX5 hown hK hP 0 rfl rfl 0 (by decide) (hts (.fieldLink RX5 10 "RiddleTrade" "now" "LRiddleTrade$Exchange;") (List.mem_of_getElem? (i := 2) rfl)) (fun _ h9 => h9) rfl dX5_undo_5 ?_
  obtain ⟨r1, N_2, sze_3, hu4, h⟩ := tb3_el h
  refine kbi (ci := 1) (q := (RX1, TX1, 3)) (bs := [trW h0 hh oo aN aT aS hasS stN stE, exW cI aN N, w_X1_stateAt cI cC cE hh hr aH old sze, exW cI (aH 0) (Hs 0), exW cI (aH 1) (Hs 1), exW cI (aH 2) (Hs 2), exW cI (aH 3) (Hs 3)]) (cs := [w_X1_stateAt cI cC cE hh hr aH old sze, exW cI (aH 0) (Hs 0), exW cI (aH 1) (Hs 1), exW cI (aH 2) (Hs 2), exW cI (aH 3) (Hs 3), exW cI aN N]) (cs' := [w_X1_stateAt cI cC cE hh hr aH old sze_3, exW cI (aH 0) (Hs 0), exW cI (aH 1) (Hs 1), exW cI (aH 2) (Hs 2), exW cI (aH 3) (Hs 3), exW cI aN N_2]) (bs1 := [trW h0 hh oo aN aT aS hasS stN stE, exW cI aN N_2, w_X1_stateAt cI cC cE hh hr aH old sze_3, exW cI (aH 0) (Hs 0), exW cI (aH 1) (Hs 1), exW cI (aH 2) (Hs 2), exW cI (aH 3) (Hs 3)]) ⟨hx, hb, hml, hown, hts⟩ [2, 3, 4, 5, 6, 1] [0] (c_X1_takeBackInto l D cI cC cE hh hr aH aN _ N Hs old sze r1 N_2 sze_3 hu4) (cwV 1 hts gX5_undo_X1_takeBackInto rfl rfl rfl (by decide +kernel) ⟨Nat.le_of_ble_eq_true rfl, Nat.le_of_ble_eq_true rfl⟩) hK hP hD hS hA rfl rfl rfl rfl rfl rfl rfl rfl rfl hl.1 rfl (Nat.le_of_ble_eq_true rfl) dX5_undo_8 ⟨Nat.le_refl 0, Nat.le_refl 0⟩ (fun H locs hP hD hS => ?_)
  obtain ⟨rfl, rfl, rfl⟩ := inj3 (h)
  exact fin _ _ _ _ dX5_undo_11 hP hD hS
def d_X5_keep (N : Ex) (S : Ex) (hasS : Int32) : Int32 × Ex × Int32 :=
    ((d_X0_waiting N.2.2.2.2.2.2.2.2.2.1), N, 1)
set_option maxHeartbeats 4000000 in
set_option maxRecDepth 100000 in
theorem c_X5_keep (l : Launch) (D : va_G) (cI cC cE : ClassId) (h0 hh oo : Nat) (aN : Nat → Nat) (aT : Nat → Nat) (aS : Nat → Nat) (sz : Nat) (N : Ex) (S : Ex) (hasS : Int32) (stN : Int32) (stE : Int32) (r0 : Int32) (o_S : Ex) (o_hasS : Int32) (h : d_X5_keep N S hasS = (r0, o_S, o_hasS)) : Met l yX5_keep wsX5_keep ({ frames := 3, cells := 0, slots := 0, locals := 68 } : Room) (kP D (kT cI cC cE) [.ref h0] (fl [trW h0 hh oo aN aT aS hasS stN stE, exW cI aN N, exW cI aS S]) sz) (kQi D (kT cI cC cE) (fl [trW h0 hh oo aN aT aS hasS stN stE, exW cI aN N, exW cI aS S]) (fl [trW h0 hh oo aN aT aS o_hasS stN stE, exW cI aN N, exW cI aS o_S]) sz r0) 0 0 (va_A (fl [trW h0 hh oo aN aT aS hasS stN stE, exW cI aN N, exW cI aS S]) sz) := by
  refine kMetI (cc := cX5_keep) (maxL := 1) (own := RX5) (by decide) rfl (Nat.le_of_ble_eq_true rfl) rfl ?_
  intro p e s m below meth c A Q hx hb hml hown hts hP hK hD hA hS hname fin ls hl
  have hl : lv_has ls 1 [(0, .ref h0)] := hl
  have hiX5 : ∀ w ∈ u_ws RX5 TX5 8, w ∈ wsX5_keep := by decide +kernel
  dsimp only [d_X5_keep] at h
  refine lv_aload_n hx hb dX5_keep_0 rfl (lv_at hl 0 rfl) ?_
  refine va_get (ci := 5) (C := RX5) (T := TX5) (N := 8) hx hb hts hiX5 hown hK hP 0 rfl rfl 2 (by decide) (hts (.fieldLink RX5 19 "RiddleTrade" "snapshot" "LRiddleTrade$Exchange;") (List.mem_of_getElem? (i := 1) rfl)) (fun _ h9 => h9) rfl dX5_keep_1 ?_
  refine lv_aload_n hx hb dX5_keep_4 rfl (lv_at hl 0 rfl) ?_
  refine va_get (ci := 5) (C := RX5) (T := TX5) (N := 8) hx hb hts hiX5 hown hK hP 0 rfl rfl 0 (by decide) (hts (.fieldLink RX5 10 "RiddleTrade" "now" "LRiddleTrade$Exchange;") (List.mem_of_getElem? (i := 2) rfl)) (fun _ h9 => h9) rfl dX5_keep_5 ?_
  refine kbv (ci := 0) (q := (RX0, TX0, 7)) (bs := [trW h0 hh oo aN aT aS hasS stN stE, exW cI aN N, exW cI aS S]) (cs := [exW cI aS S, exW cI aN N]) (cs' := [exW cI aS N, exW cI aN N]) (bs1 := [trW h0 hh oo aN aT aS hasS stN stE, exW cI aN N, exW cI aS N]) ⟨hx, hb, hml, hown, hts⟩ [2, 1] [0] (ce_X0_copyFrom l D cI cC cE aS aN _ S N ) (cwV 1 hts gX5_keep_X0_copyFrom rfl rfl rfl (by decide +kernel) ⟨Nat.le_of_ble_eq_true rfl, Nat.le_of_ble_eq_true rfl⟩) hK hP hD hS hA rfl rfl rfl rfl rfl rfl rfl rfl rfl hl.1 rfl (Nat.le_of_ble_eq_true rfl) dX5_keep_8 ⟨Nat.le_refl 0, Nat.le_refl 0⟩ (fun H locs hP hD hS => ?_)
  refine lv_aload_n hx hb dX5_keep_11 rfl (lv_at hl 0 rfl) ?_
  refine lv_iconst (v := 1) hx hb dX5_keep_12 (by decide) ?_
  refine va_put (ci := 5) (ty := .boolean) (C := RX5) (T := TX5) (N := 8) hx hb hts hiX5 tyX5 tyX5_ok nmX5 hown hK hP hD hS 0 rfl rfl 5 (by decide) (hts (.fieldLink RX5 93 "RiddleTrade" "hasSnapshot" "Z") (List.mem_of_getElem? (i := 3) rfl)) (fun _ h9 => h9) rfl (by decide +kernel) rfl rfl (Nat.le_of_ble_eq_true rfl) dX5_keep_13 (fun H locs hP hD hS => ?_)
  have hP : va_P D vwCl (fl [trW h0 hh oo aN aT aS 1 stN stE, exW cI aN N, exW cI aS N]) H := hP
  have hD : va_D A (fl [trW h0 hh oo aN aT aS 1 stN stE, exW cI aN N, exW cI aS N]) := hD
  refine lv_aload_n hx hb dX5_keep_16 rfl (lv_at hl 0 rfl) ?_
  refine va_get (ci := 5) (C := RX5) (T := TX5) (N := 8) hx hb hts hiX5 hown hK hP 0 rfl rfl 0 (by decide) (hts (.fieldLink RX5 10 "RiddleTrade" "now" "LRiddleTrade$Exchange;") (List.mem_of_getElem? (i := 2) rfl)) (fun _ h9 => h9) rfl dX5_keep_17 ?_
  refine kbi (ci := 0) (q := (RX0, TX0, 7)) (bs := [trW h0 hh oo aN aT aS 1 stN stE, exW cI aN N, exW cI aS N]) (cs := [exW cI aN N]) (cs' := [exW cI aN N]) (bs1 := [trW h0 hh oo aN aT aS 1 stN stE, exW cI aN N, exW cI aS N]) ⟨hx, hb, hml, hown, hts⟩ [1] [0, 2] (ce_X0_waiting l D cI cC cE aN _ N (d_X0_waiting N.2.2.2.2.2.2.2.2.2.1) rfl) (cwV 0 hts gX5_keep_X0_waiting rfl rfl rfl (by decide +kernel) ⟨Nat.le_of_ble_eq_true rfl, Nat.le_of_ble_eq_true rfl⟩) hK hP hD hS hA rfl rfl rfl rfl rfl rfl rfl rfl rfl hl.1 rfl (Nat.le_of_ble_eq_true rfl) dX5_keep_20 ⟨Nat.le_refl 0, Nat.le_refl 0⟩ (fun H locs hP hD hS => ?_)
  obtain ⟨rfl, rfl, rfl⟩ := inj3 (h)
  exact fin _ _ _ _ dX5_keep_23 hP hD hS
def d_X5_restore (N : Ex) (T : Ex) (S : Ex) (Hs : Nat → Ex) (old : Int32) (sze : Int32) (hasS : Int32) : Int32 × Ex × Ex × (Nat → Ex) × Int32 × Int32 :=
    if hasS = 0 then (((-5), N, T, Hs, old, sze))
    else (tb5 (d_X5_finishAct (d_X0_waiting S.2.2.2.2.2.2.2.2.2.1) N S Hs old sze) fun r2 N_3 Hs_4 old_5 sze_6 =>
    (r2, N_3, S, Hs_4, old_5, sze_6))
set_option maxHeartbeats 4000000 in
set_option maxRecDepth 100000 in
theorem c_X5_restore (l : Launch) (D : va_G) (cI cC cE : ClassId) (h0 hh oo hr : Nat) (aN : Nat → Nat) (aT : Nat → Nat) (aS : Nat → Nat) (aH : Nat → Nat → Nat) (sz : Nat) (N : Ex) (T : Ex) (S : Ex) (Hs : Nat → Ex) (old : Int32) (sze : Int32) (hasS : Int32) (stN : Int32) (stE : Int32) (r0 : Int32) (o_N : Ex) (o_T : Ex) (o_Hs : Nat → Ex) (o_old : Int32) (o_sze : Int32) (h : d_X5_restore N T S Hs old sze hasS = (r0, o_N, o_T, o_Hs, o_old, o_sze)) : Met l yX5_restore wsX5_restore ({ frames := 5, cells := 0, slots := 0, locals := 111 } : Room) (kP D (kT cI cC cE) [.ref h0] (fl [trW h0 hh oo aN aT aS hasS stN stE, exW cI aN N, exW cI aT T, exW cI aS S, w_X1_stateAt cI cC cE hh hr aH old sze, exW cI (aH 0) (Hs 0), exW cI (aH 1) (Hs 1), exW cI (aH 2) (Hs 2), exW cI (aH 3) (Hs 3)]) sz) (kQi D (kT cI cC cE) (fl [trW h0 hh oo aN aT aS hasS stN stE, exW cI aN N, exW cI aT T, exW cI aS S, w_X1_stateAt cI cC cE hh hr aH old sze, exW cI (aH 0) (Hs 0), exW cI (aH 1) (Hs 1), exW cI (aH 2) (Hs 2), exW cI (aH 3) (Hs 3)]) (fl [trW h0 hh oo aN aT aS hasS stN stE, exW cI aN o_N, exW cI aT o_T, exW cI aS S, w_X1_stateAt cI cC cE hh hr aH o_old o_sze, exW cI (aH 0) (o_Hs 0), exW cI (aH 1) (o_Hs 1), exW cI (aH 2) (o_Hs 2), exW cI (aH 3) (o_Hs 3)]) sz r0) 0 0 (va_A (fl [trW h0 hh oo aN aT aS hasS stN stE, exW cI aN N, exW cI aT T, exW cI aS S, w_X1_stateAt cI cC cE hh hr aH old sze, exW cI (aH 0) (Hs 0), exW cI (aH 1) (Hs 1), exW cI (aH 2) (Hs 2), exW cI (aH 3) (Hs 3)]) sz) := by
  refine kMetI (cc := cX5_restore) (maxL := 1) (own := RX5) (by decide) rfl (Nat.le_of_ble_eq_true rfl) rfl ?_
  intro p e s m below meth c A Q hx hb hml hown hts hP hK hD hA hS hname fin ls hl
  have hl : lv_has ls 1 [(0, .ref h0)] := hl
  have hiX5 : ∀ w ∈ u_ws RX5 TX5 8, w ∈ wsX5_restore := by decide +kernel
  dsimp only [d_X5_restore] at h
  refine lv_aload_n hx hb dX5_restore_0 rfl (lv_at hl 0 rfl) ?_
  refine va_get (ci := 5) (C := RX5) (T := TX5) (N := 8) hx hb hts hiX5 hown hK hP 0 rfl rfl 5 (by decide) (hts (.fieldLink RX5 93 "RiddleTrade" "hasSnapshot" "Z") (List.mem_of_getElem? (i := 1) rfl)) (fun _ h9 => h9) rfl dX5_restore_1 ?_
  refine lv_if_ne (tgt := 10) hx hb dX5_restore_4 (by decide) (fun c1 => ?_) (fun c1 => ?_)
  · have h := (k_iB h).2 c1
    refine lv_aload_n hx hb dX5_restore_10 rfl (lv_at hl 0 rfl) ?_
    refine va_get (ci := 5) (C := RX5) (T := TX5) (N := 8) hx hb hts hiX5 hown hK hP 0 rfl rfl 1 (by decide) (hts (.fieldLink RX5 16 "RiddleTrade" "trial" "LRiddleTrade$Exchange;") (List.mem_of_getElem? (i := 2) rfl)) (fun _ h9 => h9) rfl dX5_restore_11 ?_
    refine lv_aload_n hx hb dX5_restore_14 rfl (lv_at hl 0 rfl) ?_
    refine va_get (ci := 5) (C := RX5) (T := TX5) (N := 8) hx hb hts hiX5 hown hK hP 0 rfl rfl 2 (by decide) (hts (.fieldLink RX5 19 "RiddleTrade" "snapshot" "LRiddleTrade$Exchange;") (List.mem_of_getElem? (i := 3) rfl)) (fun _ h9 => h9) rfl dX5_restore_15 ?_
    refine kbv (ci := 0) (q := (RX0, TX0, 7)) (bs := [trW h0 hh oo aN aT aS hasS stN stE, exW cI aN N, exW cI aT T, exW cI aS S, w_X1_stateAt cI cC cE hh hr aH old sze, exW cI (aH 0) (Hs 0), exW cI (aH 1) (Hs 1), exW cI (aH 2) (Hs 2), exW cI (aH 3) (Hs 3)]) (cs := [exW cI aT T, exW cI aS S]) (cs' := [exW cI aT S, exW cI aS S]) (bs1 := [trW h0 hh oo aN aT aS hasS stN stE, exW cI aN N, exW cI aT S, exW cI aS S, w_X1_stateAt cI cC cE hh hr aH old sze, exW cI (aH 0) (Hs 0), exW cI (aH 1) (Hs 1), exW cI (aH 2) (Hs 2), exW cI (aH 3) (Hs 3)]) ⟨hx, hb, hml, hown, hts⟩ [2, 3] [0, 1, 4, 5, 6, 7, 8] (ce_X0_copyFrom l D cI cC cE aT aS _ T S ) (cwV 1 hts gX5_restore_X0_copyFrom rfl rfl rfl (by decide +kernel) ⟨Nat.le_of_ble_eq_true rfl, Nat.le_of_ble_eq_true rfl⟩) hK hP hD hS hA rfl rfl rfl rfl rfl rfl rfl rfl rfl hl.1 rfl (Nat.le_of_ble_eq_true rfl) dX5_restore_18 ⟨Nat.le_refl 0, Nat.le_refl 0⟩ (fun H locs hP hD hS => ?_)
    refine lv_aload_n hx hb dX5_restore_21 rfl (lv_at hl 0 rfl) ?_
    refine lv_aload_n hx hb dX5_restore_22 rfl (lv_at hl 0 rfl) ?_
    refine va_get (ci := 5) (C := RX5) (T := TX5) (N := 8) hx hb hts hiX5 hown hK hP 0 rfl rfl 1 (by decide) (hts (.fieldLink RX5 16 "RiddleTrade" "trial" "LRiddleTrade$Exchange;") (List.mem_of_getElem? (i := 2) rfl)) (fun _ h9 => h9) rfl dX5_restore_23 ?_
    refine kbi (ci := 0) (q := (RX0, TX0, 7)) (bs := [trW h0 hh oo aN aT aS hasS stN stE, exW cI aN N, exW cI aT S, exW cI aS S, w_X1_stateAt cI cC cE hh hr aH old sze, exW cI (aH 0) (Hs 0), exW cI (aH 1) (Hs 1), exW cI (aH 2) (Hs 2), exW cI (aH 3) (Hs 3)]) (cs := [exW cI aT S]) (cs' := [exW cI aT S]) (bs1 := [trW h0 hh oo aN aT aS hasS stN stE, exW cI aN N, exW cI aT S, exW cI aS S, w_X1_stateAt cI cC cE hh hr aH old sze, exW cI (aH 0) (Hs 0), exW cI (aH 1) (Hs 1), exW cI (aH 2) (Hs 2), exW cI (aH 3) (Hs 3)]) ⟨hx, hb, hml, hown, hts⟩ [2] [0, 1, 3, 4, 5, 6, 7, 8] (ce_X0_waiting l D cI cC cE aT _ S (d_X0_waiting S.2.2.2.2.2.2.2.2.2.1) rfl) (cwV 0 hts gX5_restore_X0_waiting rfl rfl rfl (by decide +kernel) ⟨Nat.le_of_ble_eq_true rfl, Nat.le_of_ble_eq_true rfl⟩) hK hP hD hS hA rfl rfl rfl rfl rfl rfl rfl rfl rfl hl.1 rfl (Nat.le_of_ble_eq_true rfl) dX5_restore_26 ⟨Nat.le_refl 0, Nat.le_refl 0⟩ (fun H locs hP hD hS => ?_)
    obtain ⟨r2, N_3, Hs_4, old_5, sze_6, hu7, h⟩ := tb5_el h
    refine kbi (ci := 5) (q := (RX5, TX5, 8)) (bs := [trW h0 hh oo aN aT aS hasS stN stE, exW cI aN N, exW cI aT S, exW cI aS S, w_X1_stateAt cI cC cE hh hr aH old sze, exW cI (aH 0) (Hs 0), exW cI (aH 1) (Hs 1), exW cI (aH 2) (Hs 2), exW cI (aH 3) (Hs 3)]) (cs := [trW h0 hh oo aN aT aS hasS stN stE, exW cI aN N, exW cI aT S, w_X1_stateAt cI cC cE hh hr aH old sze, exW cI (aH 0) (Hs 0), exW cI (aH 1) (Hs 1), exW cI (aH 2) (Hs 2), exW cI (aH 3) (Hs 3)]) (cs' := [trW h0 hh oo aN aT aS hasS stN stE, exW cI aN N_3, exW cI aT S, w_X1_stateAt cI cC cE hh hr aH old_5 sze_6, exW cI (aH 0) (Hs_4 0), exW cI (aH 1) (Hs_4 1), exW cI (aH 2) (Hs_4 2), exW cI (aH 3) (Hs_4 3)]) (bs1 := [trW h0 hh oo aN aT aS hasS stN stE, exW cI aN N_3, exW cI aT S, exW cI aS S, w_X1_stateAt cI cC cE hh hr aH old_5 sze_6, exW cI (aH 0) (Hs_4 0), exW cI (aH 1) (Hs_4 1), exW cI (aH 2) (Hs_4 2), exW cI (aH 3) (Hs_4 3)]) ⟨hx, hb, hml, hown, hts⟩ [0, 1, 2, 4, 5, 6, 7, 8] [3] (c_X5_finishAct l D cI cC cE h0 hh oo hr aN aT aS aH _ N S Hs old sze hasS stN stE (d_X0_waiting S.2.2.2.2.2.2.2.2.2.1) r2 N_3 Hs_4 old_5 sze_6 hu7) (cwV 1 hts gX5_restore_X5_finishAct rfl rfl rfl (by decide +kernel) ⟨Nat.le_of_ble_eq_true rfl, Nat.le_of_ble_eq_true rfl⟩) hK hP hD hS hA rfl rfl rfl rfl rfl rfl rfl rfl rfl hl.1 rfl (Nat.le_of_ble_eq_true rfl) dX5_restore_29 ⟨Nat.le_refl 0, Nat.le_refl 0⟩ (fun H locs hP hD hS => ?_)
    obtain ⟨rfl, rfl, rfl, rfl, rfl, rfl⟩ := inj6 (h)
    exact fin _ _ _ _ dX5_restore_32 hP hD hS
  · have h := (k_iB h).1 c1
    refine lv_bipush (v := (-5)) hx hb dX5_restore_7 (by decide) ?_
    obtain ⟨rfl, rfl, rfl, rfl, rfl, rfl⟩ := inj6 (h)
    exact fin _ _ _ _ dX5_restore_9 hP hD hS
def d_X5_trader (p1 : Int32) (p2 : Int32) (N : Ex) : Option (Int32) :=
    ob1 (d_X0_tellTrader p1 p2 N.1 N.2.1 N.2.2.1 N.2.2.2.1 N.2.2.2.2.1) fun r1 =>
    some r1
set_option maxHeartbeats 4000000 in
set_option maxRecDepth 100000 in
theorem c_X5_trader (l : Launch) (D : va_G) (cI cC cE : ClassId) (h0 hh oo : Nat) (aN : Nat → Nat) (aT : Nat → Nat) (aS : Nat → Nat) (sz : Nat) (N : Ex) (hasS : Int32) (stN : Int32) (stE : Int32) (p1 : Int32) (p2 : Int32) (r0 : Int32) (h : d_X5_trader p1 p2 N = some r0) : Met l yX5_trader wsX5_trader ({ frames := 3, cells := 0, slots := 0, locals := 71 } : Room) (kP D (kT cI cC cE) [.ref h0, .int p1, .int p2] (fl [trW h0 hh oo aN aT aS hasS stN stE, exW cI aN N]) sz) (kQi D (kT cI cC cE) (fl [trW h0 hh oo aN aT aS hasS stN stE, exW cI aN N]) (fl [trW h0 hh oo aN aT aS hasS stN stE, exW cI aN N]) sz r0) 0 0 (va_A (fl [trW h0 hh oo aN aT aS hasS stN stE, exW cI aN N]) sz) := by
  refine kMetI (cc := cX5_trader) (maxL := 3) (own := RX5) (by decide) rfl (Nat.le_of_ble_eq_true rfl) rfl ?_
  intro p e s m below meth c A Q hx hb hml hown hts hP hK hD hA hS hname fin ls hl
  have hl : lv_has ls 3 [(0, .ref h0), (1, .int p1), (2, .int p2)] := hl
  have hiX5 : ∀ w ∈ u_ws RX5 TX5 8, w ∈ wsX5_trader := by decide +kernel
  dsimp only [d_X5_trader] at h
  refine lv_aload_n hx hb dX5_trader_0 rfl (lv_at hl 0 rfl) ?_
  refine va_get (ci := 5) (C := RX5) (T := TX5) (N := 8) hx hb hts hiX5 hown hK hP 0 rfl rfl 0 (by decide) (hts (.fieldLink RX5 10 "RiddleTrade" "now" "LRiddleTrade$Exchange;") (List.mem_of_getElem? (i := 1) rfl)) (fun _ h9 => h9) rfl dX5_trader_1 ?_
  refine lv_iload_n hx hb dX5_trader_4 rfl (lv_at hl 1 rfl) ?_
  refine lv_iload_n hx hb dX5_trader_5 rfl (lv_at hl 2 rfl) ?_
  obtain ⟨r1, hu2, h⟩ := ob1_el h
  refine kbi (ci := 0) (q := (RX0, TX0, 7)) (bs := [trW h0 hh oo aN aT aS hasS stN stE, exW cI aN N]) (cs := [exW cI aN N]) (cs' := [exW cI aN N]) (bs1 := [trW h0 hh oo aN aT aS hasS stN stE, exW cI aN N]) ⟨hx, hb, hml, hown, hts⟩ [1] [0] (ce_X0_tellTrader l D cI cC cE aN _ N p1 p2 r1 hu2) (cwV 2 hts gX5_trader_X0_tellTrader rfl rfl rfl (by decide +kernel) ⟨Nat.le_of_ble_eq_true rfl, Nat.le_of_ble_eq_true rfl⟩) hK hP hD hS hA rfl rfl rfl rfl rfl rfl rfl rfl rfl hl.1 rfl (Nat.le_of_ble_eq_true rfl) dX5_trader_6 ⟨Nat.le_refl 0, Nat.le_refl 0⟩ (fun H locs hP hD hS => ?_)
  obtain rfl := Option.some.inj h
  exact fin _ _ _ _ dX5_trader_9 hP hD hS
def d_X5_riddle (p1 : Int32) (p2 : Int32) (N : Ex) : Option (Int32) :=
    ob1 (d_X0_tellRiddle p1 p2 N.2.1 N.2.2.1 N.2.2.2.1 N.2.2.2.2.1) fun r1 =>
    some r1
set_option maxHeartbeats 4000000 in
set_option maxRecDepth 100000 in
theorem c_X5_riddle (l : Launch) (D : va_G) (cI cC cE : ClassId) (h0 hh oo : Nat) (aN : Nat → Nat) (aT : Nat → Nat) (aS : Nat → Nat) (sz : Nat) (N : Ex) (hasS : Int32) (stN : Int32) (stE : Int32) (p1 : Int32) (p2 : Int32) (r0 : Int32) (h : d_X5_riddle p1 p2 N = some r0) : Met l yX5_riddle wsX5_riddle ({ frames := 3, cells := 0, slots := 0, locals := 71 } : Room) (kP D (kT cI cC cE) [.ref h0, .int p1, .int p2] (fl [trW h0 hh oo aN aT aS hasS stN stE, exW cI aN N]) sz) (kQi D (kT cI cC cE) (fl [trW h0 hh oo aN aT aS hasS stN stE, exW cI aN N]) (fl [trW h0 hh oo aN aT aS hasS stN stE, exW cI aN N]) sz r0) 0 0 (va_A (fl [trW h0 hh oo aN aT aS hasS stN stE, exW cI aN N]) sz) := by
  refine kMetI (cc := cX5_riddle) (maxL := 3) (own := RX5) (by decide) rfl (Nat.le_of_ble_eq_true rfl) rfl ?_
  intro p e s m below meth c A Q hx hb hml hown hts hP hK hD hA hS hname fin ls hl
  have hl : lv_has ls 3 [(0, .ref h0), (1, .int p1), (2, .int p2)] := hl
  have hiX5 : ∀ w ∈ u_ws RX5 TX5 8, w ∈ wsX5_riddle := by decide +kernel
  dsimp only [d_X5_riddle] at h
  refine lv_aload_n hx hb dX5_riddle_0 rfl (lv_at hl 0 rfl) ?_
  refine va_get (ci := 5) (C := RX5) (T := TX5) (N := 8) hx hb hts hiX5 hown hK hP 0 rfl rfl 0 (by decide) (hts (.fieldLink RX5 10 "RiddleTrade" "now" "LRiddleTrade$Exchange;") (List.mem_of_getElem? (i := 1) rfl)) (fun _ h9 => h9) rfl dX5_riddle_1 ?_
  refine lv_iload_n hx hb dX5_riddle_4 rfl (lv_at hl 1 rfl) ?_
  refine lv_iload_n hx hb dX5_riddle_5 rfl (lv_at hl 2 rfl) ?_
  obtain ⟨r1, hu2, h⟩ := ob1_el h
  refine kbi (ci := 0) (q := (RX0, TX0, 7)) (bs := [trW h0 hh oo aN aT aS hasS stN stE, exW cI aN N]) (cs := [exW cI aN N]) (cs' := [exW cI aN N]) (bs1 := [trW h0 hh oo aN aT aS hasS stN stE, exW cI aN N]) ⟨hx, hb, hml, hown, hts⟩ [1] [0] (ce_X0_tellRiddle l D cI cC cE aN _ N p1 p2 r1 hu2) (cwV 2 hts gX5_riddle_X0_tellRiddle rfl rfl rfl (by decide +kernel) ⟨Nat.le_of_ble_eq_true rfl, Nat.le_of_ble_eq_true rfl⟩) hK hP hD hS hA rfl rfl rfl rfl rfl rfl rfl rfl rfl hl.1 rfl (Nat.le_of_ble_eq_true rfl) dX5_riddle_6 ⟨Nat.le_refl 0, Nat.le_refl 0⟩ (fun H locs hP hD hS => ?_)
  obtain rfl := Option.some.inj h
  exact fin _ _ _ _ dX5_riddle_9 hP hD hS
def d_X5_answer (p1 : Int32) (p2 : Int32) (N : Ex) : Option (Int32) :=
    ob1 (d_X0_tellAnswer p1 p2 N.2.2.2.1 N.2.2.2.2.1 N.2.2.2.2.2.2.2.1 N.2.2.2.2.2.2.2.2.1 N.2.2.2.2.2.2.2.2.2.1) fun r1 =>
    some r1
set_option maxHeartbeats 4000000 in
set_option maxRecDepth 100000 in
theorem c_X5_answer (l : Launch) (D : va_G) (cI cC cE : ClassId) (h0 hh oo : Nat) (aN : Nat → Nat) (aT : Nat → Nat) (aS : Nat → Nat) (sz : Nat) (N : Ex) (hasS : Int32) (stN : Int32) (stE : Int32) (p1 : Int32) (p2 : Int32) (r0 : Int32) (h : d_X5_answer p1 p2 N = some r0) : Met l yX5_answer wsX5_answer ({ frames := 3, cells := 0, slots := 0, locals := 66 } : Room) (kP D (kT cI cC cE) [.ref h0, .int p1, .int p2] (fl [trW h0 hh oo aN aT aS hasS stN stE, exW cI aN N]) sz) (kQi D (kT cI cC cE) (fl [trW h0 hh oo aN aT aS hasS stN stE, exW cI aN N]) (fl [trW h0 hh oo aN aT aS hasS stN stE, exW cI aN N]) sz r0) 0 0 (va_A (fl [trW h0 hh oo aN aT aS hasS stN stE, exW cI aN N]) sz) := by
  refine kMetI (cc := cX5_answer) (maxL := 3) (own := RX5) (by decide) rfl (Nat.le_of_ble_eq_true rfl) rfl ?_
  intro p e s m below meth c A Q hx hb hml hown hts hP hK hD hA hS hname fin ls hl
  have hl : lv_has ls 3 [(0, .ref h0), (1, .int p1), (2, .int p2)] := hl
  have hiX5 : ∀ w ∈ u_ws RX5 TX5 8, w ∈ wsX5_answer := by decide +kernel
  dsimp only [d_X5_answer] at h
  refine lv_aload_n hx hb dX5_answer_0 rfl (lv_at hl 0 rfl) ?_
  refine va_get (ci := 5) (C := RX5) (T := TX5) (N := 8) hx hb hts hiX5 hown hK hP 0 rfl rfl 0 (by decide) (hts (.fieldLink RX5 10 "RiddleTrade" "now" "LRiddleTrade$Exchange;") (List.mem_of_getElem? (i := 1) rfl)) (fun _ h9 => h9) rfl dX5_answer_1 ?_
  refine lv_iload_n hx hb dX5_answer_4 rfl (lv_at hl 1 rfl) ?_
  refine lv_iload_n hx hb dX5_answer_5 rfl (lv_at hl 2 rfl) ?_
  obtain ⟨r1, hu2, h⟩ := ob1_el h
  refine kbi (ci := 0) (q := (RX0, TX0, 7)) (bs := [trW h0 hh oo aN aT aS hasS stN stE, exW cI aN N]) (cs := [exW cI aN N]) (cs' := [exW cI aN N]) (bs1 := [trW h0 hh oo aN aT aS hasS stN stE, exW cI aN N]) ⟨hx, hb, hml, hown, hts⟩ [1] [0] (ce_X0_tellAnswer l D cI cC cE aN _ N p1 p2 r1 hu2) (cwV 2 hts gX5_answer_X0_tellAnswer rfl rfl rfl (by decide +kernel) ⟨Nat.le_of_ble_eq_true rfl, Nat.le_of_ble_eq_true rfl⟩) hK hP hD hS hA rfl rfl rfl rfl rfl rfl rfl rfl rfl hl.1 rfl (Nat.le_of_ble_eq_true rfl) dX5_answer_6 ⟨Nat.le_refl 0, Nat.le_refl 0⟩ (fun H locs hP hD hS => ?_)
  obtain rfl := Option.some.inj h
  exact fin _ _ _ _ dX5_answer_9 hP hD hS
def d_X5_waits (p1 : Int32) (N : Ex) : Option (Int32) :=
    if 0 ≤ p1 then (ob1 (d_X0_waitingAt p1 N.2.2.2.2.2.2.2.1 N.2.2.2.2.2.2.2.2.1 N.2.2.2.2.2.2.2.2.2.1) fun r2 =>
    some r2)
    else (some (-2))
set_option maxHeartbeats 4000000 in
set_option maxRecDepth 100000 in
theorem c_X5_waits (l : Launch) (D : va_G) (cI cC cE : ClassId) (h0 hh oo : Nat) (aN : Nat → Nat) (aT : Nat → Nat) (aS : Nat → Nat) (sz : Nat) (N : Ex) (hasS : Int32) (stN : Int32) (stE : Int32) (p1 : Int32) (r0 : Int32) (h : d_X5_waits p1 N = some r0) : Met l yX5_waits wsX5_waits ({ frames := 2, cells := 0, slots := 0, locals := 43 } : Room) (kP D (kT cI cC cE) [.ref h0, .int p1] (fl [trW h0 hh oo aN aT aS hasS stN stE, exW cI aN N]) sz) (kQi D (kT cI cC cE) (fl [trW h0 hh oo aN aT aS hasS stN stE, exW cI aN N]) (fl [trW h0 hh oo aN aT aS hasS stN stE, exW cI aN N]) sz r0) 0 0 (va_A (fl [trW h0 hh oo aN aT aS hasS stN stE, exW cI aN N]) sz) := by
  refine kMetI (cc := cX5_waits) (maxL := 2) (own := RX5) (by decide) rfl (Nat.le_of_ble_eq_true rfl) rfl ?_
  intro p e s m below meth c A Q hx hb hml hown hts hP hK hD hA hS hname fin ls hl
  have hl : lv_has ls 2 [(0, .ref h0), (1, .int p1)] := hl
  have hiX5 : ∀ w ∈ u_ws RX5 TX5 8, w ∈ wsX5_waits := by decide +kernel
  dsimp only [d_X5_waits] at h
  refine lv_iload_n hx hb dX5_waits_0 rfl (lv_at hl 1 rfl) ?_
  refine lv_if_ge (tgt := 9) hx hb dX5_waits_1 (by decide) (fun c1 => ?_) (fun c1 => ?_)
  · have h := (k_iB h).1 c1
    refine lv_aload_n hx hb dX5_waits_9 rfl (lv_at hl 0 rfl) ?_
    refine va_get (ci := 5) (C := RX5) (T := TX5) (N := 8) hx hb hts hiX5 hown hK hP 0 rfl rfl 0 (by decide) (hts (.fieldLink RX5 10 "RiddleTrade" "now" "LRiddleTrade$Exchange;") (List.mem_of_getElem? (i := 1) rfl)) (fun _ h9 => h9) rfl dX5_waits_10 ?_
    refine lv_iload_n hx hb dX5_waits_13 rfl (lv_at hl 1 rfl) ?_
    obtain ⟨r2, hu3, h⟩ := ob1_el h
    refine kbi (ci := 0) (q := (RX0, TX0, 7)) (bs := [trW h0 hh oo aN aT aS hasS stN stE, exW cI aN N]) (cs := [exW cI aN N]) (cs' := [exW cI aN N]) (bs1 := [trW h0 hh oo aN aT aS hasS stN stE, exW cI aN N]) ⟨hx, hb, hml, hown, hts⟩ [1] [0] (ce_X0_waitingAt l D cI cC cE aN _ N p1 r2 hu3) (cwV 1 hts gX5_waits_X0_waitingAt rfl rfl rfl (by decide +kernel) ⟨Nat.le_of_ble_eq_true rfl, Nat.le_of_ble_eq_true rfl⟩) hK hP hD hS hA rfl rfl rfl rfl rfl rfl rfl rfl rfl hl.1 rfl (Nat.le_of_ble_eq_true rfl) dX5_waits_14 ⟨Nat.le_refl 0, Nat.le_refl 0⟩ (fun H locs hP hD hS => ?_)
    obtain rfl := Option.some.inj h
    exact fin _ _ _ _ dX5_waits_17 hP hD hS
  · have h := (k_iB h).2 c1
    refine lv_bipush (v := (-2)) hx hb dX5_waits_4 (by decide) ?_
    refine lv_goto (tgt := 17) hx hb dX5_waits_6 (by decide) ?_
    obtain rfl := Option.some.inj h
    exact fin _ _ _ _ dX5_waits_17 hP hD hS
def d_X5_weigh (p1 : Int32) (p2 : Int32) (N : Ex) : Option (Int32) :=
    if p1 < 0 then (some (-1))
    else (if p1 ≤ 1 then (if p2 < 1 then (some (-2))
    else (if p2 ≤ 99 then (ob1 (d_X0_told p1 p2 N.2.2.2.2.2.1) fun r5 =>
    some r5)
    else (some (-2))))
    else (some (-1)))
set_option maxHeartbeats 4000000 in
set_option maxRecDepth 100000 in
theorem c_X5_weigh (l : Launch) (D : va_G) (cI cC cE : ClassId) (h0 hh oo : Nat) (aN : Nat → Nat) (aT : Nat → Nat) (aS : Nat → Nat) (sz : Nat) (N : Ex) (hasS : Int32) (stN : Int32) (stE : Int32) (p1 : Int32) (p2 : Int32) (r0 : Int32) (h : d_X5_weigh p1 p2 N = some r0) : Met l yX5_weigh wsX5_weigh ({ frames := 2, cells := 0, slots := 0, locals := 45 } : Room) (kP D (kT cI cC cE) [.ref h0, .int p1, .int p2] (fl [trW h0 hh oo aN aT aS hasS stN stE, exW cI aN N]) sz) (kQi D (kT cI cC cE) (fl [trW h0 hh oo aN aT aS hasS stN stE, exW cI aN N]) (fl [trW h0 hh oo aN aT aS hasS stN stE, exW cI aN N]) sz r0) 0 0 (va_A (fl [trW h0 hh oo aN aT aS hasS stN stE, exW cI aN N]) sz) := by
  refine kMetI (cc := cX5_weigh) (maxL := 3) (own := RX5) (by decide) rfl (Nat.le_of_ble_eq_true rfl) rfl ?_
  intro p e s m below meth c A Q hx hb hml hown hts hP hK hD hA hS hname fin ls hl
  have hl : lv_has ls 3 [(0, .ref h0), (1, .int p1), (2, .int p2)] := hl
  have hiX5 : ∀ w ∈ u_ws RX5 TX5 8, w ∈ wsX5_weigh := by decide +kernel
  dsimp only [d_X5_weigh] at h
  refine lv_iload_n hx hb dX5_weigh_0 rfl (lv_at hl 1 rfl) ?_
  refine lv_if_lt (tgt := 9) hx hb dX5_weigh_1 (by decide) (fun c1 => ?_) (fun c1 => ?_)
  · have h := (k_iB h).1 c1
    refine lv_iconst (v := (-1)) hx hb dX5_weigh_9 (by decide) ?_
    obtain rfl := Option.some.inj h
    exact fin _ _ _ _ dX5_weigh_10 hP hD hS
  · have h := (k_iB h).2 c1
    refine lv_iload_n hx hb dX5_weigh_4 rfl (lv_at hl 1 rfl) ?_
    refine lv_iconst (v := 1) hx hb dX5_weigh_5 (by decide) ?_
    refine lv_icmp_le (tgt := 11) hx hb dX5_weigh_6 (by decide) (fun c2 => ?_) (fun c2 => ?_)
    · have h := (k_iB h).1 c2
      refine lv_iload_n hx hb dX5_weigh_11 rfl (lv_at hl 2 rfl) ?_
      refine lv_iconst (v := 1) hx hb dX5_weigh_12 (by decide) ?_
      refine lv_icmp_lt (tgt := 22) hx hb dX5_weigh_13 (by decide) (fun c3 => ?_) (fun c3 => ?_)
      · have h := (k_iB h).1 c3
        refine lv_bipush (v := (-2)) hx hb dX5_weigh_22 (by decide) ?_
        obtain rfl := Option.some.inj h
        exact fin _ _ _ _ dX5_weigh_24 hP hD hS
      · have h := (k_iB h).2 c3
        refine lv_iload_n hx hb dX5_weigh_16 rfl (lv_at hl 2 rfl) ?_
        refine lv_bipush (v := 99) hx hb dX5_weigh_17 (by decide) ?_
        refine lv_icmp_le (tgt := 25) hx hb dX5_weigh_19 (by decide) (fun c4 => ?_) (fun c4 => ?_)
        · have h := (k_iB h).1 c4
          refine lv_aload_n hx hb dX5_weigh_25 rfl (lv_at hl 0 rfl) ?_
          refine va_get (ci := 5) (C := RX5) (T := TX5) (N := 8) hx hb hts hiX5 hown hK hP 0 rfl rfl 0 (by decide) (hts (.fieldLink RX5 10 "RiddleTrade" "now" "LRiddleTrade$Exchange;") (List.mem_of_getElem? (i := 1) rfl)) (fun _ h9 => h9) rfl dX5_weigh_26 ?_
          refine lv_iload_n hx hb dX5_weigh_29 rfl (lv_at hl 1 rfl) ?_
          refine lv_iload_n hx hb dX5_weigh_30 rfl (lv_at hl 2 rfl) ?_
          obtain ⟨r5, hu6, h⟩ := ob1_el h
          refine kbi (ci := 0) (q := (RX0, TX0, 7)) (bs := [trW h0 hh oo aN aT aS hasS stN stE, exW cI aN N]) (cs := [exW cI aN N]) (cs' := [exW cI aN N]) (bs1 := [trW h0 hh oo aN aT aS hasS stN stE, exW cI aN N]) ⟨hx, hb, hml, hown, hts⟩ [1] [0] (ce_X0_told l D cI cC cE aN _ N p1 p2 r5 hu6) (cwV 2 hts gX5_weigh_X0_told rfl rfl rfl (by decide +kernel) ⟨Nat.le_of_ble_eq_true rfl, Nat.le_of_ble_eq_true rfl⟩) hK hP hD hS hA rfl rfl rfl rfl rfl rfl rfl rfl rfl hl.1 rfl (Nat.le_of_ble_eq_true rfl) dX5_weigh_31 ⟨Nat.le_refl 0, Nat.le_refl 0⟩ (fun H locs hP hD hS => ?_)
          obtain rfl := Option.some.inj h
          exact fin _ _ _ _ dX5_weigh_34 hP hD hS
        · have h := (k_iB h).2 c4
          refine lv_bipush (v := (-2)) hx hb dX5_weigh_22 (by decide) ?_
          obtain rfl := Option.some.inj h
          exact fin _ _ _ _ dX5_weigh_24 hP hD hS
    · have h := (k_iB h).2 c2
      refine lv_iconst (v := (-1)) hx hb dX5_weigh_9 (by decide) ?_
      obtain rfl := Option.some.inj h
      exact fin _ _ _ _ dX5_weigh_10 hP hD hS
def d_X5_reason (p1 : Int32) (N : Ex) : Option (Int32) :=
    ob1 (d_X0_errorIfNotWaiting p1 N.2.2.2.1 N.2.2.2.2.1) fun r1 =>
    if 0 ≤ r1 then (ob1 (d_X0_paymentFor p1 N.2.1 N.2.2.2.1 N.2.2.2.2.2.1) fun r4 =>
    ob1 (d_X0_hindrance p1 r4 N.1 N.2.1 N.2.2.2.1 N.2.2.2.2.2.1 N.2.2.2.2.2.2.1) fun r6 =>
    some r6)
    else (some r1)
set_option maxHeartbeats 4000000 in
set_option maxRecDepth 100000 in
theorem c_X5_reason (l : Launch) (D : va_G) (cI cC cE : ClassId) (h0 hh oo : Nat) (aN : Nat → Nat) (aT : Nat → Nat) (aS : Nat → Nat) (sz : Nat) (N : Ex) (hasS : Int32) (stN : Int32) (stE : Int32) (p1 : Int32) (r0 : Int32) (h : d_X5_reason p1 N = some r0) : Met l yX5_reason wsX5_reason ({ frames := 3, cells := 0, slots := 0, locals := 70 } : Room) (kP D (kT cI cC cE) [.ref h0, .int p1] (fl [trW h0 hh oo aN aT aS hasS stN stE, exW cI aN N]) sz) (kQi D (kT cI cC cE) (fl [trW h0 hh oo aN aT aS hasS stN stE, exW cI aN N]) (fl [trW h0 hh oo aN aT aS hasS stN stE, exW cI aN N]) sz r0) 0 0 (va_A (fl [trW h0 hh oo aN aT aS hasS stN stE, exW cI aN N]) sz) := by
  refine kMetI (cc := cX5_reason) (maxL := 3) (own := RX5) (by decide) rfl (Nat.le_of_ble_eq_true rfl) rfl ?_
  intro p e s m below meth c A Q hx hb hml hown hts hP hK hD hA hS hname fin ls hl
  have hl : lv_has ls 3 [(0, .ref h0), (1, .int p1)] := hl
  have hiX5 : ∀ w ∈ u_ws RX5 TX5 8, w ∈ wsX5_reason := by decide +kernel
  dsimp only [d_X5_reason] at h
  refine lv_aload_n hx hb dX5_reason_0 rfl (lv_at hl 0 rfl) ?_
  refine va_get (ci := 5) (C := RX5) (T := TX5) (N := 8) hx hb hts hiX5 hown hK hP 0 rfl rfl 0 (by decide) (hts (.fieldLink RX5 10 "RiddleTrade" "now" "LRiddleTrade$Exchange;") (List.mem_of_getElem? (i := 1) rfl)) (fun _ h9 => h9) rfl dX5_reason_1 ?_
  refine lv_iload_n hx hb dX5_reason_4 rfl (lv_at hl 1 rfl) ?_
  obtain ⟨r1, hu2, h⟩ := ob1_el h
  refine kbi (ci := 0) (q := (RX0, TX0, 7)) (bs := [trW h0 hh oo aN aT aS hasS stN stE, exW cI aN N]) (cs := [exW cI aN N]) (cs' := [exW cI aN N]) (bs1 := [trW h0 hh oo aN aT aS hasS stN stE, exW cI aN N]) ⟨hx, hb, hml, hown, hts⟩ [1] [0] (ce_X0_errorIfNotWaiting l D cI cC cE aN _ N p1 r1 hu2) (cwV 1 hts gX5_reason_X0_errorIfNotWaiting rfl rfl rfl (by decide +kernel) ⟨Nat.le_of_ble_eq_true rfl, Nat.le_of_ble_eq_true rfl⟩) hK hP hD hS hA rfl rfl rfl rfl rfl rfl rfl rfl rfl hl.1 rfl (Nat.le_of_ble_eq_true rfl) dX5_reason_5 ⟨Nat.le_refl 0, Nat.le_refl 0⟩ (fun H locs hP hD hS => ?_)
  refine lv_istore_n (lv' := [(2, .int r1), (0, .ref h0), (1, .int p1)]) hx hb dX5_reason_8 rfl hl (by decide) rfl (fun ls hl => ?_)
  refine lv_iload_n hx hb dX5_reason_9 rfl (lv_at hl 0 rfl) ?_
  refine lv_if_ge (tgt := 17) hx hb dX5_reason_10 (by decide) (fun c3 => ?_) (fun c3 => ?_)
  · have h := (k_iB h).1 c3
    refine lv_aload_n hx hb dX5_reason_17 rfl (lv_at hl 1 rfl) ?_
    refine va_get (ci := 5) (C := RX5) (T := TX5) (N := 8) hx hb hts hiX5 hown hK hP 0 rfl rfl 0 (by decide) (hts (.fieldLink RX5 10 "RiddleTrade" "now" "LRiddleTrade$Exchange;") (List.mem_of_getElem? (i := 1) rfl)) (fun _ h9 => h9) rfl dX5_reason_18 ?_
    refine lv_iload_n hx hb dX5_reason_21 rfl (lv_at hl 2 rfl) ?_
    refine lv_aload_n hx hb dX5_reason_22 rfl (lv_at hl 1 rfl) ?_
    refine va_get (ci := 5) (C := RX5) (T := TX5) (N := 8) hx hb hts hiX5 hown hK hP 0 rfl rfl 0 (by decide) (hts (.fieldLink RX5 10 "RiddleTrade" "now" "LRiddleTrade$Exchange;") (List.mem_of_getElem? (i := 1) rfl)) (fun _ h9 => h9) rfl dX5_reason_23 ?_
    refine lv_iload_n hx hb dX5_reason_26 rfl (lv_at hl 2 rfl) ?_
    obtain ⟨r4, hu5, h⟩ := ob1_el h
    refine kbi (ci := 0) (q := (RX0, TX0, 7)) (bs := [trW h0 hh oo aN aT aS hasS stN stE, exW cI aN N]) (cs := [exW cI aN N]) (cs' := [exW cI aN N]) (bs1 := [trW h0 hh oo aN aT aS hasS stN stE, exW cI aN N]) ⟨hx, hb, hml, hown, hts⟩ [1] [0] (ce_X0_paymentFor l D cI cC cE aN _ N p1 r4 hu5) (cwV 1 hts gX5_reason_X0_paymentFor rfl rfl rfl (by decide +kernel) ⟨Nat.le_of_ble_eq_true rfl, Nat.le_of_ble_eq_true rfl⟩) hK hP hD hS hA rfl rfl rfl rfl rfl rfl rfl rfl rfl hl.1 rfl (Nat.le_of_ble_eq_true rfl) dX5_reason_27 ⟨Nat.le_refl 0, Nat.le_refl 0⟩ (fun H locs hP hD hS => ?_)
    obtain ⟨r6, hu7, h⟩ := ob1_el h
    refine kbi (ci := 0) (q := (RX0, TX0, 7)) (bs := [trW h0 hh oo aN aT aS hasS stN stE, exW cI aN N]) (cs := [exW cI aN N]) (cs' := [exW cI aN N]) (bs1 := [trW h0 hh oo aN aT aS hasS stN stE, exW cI aN N]) ⟨hx, hb, hml, hown, hts⟩ [1] [0] (ce_X0_hindrance l D cI cC cE aN _ N p1 r4 r6 hu7) (cwV 2 hts gX5_reason_X0_hindrance rfl rfl rfl (by decide +kernel) ⟨Nat.le_of_ble_eq_true rfl, Nat.le_of_ble_eq_true rfl⟩) hK hP hD hS hA rfl rfl rfl rfl rfl rfl rfl rfl rfl hl.1 rfl (Nat.le_of_ble_eq_true rfl) dX5_reason_30 ⟨Nat.le_refl 0, Nat.le_refl 0⟩ (fun H locs hP hD hS => ?_)
    obtain rfl := Option.some.inj h
    exact fin _ _ _ _ dX5_reason_33 hP hD hS
  · have h := (k_iB h).2 c3
    refine lv_iload_n hx hb dX5_reason_13 rfl (lv_at hl 0 rfl) ?_
    refine lv_goto (tgt := 33) hx hb dX5_reason_14 (by decide) ?_
    obtain rfl := Option.some.inj h
    exact fin _ _ _ _ dX5_reason_33 hP hD hS
def lp_X5_settledIn_28 (N : Ex) (p1 : Int32) : Nat → Int32 → Ex → Option (Int32 × Ex)
  | 0 => fun _ _ => none
  | k + 1 => fun x3 T =>
    if 300 < x3 then (some ((-5), T))
    else (ob9 (d_X0_playRound T.1 T.2.1 T.2.2.2.1 T.2.2.2.2.2.1 T.2.2.2.2.2.2.1 T.2.2.2.2.2.2.2.1 T.2.2.2.2.2.2.2.2.1 T.2.2.2.2.2.2.2.2.2.1 T.2.2.2.2.2.2.2.2.2.2) fun r5 TfT_6 TfR_7 TfA_8 TfS_9 Tri_10 Thd_11 Tln_12 Trnd_13 =>
    ob1 (d_X0_errorIfNotWaiting p1 TfA_8 T.2.2.2.2.1) fun r15 =>
    if 0 ≤ r15 then ((lp_X5_settledIn_28  N p1 k) (x3 + 1) (TfT_6, TfR_7, T.2.2.1, TfA_8, T.2.2.2.2.1, TfS_9, T.2.2.2.2.2.2.1, Tri_10, Thd_11, Tln_12, Trnd_13))
    else (some (x3, (TfT_6, TfR_7, T.2.2.1, TfA_8, T.2.2.2.2.1, TfS_9, T.2.2.2.2.2.2.1, Tri_10, Thd_11, Tln_12, Trnd_13))))
def d_X5_settledIn (p1 : Int32) (N : Ex) (T : Ex) : Option (Int32 × Ex) :=
    ob1 (d_X0_errorIfNotWaiting p1 N.2.2.2.1 N.2.2.2.2.1) fun r1 =>
    if 0 ≤ r1 then (lp_X5_settledIn_28  N p1 fuel 1 N)
    else (some (r1, T))
set_option maxHeartbeats 4000000 in
set_option maxRecDepth 100000 in
theorem c_X5_settledIn (l : Launch) (D : va_G) (cI cC cE : ClassId) (h0 hh oo : Nat) (aN : Nat → Nat) (aT : Nat → Nat) (aS : Nat → Nat) (sz : Nat) (N : Ex) (T : Ex) (hasS : Int32) (stN : Int32) (stE : Int32) (p1 : Int32) (r0 : Int32) (o_T : Ex) (h : d_X5_settledIn p1 N T = some (r0, o_T)) : Met l yX5_settledIn wsX5_settledIn ({ frames := 5, cells := 0, slots := 0, locals := 116 } : Room) (kP D (kT cI cC cE) [.ref h0, .int p1] (fl [trW h0 hh oo aN aT aS hasS stN stE, exW cI aN N, exW cI aT T]) sz) (kQi D (kT cI cC cE) (fl [trW h0 hh oo aN aT aS hasS stN stE, exW cI aN N, exW cI aT T]) (fl [trW h0 hh oo aN aT aS hasS stN stE, exW cI aN N, exW cI aT o_T]) sz r0) 0 0 (va_A (fl [trW h0 hh oo aN aT aS hasS stN stE, exW cI aN N, exW cI aT T]) sz) := by
  refine kMetI (cc := cX5_settledIn) (maxL := 4) (own := RX5) (by decide) rfl (Nat.le_of_ble_eq_true rfl) rfl ?_
  intro p e s m below meth c A Q hx hb hml hown hts hP hK hD hA hS hname fin ls hl
  have hl : lv_has ls 4 [(0, .ref h0), (1, .int p1)] := hl
  have hiX5 : ∀ w ∈ u_ws RX5 TX5 8, w ∈ wsX5_settledIn := by decide +kernel
  have hL28 : ∀ (k : Nat), ∀ (x3 : Int32) (T : Ex) (H : Heap) (locs : List Loc), va_P D vwCl (fl [trW h0 hh oo aN aT aS hasS stN stE, exW cI aN N, exW cI aT T]) H → va_D A (fl [trW h0 hh oo aN aT aS hasS stN stE, exW cI aN N, exW cI aT T]) → va_S A s.heap H locs → ∀ (ls : Array Slot), lv_has ls 4 [(0, .ref h0), (1, .int p1), (3, .int x3)] → lp_X5_settledIn_28  N p1 k x3 T = some (r0, o_T) → W p l e ({ frames := 5, cells := 0, slots := 0, locals := 116 } : Room) s m [.ref h0, .int p1].toArray below meth c H locs 0 0 Q (F0 m 28 ls []) := by
    intro k
    induction k with
    | zero =>
      intro x3 T H locs hP hD hS ls hl h
      exact k_none h
    | succ k ih =>
      intro x3 T H locs hP hD hS ls hl h
      dsimp only [lp_X5_settledIn_28] at h
      refine lv_iload_n hx hb dX5_settledIn_28 rfl (lv_at hl 2 rfl) ?_
      refine lv_sipush (v := 300) hx hb dX5_settledIn_29 (by decide) ?_
      refine lv_icmp_gt (tgt := 62) hx hb dX5_settledIn_32 (by decide) (fun c4 => ?_) (fun c4 => ?_)
      · have h := (k_iB h).1 c4
        refine lv_bipush (v := (-5)) hx hb dX5_settledIn_62 (by decide) ?_
        obtain ⟨rfl, rfl⟩ := inj2 (Option.some.inj h)
        exact fin _ _ _ _ dX5_settledIn_64 hP hD hS
      · have h := (k_iB h).2 c4
        refine lv_aload_n hx hb dX5_settledIn_35 rfl (lv_at hl 0 rfl) ?_
        refine va_get (ci := 5) (C := RX5) (T := TX5) (N := 8) hx hb hts hiX5 hown hK hP 0 rfl rfl 1 (by decide) (hts (.fieldLink RX5 16 "RiddleTrade" "trial" "LRiddleTrade$Exchange;") (List.mem_of_getElem? (i := 2) rfl)) (fun _ h9 => h9) rfl dX5_settledIn_36 ?_
        obtain ⟨r5, TfT_6, TfR_7, TfA_8, TfS_9, Tri_10, Thd_11, Tln_12, Trnd_13, hu14, h⟩ := ob9_el h
        refine kbi (ci := 0) (q := (RX0, TX0, 7)) (bs := [trW h0 hh oo aN aT aS hasS stN stE, exW cI aN N, exW cI aT T]) (cs := [exW cI aT T]) (cs' := [exW cI aT (TfT_6, TfR_7, T.2.2.1, TfA_8, T.2.2.2.2.1, TfS_9, T.2.2.2.2.2.2.1, Tri_10, Thd_11, Tln_12, Trnd_13)]) (bs1 := [trW h0 hh oo aN aT aS hasS stN stE, exW cI aN N, exW cI aT (TfT_6, TfR_7, T.2.2.1, TfA_8, T.2.2.2.2.1, TfS_9, T.2.2.2.2.2.2.1, Tri_10, Thd_11, Tln_12, Trnd_13)]) ⟨hx, hb, hml, hown, hts⟩ [2] [0, 1] (ce_X0_playRound l D cI cC cE aT _ T r5 TfT_6 TfR_7 TfA_8 TfS_9 Tri_10 Thd_11 Tln_12 Trnd_13 hu14) (cwV 0 hts gX5_settledIn_X0_playRound rfl rfl rfl (by decide +kernel) ⟨Nat.le_of_ble_eq_true rfl, Nat.le_of_ble_eq_true rfl⟩) hK hP hD hS hA rfl rfl rfl rfl rfl rfl rfl rfl rfl hl.1 rfl (Nat.le_of_ble_eq_true rfl) dX5_settledIn_39 ⟨Nat.le_refl 0, Nat.le_refl 0⟩ (fun H locs hP hD hS => ?_)
        refine lv_pop hx hb dX5_settledIn_42 rfl ?_
        refine lv_aload_n hx hb dX5_settledIn_43 rfl (lv_at hl 0 rfl) ?_
        refine va_get (ci := 5) (C := RX5) (T := TX5) (N := 8) hx hb hts hiX5 hown hK hP 0 rfl rfl 1 (by decide) (hts (.fieldLink RX5 16 "RiddleTrade" "trial" "LRiddleTrade$Exchange;") (List.mem_of_getElem? (i := 2) rfl)) (fun _ h9 => h9) rfl dX5_settledIn_44 ?_
        refine lv_iload_n hx hb dX5_settledIn_47 rfl (lv_at hl 1 rfl) ?_
        obtain ⟨r15, hu16, h⟩ := ob1_el h
        refine kbi (ci := 0) (q := (RX0, TX0, 7)) (bs := [trW h0 hh oo aN aT aS hasS stN stE, exW cI aN N, exW cI aT (TfT_6, TfR_7, T.2.2.1, TfA_8, T.2.2.2.2.1, TfS_9, T.2.2.2.2.2.2.1, Tri_10, Thd_11, Tln_12, Trnd_13)]) (cs := [exW cI aT (TfT_6, TfR_7, T.2.2.1, TfA_8, T.2.2.2.2.1, TfS_9, T.2.2.2.2.2.2.1, Tri_10, Thd_11, Tln_12, Trnd_13)]) (cs' := [exW cI aT (TfT_6, TfR_7, T.2.2.1, TfA_8, T.2.2.2.2.1, TfS_9, T.2.2.2.2.2.2.1, Tri_10, Thd_11, Tln_12, Trnd_13)]) (bs1 := [trW h0 hh oo aN aT aS hasS stN stE, exW cI aN N, exW cI aT (TfT_6, TfR_7, T.2.2.1, TfA_8, T.2.2.2.2.1, TfS_9, T.2.2.2.2.2.2.1, Tri_10, Thd_11, Tln_12, Trnd_13)]) ⟨hx, hb, hml, hown, hts⟩ [2] [0, 1] (ce_X0_errorIfNotWaiting l D cI cC cE aT _ (TfT_6, TfR_7, T.2.2.1, TfA_8, T.2.2.2.2.1, TfS_9, T.2.2.2.2.2.2.1, Tri_10, Thd_11, Tln_12, Trnd_13) p1 r15 hu16) (cwV 1 hts gX5_settledIn_X0_errorIfNotWaiting rfl rfl rfl (by decide +kernel) ⟨Nat.le_of_ble_eq_true rfl, Nat.le_of_ble_eq_true rfl⟩) hK hP hD hS hA rfl rfl rfl rfl rfl rfl rfl rfl rfl hl.1 rfl (Nat.le_of_ble_eq_true rfl) dX5_settledIn_48 ⟨Nat.le_refl 0, Nat.le_refl 0⟩ (fun H locs hP hD hS => ?_)
        refine lv_if_ge (tgt := 56) hx hb dX5_settledIn_51 (by decide) (fun c17 => ?_) (fun c17 => ?_)
        · have h := (k_iB h).1 c17
          refine lv_iinc (v := (x3 + 1)) (lv' := [(3, .int (x3 + 1)), (0, .ref h0), (1, .int p1)]) hx hb dX5_settledIn_56 hl (k := 2) rfl rfl (by decide) rfl (fun ls hl => ?_)
          refine lv_goto (tgt := 28) hx hb dX5_settledIn_59 (by decide) ?_
          exact ih (x3 + 1) (TfT_6, TfR_7, T.2.2.1, TfA_8, T.2.2.2.2.1, TfS_9, T.2.2.2.2.2.2.1, Tri_10, Thd_11, Tln_12, Trnd_13) _ _ hP hD hS _ (lv_sub hl [1, 2, 0] rfl) h
        · have h := (k_iB h).2 c17
          refine lv_iload_n hx hb dX5_settledIn_54 rfl (lv_at hl 2 rfl) ?_
          obtain ⟨rfl, rfl⟩ := inj2 (Option.some.inj h)
          exact fin _ _ _ _ dX5_settledIn_55 hP hD hS
  dsimp only [d_X5_settledIn] at h
  refine lv_aload_n hx hb dX5_settledIn_0 rfl (lv_at hl 0 rfl) ?_
  refine va_get (ci := 5) (C := RX5) (T := TX5) (N := 8) hx hb hts hiX5 hown hK hP 0 rfl rfl 0 (by decide) (hts (.fieldLink RX5 10 "RiddleTrade" "now" "LRiddleTrade$Exchange;") (List.mem_of_getElem? (i := 1) rfl)) (fun _ h9 => h9) rfl dX5_settledIn_1 ?_
  refine lv_iload_n hx hb dX5_settledIn_4 rfl (lv_at hl 1 rfl) ?_
  obtain ⟨r1, hu2, h⟩ := ob1_el h
  refine kbi (ci := 0) (q := (RX0, TX0, 7)) (bs := [trW h0 hh oo aN aT aS hasS stN stE, exW cI aN N, exW cI aT T]) (cs := [exW cI aN N]) (cs' := [exW cI aN N]) (bs1 := [trW h0 hh oo aN aT aS hasS stN stE, exW cI aN N, exW cI aT T]) ⟨hx, hb, hml, hown, hts⟩ [1] [0, 2] (ce_X0_errorIfNotWaiting l D cI cC cE aN _ N p1 r1 hu2) (cwV 1 hts gX5_settledIn_X0_errorIfNotWaiting rfl rfl rfl (by decide +kernel) ⟨Nat.le_of_ble_eq_true rfl, Nat.le_of_ble_eq_true rfl⟩) hK hP hD hS hA rfl rfl rfl rfl rfl rfl rfl rfl rfl hl.1 rfl (Nat.le_of_ble_eq_true rfl) dX5_settledIn_5 ⟨Nat.le_refl 0, Nat.le_refl 0⟩ (fun H locs hP hD hS => ?_)
  refine lv_istore_n (lv' := [(2, .int r1), (0, .ref h0), (1, .int p1)]) hx hb dX5_settledIn_8 rfl hl (by decide) rfl (fun ls hl => ?_)
  refine lv_iload_n hx hb dX5_settledIn_9 rfl (lv_at hl 0 rfl) ?_
  refine lv_if_ge (tgt := 15) hx hb dX5_settledIn_10 (by decide) (fun c3 => ?_) (fun c3 => ?_)
  · have h := (k_iB h).1 c3
    refine lv_aload_n hx hb dX5_settledIn_15 rfl (lv_at hl 1 rfl) ?_
    refine va_get (ci := 5) (C := RX5) (T := TX5) (N := 8) hx hb hts hiX5 hown hK hP 0 rfl rfl 1 (by decide) (hts (.fieldLink RX5 16 "RiddleTrade" "trial" "LRiddleTrade$Exchange;") (List.mem_of_getElem? (i := 2) rfl)) (fun _ h9 => h9) rfl dX5_settledIn_16 ?_
    refine lv_aload_n hx hb dX5_settledIn_19 rfl (lv_at hl 1 rfl) ?_
    refine va_get (ci := 5) (C := RX5) (T := TX5) (N := 8) hx hb hts hiX5 hown hK hP 0 rfl rfl 0 (by decide) (hts (.fieldLink RX5 10 "RiddleTrade" "now" "LRiddleTrade$Exchange;") (List.mem_of_getElem? (i := 1) rfl)) (fun _ h9 => h9) rfl dX5_settledIn_20 ?_
    refine kbv (ci := 0) (q := (RX0, TX0, 7)) (bs := [trW h0 hh oo aN aT aS hasS stN stE, exW cI aN N, exW cI aT T]) (cs := [exW cI aT T, exW cI aN N]) (cs' := [exW cI aT N, exW cI aN N]) (bs1 := [trW h0 hh oo aN aT aS hasS stN stE, exW cI aN N, exW cI aT N]) ⟨hx, hb, hml, hown, hts⟩ [2, 1] [0] (ce_X0_copyFrom l D cI cC cE aT aN _ T N ) (cwV 1 hts gX5_settledIn_X0_copyFrom rfl rfl rfl (by decide +kernel) ⟨Nat.le_of_ble_eq_true rfl, Nat.le_of_ble_eq_true rfl⟩) hK hP hD hS hA rfl rfl rfl rfl rfl rfl rfl rfl rfl hl.1 rfl (Nat.le_of_ble_eq_true rfl) dX5_settledIn_23 ⟨Nat.le_refl 0, Nat.le_refl 0⟩ (fun H locs hP hD hS => ?_)
    refine lv_iconst (v := 1) hx hb dX5_settledIn_26 (by decide) ?_
    refine lv_istore_n (lv' := [(3, .int 1), (2, .int r1), (0, .ref h0), (1, .int p1)]) hx hb dX5_settledIn_27 rfl hl (by decide) rfl (fun ls hl => ?_)
    exact hL28   fuel 1 N _ _ hP hD hS _ (lv_sub hl [2, 3, 0] rfl) h
  · have h := (k_iB h).2 c3
    refine lv_iload_n hx hb dX5_settledIn_13 rfl (lv_at hl 0 rfl) ?_
    obtain ⟨rfl, rfl⟩ := inj2 (Option.some.inj h)
    exact fin _ _ _ _ dX5_settledIn_14 hP hD hS
def lp_X5_ifRounds_42 (N : Ex) (p1 : Int32) (p2 : Int32) : Nat → Int32 → Int32 → Ex → Option (Int32 × Ex)
  | 0 => fun _ _ _ => none
  | k + 1 => fun x3 x4 T =>
    if p1 ≤ x4 then (some (x3, T))
    else (ob9 (d_X0_playRound T.1 T.2.1 T.2.2.2.1 T.2.2.2.2.2.1 T.2.2.2.2.2.2.1 T.2.2.2.2.2.2.2.1 T.2.2.2.2.2.2.2.2.1 T.2.2.2.2.2.2.2.2.2.1 T.2.2.2.2.2.2.2.2.2.2) fun r5 TfT_6 TfR_7 TfA_8 TfS_9 Tri_10 Thd_11 Tln_12 Trnd_13 =>
    (lp_X5_ifRounds_42  N p1 p2 k) (x3 + r5) (x4 + 1) (TfT_6, TfR_7, T.2.2.1, TfA_8, T.2.2.2.2.1, TfS_9, T.2.2.2.2.2.2.1, Tri_10, Thd_11, Tln_12, Trnd_13))
def d_X5_ifRounds (p1 : Int32) (p2 : Int32) (N : Ex) (T : Ex) : Option (Int32 × Ex) :=
    if p1 < 1 then (some ((-2), T))
    else (if p1 ≤ 99 then (if p2 = 0 then (lp_X5_ifRounds_42  N p1 p2 fuel 0 0 N)
    else (ob2 (d_X0_setScalesRight N.2.2.2.2.2.1) fun r15 TfS_16 =>
    lp_X5_ifRounds_42  N p1 p2 fuel 0 0 (N.1, N.2.1, N.2.2.1, N.2.2.2.1, N.2.2.2.2.1, TfS_16, N.2.2.2.2.2.2.1, N.2.2.2.2.2.2.2.1, N.2.2.2.2.2.2.2.2.1, N.2.2.2.2.2.2.2.2.2.1, N.2.2.2.2.2.2.2.2.2.2)))
    else (some ((-2), T)))
set_option maxHeartbeats 4000000 in
set_option maxRecDepth 100000 in
theorem c_X5_ifRounds (l : Launch) (D : va_G) (cI cC cE : ClassId) (h0 hh oo : Nat) (aN : Nat → Nat) (aT : Nat → Nat) (aS : Nat → Nat) (sz : Nat) (N : Ex) (T : Ex) (hasS : Int32) (stN : Int32) (stE : Int32) (p1 : Int32) (p2 : Int32) (r0 : Int32) (o_T : Ex) (h : d_X5_ifRounds p1 p2 N T = some (r0, o_T)) : Met l yX5_ifRounds wsX5_ifRounds ({ frames := 5, cells := 0, slots := 0, locals := 116 } : Room) (kP D (kT cI cC cE) [.ref h0, .int p1, .int p2] (fl [trW h0 hh oo aN aT aS hasS stN stE, exW cI aN N, exW cI aT T]) sz) (kQi D (kT cI cC cE) (fl [trW h0 hh oo aN aT aS hasS stN stE, exW cI aN N, exW cI aT T]) (fl [trW h0 hh oo aN aT aS hasS stN stE, exW cI aN N, exW cI aT o_T]) sz r0) 0 0 (va_A (fl [trW h0 hh oo aN aT aS hasS stN stE, exW cI aN N, exW cI aT T]) sz) := by
  refine kMetI (cc := cX5_ifRounds) (maxL := 5) (own := RX5) (by decide) rfl (Nat.le_of_ble_eq_true rfl) rfl ?_
  intro p e s m below meth c A Q hx hb hml hown hts hP hK hD hA hS hname fin ls hl
  have hl : lv_has ls 5 [(0, .ref h0), (1, .int p1), (2, .int p2)] := hl
  have hiX5 : ∀ w ∈ u_ws RX5 TX5 8, w ∈ wsX5_ifRounds := by decide +kernel
  have hL42 : ∀ (k : Nat), ∀ (x3 : Int32) (x4 : Int32) (T : Ex) (H : Heap) (locs : List Loc), va_P D vwCl (fl [trW h0 hh oo aN aT aS hasS stN stE, exW cI aN N, exW cI aT T]) H → va_D A (fl [trW h0 hh oo aN aT aS hasS stN stE, exW cI aN N, exW cI aT T]) → va_S A s.heap H locs → ∀ (ls : Array Slot), lv_has ls 5 [(0, .ref h0), (1, .int p1), (3, .int x3), (4, .int x4)] → lp_X5_ifRounds_42  N p1 p2 k x3 x4 T = some (r0, o_T) → W p l e ({ frames := 5, cells := 0, slots := 0, locals := 116 } : Room) s m [.ref h0, .int p1, .int p2].toArray below meth c H locs 0 0 Q (F0 m 42 ls []) := by
    intro k
    induction k with
    | zero =>
      intro x3 x4 T H locs hP hD hS ls hl h
      exact k_none h
    | succ k ih =>
      intro x3 x4 T H locs hP hD hS ls hl h
      dsimp only [lp_X5_ifRounds_42] at h
      refine lv_iload hx hb dX5_ifRounds_42 (lv_at hl 3 rfl) ?_
      refine lv_iload_n hx hb dX5_ifRounds_44 rfl (lv_at hl 1 rfl) ?_
      refine lv_icmp_ge (tgt := 64) hx hb dX5_ifRounds_45 (by decide) (fun c4 => ?_) (fun c4 => ?_)
      · have h := (k_iB h).1 c4
        refine lv_iload_n hx hb dX5_ifRounds_64 rfl (lv_at hl 2 rfl) ?_
        obtain ⟨rfl, rfl⟩ := inj2 (Option.some.inj h)
        exact fin _ _ _ _ dX5_ifRounds_65 hP hD hS
      · have h := (k_iB h).2 c4
        refine lv_iload_n hx hb dX5_ifRounds_48 rfl (lv_at hl 2 rfl) ?_
        refine lv_aload_n hx hb dX5_ifRounds_49 rfl (lv_at hl 0 rfl) ?_
        refine va_get (ci := 5) (C := RX5) (T := TX5) (N := 8) hx hb hts hiX5 hown hK hP 0 rfl rfl 1 (by decide) (hts (.fieldLink RX5 16 "RiddleTrade" "trial" "LRiddleTrade$Exchange;") (List.mem_of_getElem? (i := 1) rfl)) (fun _ h9 => h9) rfl dX5_ifRounds_50 ?_
        obtain ⟨r5, TfT_6, TfR_7, TfA_8, TfS_9, Tri_10, Thd_11, Tln_12, Trnd_13, hu14, h⟩ := ob9_el h
        refine kbi (ci := 0) (q := (RX0, TX0, 7)) (bs := [trW h0 hh oo aN aT aS hasS stN stE, exW cI aN N, exW cI aT T]) (cs := [exW cI aT T]) (cs' := [exW cI aT (TfT_6, TfR_7, T.2.2.1, TfA_8, T.2.2.2.2.1, TfS_9, T.2.2.2.2.2.2.1, Tri_10, Thd_11, Tln_12, Trnd_13)]) (bs1 := [trW h0 hh oo aN aT aS hasS stN stE, exW cI aN N, exW cI aT (TfT_6, TfR_7, T.2.2.1, TfA_8, T.2.2.2.2.1, TfS_9, T.2.2.2.2.2.2.1, Tri_10, Thd_11, Tln_12, Trnd_13)]) ⟨hx, hb, hml, hown, hts⟩ [2] [0, 1] (ce_X0_playRound l D cI cC cE aT _ T r5 TfT_6 TfR_7 TfA_8 TfS_9 Tri_10 Thd_11 Tln_12 Trnd_13 hu14) (cwV 0 hts gX5_ifRounds_X0_playRound rfl rfl rfl (by decide +kernel) ⟨Nat.le_of_ble_eq_true rfl, Nat.le_of_ble_eq_true rfl⟩) hK hP hD hS hA rfl rfl rfl rfl rfl rfl rfl rfl rfl hl.1 rfl (Nat.le_of_ble_eq_true rfl) dX5_ifRounds_53 ⟨Nat.le_refl 0, Nat.le_refl 0⟩ (fun H locs hP hD hS => ?_)
        refine lv_iadd hx hb dX5_ifRounds_56 ?_
        refine lv_istore_n (lv' := [(3, .int (x3 + r5)), (0, .ref h0), (1, .int p1), (4, .int x4)]) hx hb dX5_ifRounds_57 rfl hl (by decide) rfl (fun ls hl => ?_)
        refine lv_iinc (v := (x4 + 1)) (lv' := [(4, .int (x4 + 1)), (3, .int (x3 + r5)), (0, .ref h0), (1, .int p1)]) hx hb dX5_ifRounds_58 hl (k := 3) rfl rfl (by decide) rfl (fun ls hl => ?_)
        refine lv_goto (tgt := 42) hx hb dX5_ifRounds_61 (by decide) ?_
        exact ih (x3 + r5) (x4 + 1) (TfT_6, TfR_7, T.2.2.1, TfA_8, T.2.2.2.2.1, TfS_9, T.2.2.2.2.2.2.1, Tri_10, Thd_11, Tln_12, Trnd_13) _ _ hP hD hS _ (lv_sub hl [2, 3, 1, 0] rfl) h
  dsimp only [d_X5_ifRounds] at h
  refine lv_iload_n hx hb dX5_ifRounds_0 rfl (lv_at hl 1 rfl) ?_
  refine lv_iconst (v := 1) hx hb dX5_ifRounds_1 (by decide) ?_
  refine lv_icmp_lt (tgt := 11) hx hb dX5_ifRounds_2 (by decide) (fun c1 => ?_) (fun c1 => ?_)
  · have h := (k_iB h).1 c1
    refine lv_bipush (v := (-2)) hx hb dX5_ifRounds_11 (by decide) ?_
    obtain ⟨rfl, rfl⟩ := inj2 (Option.some.inj h)
    exact fin _ _ _ _ dX5_ifRounds_13 hP hD hS
  · have h := (k_iB h).2 c1
    refine lv_iload_n hx hb dX5_ifRounds_5 rfl (lv_at hl 1 rfl) ?_
    refine lv_bipush (v := 99) hx hb dX5_ifRounds_6 (by decide) ?_
    refine lv_icmp_le (tgt := 14) hx hb dX5_ifRounds_8 (by decide) (fun c2 => ?_) (fun c2 => ?_)
    · have h := (k_iB h).1 c2
      refine lv_aload_n hx hb dX5_ifRounds_14 rfl (lv_at hl 0 rfl) ?_
      refine va_get (ci := 5) (C := RX5) (T := TX5) (N := 8) hx hb hts hiX5 hown hK hP 0 rfl rfl 1 (by decide) (hts (.fieldLink RX5 16 "RiddleTrade" "trial" "LRiddleTrade$Exchange;") (List.mem_of_getElem? (i := 1) rfl)) (fun _ h9 => h9) rfl dX5_ifRounds_15 ?_
      refine lv_aload_n hx hb dX5_ifRounds_18 rfl (lv_at hl 0 rfl) ?_
      refine va_get (ci := 5) (C := RX5) (T := TX5) (N := 8) hx hb hts hiX5 hown hK hP 0 rfl rfl 0 (by decide) (hts (.fieldLink RX5 10 "RiddleTrade" "now" "LRiddleTrade$Exchange;") (List.mem_of_getElem? (i := 2) rfl)) (fun _ h9 => h9) rfl dX5_ifRounds_19 ?_
      refine kbv (ci := 0) (q := (RX0, TX0, 7)) (bs := [trW h0 hh oo aN aT aS hasS stN stE, exW cI aN N, exW cI aT T]) (cs := [exW cI aT T, exW cI aN N]) (cs' := [exW cI aT N, exW cI aN N]) (bs1 := [trW h0 hh oo aN aT aS hasS stN stE, exW cI aN N, exW cI aT N]) ⟨hx, hb, hml, hown, hts⟩ [2, 1] [0] (ce_X0_copyFrom l D cI cC cE aT aN _ T N ) (cwV 1 hts gX5_ifRounds_X0_copyFrom rfl rfl rfl (by decide +kernel) ⟨Nat.le_of_ble_eq_true rfl, Nat.le_of_ble_eq_true rfl⟩) hK hP hD hS hA rfl rfl rfl rfl rfl rfl rfl rfl rfl hl.1 rfl (Nat.le_of_ble_eq_true rfl) dX5_ifRounds_22 ⟨Nat.le_refl 0, Nat.le_refl 0⟩ (fun H locs hP hD hS => ?_)
      refine lv_iload_n hx hb dX5_ifRounds_25 rfl (lv_at hl 2 rfl) ?_
      refine lv_if_eq (tgt := 37) hx hb dX5_ifRounds_26 (by decide) (fun c3 => ?_) (fun c3 => ?_)
      · have h := (k_iB h).1 c3
        refine lv_iconst (v := 0) hx hb dX5_ifRounds_37 (by decide) ?_
        refine lv_istore_n (lv' := [(3, .int 0), (0, .ref h0), (1, .int p1), (2, .int p2)]) hx hb dX5_ifRounds_38 rfl hl (by decide) rfl (fun ls hl => ?_)
        refine lv_iconst (v := 0) hx hb dX5_ifRounds_39 (by decide) ?_
        refine lv_istore (lv' := [(4, .int 0), (3, .int 0), (0, .ref h0), (1, .int p1), (2, .int p2)]) hx hb dX5_ifRounds_40 hl (by decide) rfl (fun ls hl => ?_)
        exact hL42   fuel 0 0 N _ _ hP hD hS _ (lv_sub hl [2, 3, 1, 0] rfl) h
      · have h := (k_iB h).2 c3
        refine lv_aload_n hx hb dX5_ifRounds_29 rfl (lv_at hl 0 rfl) ?_
        refine va_get (ci := 5) (C := RX5) (T := TX5) (N := 8) hx hb hts hiX5 hown hK hP 0 rfl rfl 1 (by decide) (hts (.fieldLink RX5 16 "RiddleTrade" "trial" "LRiddleTrade$Exchange;") (List.mem_of_getElem? (i := 1) rfl)) (fun _ h9 => h9) rfl dX5_ifRounds_30 ?_
        obtain ⟨r15, TfS_16, hu17, h⟩ := ob2_el h
        refine kbi (ci := 0) (q := (RX0, TX0, 7)) (bs := [trW h0 hh oo aN aT aS hasS stN stE, exW cI aN N, exW cI aT N]) (cs := [exW cI aT N]) (cs' := [exW cI aT (N.1, N.2.1, N.2.2.1, N.2.2.2.1, N.2.2.2.2.1, TfS_16, N.2.2.2.2.2.2.1, N.2.2.2.2.2.2.2.1, N.2.2.2.2.2.2.2.2.1, N.2.2.2.2.2.2.2.2.2.1, N.2.2.2.2.2.2.2.2.2.2)]) (bs1 := [trW h0 hh oo aN aT aS hasS stN stE, exW cI aN N, exW cI aT (N.1, N.2.1, N.2.2.1, N.2.2.2.1, N.2.2.2.2.1, TfS_16, N.2.2.2.2.2.2.1, N.2.2.2.2.2.2.2.1, N.2.2.2.2.2.2.2.2.1, N.2.2.2.2.2.2.2.2.2.1, N.2.2.2.2.2.2.2.2.2.2)]) ⟨hx, hb, hml, hown, hts⟩ [2] [0, 1] (ce_X0_setScalesRight l D cI cC cE aT _ N r15 TfS_16 hu17) (cwV 0 hts gX5_ifRounds_X0_setScalesRight rfl rfl rfl (by decide +kernel) ⟨Nat.le_of_ble_eq_true rfl, Nat.le_of_ble_eq_true rfl⟩) hK hP hD hS hA rfl rfl rfl rfl rfl rfl rfl rfl rfl hl.1 rfl (Nat.le_of_ble_eq_true rfl) dX5_ifRounds_33 ⟨Nat.le_refl 0, Nat.le_refl 0⟩ (fun H locs hP hD hS => ?_)
        refine lv_pop hx hb dX5_ifRounds_36 rfl ?_
        refine lv_iconst (v := 0) hx hb dX5_ifRounds_37 (by decide) ?_
        refine lv_istore_n (lv' := [(3, .int 0), (0, .ref h0), (1, .int p1), (2, .int p2)]) hx hb dX5_ifRounds_38 rfl hl (by decide) rfl (fun ls hl => ?_)
        refine lv_iconst (v := 0) hx hb dX5_ifRounds_39 (by decide) ?_
        refine lv_istore (lv' := [(4, .int 0), (3, .int 0), (0, .ref h0), (1, .int p1), (2, .int p2)]) hx hb dX5_ifRounds_40 hl (by decide) rfl (fun ls hl => ?_)
        exact hL42   fuel 0 0 (N.1, N.2.1, N.2.2.1, N.2.2.2.1, N.2.2.2.2.1, TfS_16, N.2.2.2.2.2.2.1, N.2.2.2.2.2.2.2.1, N.2.2.2.2.2.2.2.2.1, N.2.2.2.2.2.2.2.2.2.1, N.2.2.2.2.2.2.2.2.2.2) _ _ hP hD hS _ (lv_sub hl [2, 3, 1, 0] rfl) h
    · have h := (k_iB h).2 c2
      refine lv_bipush (v := (-2)) hx hb dX5_ifRounds_11 (by decide) ?_
      obtain ⟨rfl, rfl⟩ := inj2 (Option.some.inj h)
      exact fin _ _ _ _ dX5_ifRounds_13 hP hD hS
def d_X5_richest (N : Ex) : Option (Int32) :=
    ob1 (d_X0_richestTrader N.1) fun r1 =>
    some r1
set_option maxHeartbeats 4000000 in
set_option maxRecDepth 100000 in
theorem c_X5_richest (l : Launch) (D : va_G) (cI cC cE : ClassId) (h0 hh oo : Nat) (aN : Nat → Nat) (aT : Nat → Nat) (aS : Nat → Nat) (sz : Nat) (N : Ex) (hasS : Int32) (stN : Int32) (stE : Int32) (r0 : Int32) (h : d_X5_richest N = some r0) : Met l yX5_richest wsX5_richest ({ frames := 2, cells := 0, slots := 0, locals := 45 } : Room) (kP D (kT cI cC cE) [.ref h0] (fl [trW h0 hh oo aN aT aS hasS stN stE, exW cI aN N]) sz) (kQi D (kT cI cC cE) (fl [trW h0 hh oo aN aT aS hasS stN stE, exW cI aN N]) (fl [trW h0 hh oo aN aT aS hasS stN stE, exW cI aN N]) sz r0) 0 0 (va_A (fl [trW h0 hh oo aN aT aS hasS stN stE, exW cI aN N]) sz) := by
  refine kMetI (cc := cX5_richest) (maxL := 1) (own := RX5) (by decide) rfl (Nat.le_of_ble_eq_true rfl) rfl ?_
  intro p e s m below meth c A Q hx hb hml hown hts hP hK hD hA hS hname fin ls hl
  have hl : lv_has ls 1 [(0, .ref h0)] := hl
  have hiX5 : ∀ w ∈ u_ws RX5 TX5 8, w ∈ wsX5_richest := by decide +kernel
  dsimp only [d_X5_richest] at h
  refine lv_aload_n hx hb dX5_richest_0 rfl (lv_at hl 0 rfl) ?_
  refine va_get (ci := 5) (C := RX5) (T := TX5) (N := 8) hx hb hts hiX5 hown hK hP 0 rfl rfl 0 (by decide) (hts (.fieldLink RX5 10 "RiddleTrade" "now" "LRiddleTrade$Exchange;") (List.mem_of_getElem? (i := 1) rfl)) (fun _ h9 => h9) rfl dX5_richest_1 ?_
  obtain ⟨r1, hu2, h⟩ := ob1_el h
  refine kbi (ci := 0) (q := (RX0, TX0, 7)) (bs := [trW h0 hh oo aN aT aS hasS stN stE, exW cI aN N]) (cs := [exW cI aN N]) (cs' := [exW cI aN N]) (bs1 := [trW h0 hh oo aN aT aS hasS stN stE, exW cI aN N]) ⟨hx, hb, hml, hown, hts⟩ [1] [0] (ce_X0_richestTrader l D cI cC cE aN _ N r1 hu2) (cwV 0 hts gX5_richest_X0_richestTrader rfl rfl rfl (by decide +kernel) ⟨Nat.le_of_ble_eq_true rfl, Nat.le_of_ble_eq_true rfl⟩) hK hP hD hS hA rfl rfl rfl rfl rfl rfl rfl rfl rfl hl.1 rfl (Nat.le_of_ble_eq_true rfl) dX5_richest_4 ⟨Nat.le_refl 0, Nat.le_refl 0⟩ (fun H locs hP hD hS => ?_)
  obtain rfl := Option.some.inj h
  exact fin _ _ _ _ dX5_richest_7 hP hD hS
def d_X5_account (p1 : Int32) (N : Ex) : Option (Int32) :=
    ob1 (d_X0_tellAccount p1 N.1 N.2.1 N.2.2.2.1 N.2.2.2.2.1) fun r1 =>
    some r1
set_option maxHeartbeats 4000000 in
set_option maxRecDepth 100000 in
theorem c_X5_account (l : Launch) (D : va_G) (cI cC cE : ClassId) (h0 hh oo : Nat) (aN : Nat → Nat) (aT : Nat → Nat) (aS : Nat → Nat) (sz : Nat) (N : Ex) (hasS : Int32) (stN : Int32) (stE : Int32) (p1 : Int32) (r0 : Int32) (h : d_X5_account p1 N = some r0) : Met l yX5_account wsX5_account ({ frames := 2, cells := 0, slots := 0, locals := 47 } : Room) (kP D (kT cI cC cE) [.ref h0, .int p1] (fl [trW h0 hh oo aN aT aS hasS stN stE, exW cI aN N]) sz) (kQi D (kT cI cC cE) (fl [trW h0 hh oo aN aT aS hasS stN stE, exW cI aN N]) (fl [trW h0 hh oo aN aT aS hasS stN stE, exW cI aN N]) sz r0) 0 0 (va_A (fl [trW h0 hh oo aN aT aS hasS stN stE, exW cI aN N]) sz) := by
  refine kMetI (cc := cX5_account) (maxL := 2) (own := RX5) (by decide) rfl (Nat.le_of_ble_eq_true rfl) rfl ?_
  intro p e s m below meth c A Q hx hb hml hown hts hP hK hD hA hS hname fin ls hl
  have hl : lv_has ls 2 [(0, .ref h0), (1, .int p1)] := hl
  have hiX5 : ∀ w ∈ u_ws RX5 TX5 8, w ∈ wsX5_account := by decide +kernel
  dsimp only [d_X5_account] at h
  refine lv_aload_n hx hb dX5_account_0 rfl (lv_at hl 0 rfl) ?_
  refine va_get (ci := 5) (C := RX5) (T := TX5) (N := 8) hx hb hts hiX5 hown hK hP 0 rfl rfl 0 (by decide) (hts (.fieldLink RX5 10 "RiddleTrade" "now" "LRiddleTrade$Exchange;") (List.mem_of_getElem? (i := 1) rfl)) (fun _ h9 => h9) rfl dX5_account_1 ?_
  refine lv_iload_n hx hb dX5_account_4 rfl (lv_at hl 1 rfl) ?_
  obtain ⟨r1, hu2, h⟩ := ob1_el h
  refine kbi (ci := 0) (q := (RX0, TX0, 7)) (bs := [trW h0 hh oo aN aT aS hasS stN stE, exW cI aN N]) (cs := [exW cI aN N]) (cs' := [exW cI aN N]) (bs1 := [trW h0 hh oo aN aT aS hasS stN stE, exW cI aN N]) ⟨hx, hb, hml, hown, hts⟩ [1] [0] (ce_X0_tellAccount l D cI cC cE aN _ N p1 r1 hu2) (cwV 1 hts gX5_account_X0_tellAccount rfl rfl rfl (by decide +kernel) ⟨Nat.le_of_ble_eq_true rfl, Nat.le_of_ble_eq_true rfl⟩) hK hP hD hS hA rfl rfl rfl rfl rfl rfl rfl rfl rfl hl.1 rfl (Nat.le_of_ble_eq_true rfl) dX5_account_5 ⟨Nat.le_refl 0, Nat.le_refl 0⟩ (fun H locs hP hD hS => ?_)
  obtain rfl := Option.some.inj h
  exact fin _ _ _ _ dX5_account_8 hP hD hS
def d_X5_count (p1 : Int32) (N : Ex) (sze : Int32) (len : Int32) : Option (Int32) :=
    if p1 = 18 then (some (d_X1_size sze))
    else (if p1 = 19 then (some (d_X2_textLength len))
    else (ob1 (d_X0_tellCount p1 N.1 N.2.1 N.2.2.1 N.2.2.2.1 N.2.2.2.2.1 N.2.2.2.2.2.1 N.2.2.2.2.2.2.1 N.2.2.2.2.2.2.2.2.2.1 N.2.2.2.2.2.2.2.2.2.2) fun r4 =>
    some r4))
set_option maxHeartbeats 4000000 in
set_option maxRecDepth 100000 in
theorem c_X5_count (l : Launch) (D : va_G) (cI cC cE : ClassId) (h0 hh oo hr o1 o2 o3 : Nat) (aN : Nat → Nat) (aT : Nat → Nat) (aS : Nat → Nat) (aH : Nat → Nat → Nat) (sz : Nat) (N : Ex) (old : Int32) (sze : Int32) (ft : Nat → Int32) (fG : Nat → Int32) (rG : Int32) (len : Int32) (pos : Int32) (bad : Int32) (hasS : Int32) (stN : Int32) (stE : Int32) (p1 : Int32) (r0 : Int32) (h : d_X5_count p1 N sze len = some r0) : Met l yX5_count wsX5_count ({ frames := 3, cells := 0, slots := 0, locals := 68 } : Room) (kP D (kT cI cC cE) [.ref h0, .int p1] (fl [trW h0 hh oo aN aT aS hasS stN stE, exW cI aN N, w_X1_stateAt cI cC cE hh hr aH old sze, ofW cI cC oo o1 o2 o3 ft fG rG len pos bad]) sz) (kQi D (kT cI cC cE) (fl [trW h0 hh oo aN aT aS hasS stN stE, exW cI aN N, w_X1_stateAt cI cC cE hh hr aH old sze, ofW cI cC oo o1 o2 o3 ft fG rG len pos bad]) (fl [trW h0 hh oo aN aT aS hasS stN stE, exW cI aN N, w_X1_stateAt cI cC cE hh hr aH old sze, ofW cI cC oo o1 o2 o3 ft fG rG len pos bad]) sz r0) 0 0 (va_A (fl [trW h0 hh oo aN aT aS hasS stN stE, exW cI aN N, w_X1_stateAt cI cC cE hh hr aH old sze, ofW cI cC oo o1 o2 o3 ft fG rG len pos bad]) sz) := by
  refine kMetI (cc := cX5_count) (maxL := 2) (own := RX5) (by decide) rfl (Nat.le_of_ble_eq_true rfl) rfl ?_
  intro p e s m below meth c A Q hx hb hml hown hts hP hK hD hA hS hname fin ls hl
  have hl : lv_has ls 2 [(0, .ref h0), (1, .int p1)] := hl
  have hiX5 : ∀ w ∈ u_ws RX5 TX5 8, w ∈ wsX5_count := by decide +kernel
  dsimp only [d_X5_count] at h
  refine lv_iload_n hx hb dX5_count_0 rfl (lv_at hl 1 rfl) ?_
  by_cases c2 : p1 = 18
  · have h := (k_iB h).1 c2
    refine lv_lookup (off := 27) (tgt := 28) hx hb dX5_count_1 (by decide) (by show Op.lookupswitch.offset [(18, 27), (19, 35)] (43) _ = _; rw [c2]; rfl) (by decide) ?_
    refine lv_aload_n hx hb dX5_count_28 rfl (lv_at hl 0 rfl) ?_
    refine va_get (ci := 5) (C := RX5) (T := TX5) (N := 8) hx hb hts hiX5 hown hK hP 0 rfl rfl 3 (by decide) (hts (.fieldLink RX5 25 "RiddleTrade" "history" "LRiddleTrade$History;") (List.mem_of_getElem? (i := 1) rfl)) (fun _ h9 => h9) rfl dX5_count_29 ?_
    refine kbi (ci := 1) (q := (RX1, TX1, 3)) (bs := [trW h0 hh oo aN aT aS hasS stN stE, exW cI aN N, w_X1_stateAt cI cC cE hh hr aH old sze, ofW cI cC oo o1 o2 o3 ft fG rG len pos bad]) (cs := [w_X1_stateAt cI cC cE hh hr aH old sze]) (cs' := [w_X1_stateAt cI cC cE hh hr aH old sze]) (bs1 := [trW h0 hh oo aN aT aS hasS stN stE, exW cI aN N, w_X1_stateAt cI cC cE hh hr aH old sze, ofW cI cC oo o1 o2 o3 ft fG rG len pos bad]) ⟨hx, hb, hml, hown, hts⟩ [2] [0, 1, 3] (c_X1_size l D cI cC cE hh hr aH _ old sze (d_X1_size sze) rfl) (cwV 0 hts gX5_count_X1_size rfl rfl rfl (by decide +kernel) ⟨Nat.le_of_ble_eq_true rfl, Nat.le_of_ble_eq_true rfl⟩) hK hP hD hS hA rfl rfl rfl rfl rfl rfl rfl rfl rfl hl.1 rfl (Nat.le_of_ble_eq_true rfl) dX5_count_32 ⟨Nat.le_refl 0, Nat.le_refl 0⟩ (fun H locs hP hD hS => ?_)
    obtain rfl := Option.some.inj h
    exact fin _ _ _ _ dX5_count_35 hP hD hS
  · have h := (k_iB h).2 c2
    by_cases c3 : p1 = 19
    · have h := (k_iB h).1 c3
      refine lv_lookup (off := 35) (tgt := 36) hx hb dX5_count_1 (by decide) (by show Op.lookupswitch.offset [(18, 27), (19, 35)] (43) _ = _; rw [lv_osw (a := 18) c2 rfl, c3]; rfl) (by decide) ?_
      refine lv_aload_n hx hb dX5_count_36 rfl (lv_at hl 0 rfl) ?_
      refine va_get (ci := 5) (C := RX5) (T := TX5) (N := 8) hx hb hts hiX5 hown hK hP 0 rfl rfl 4 (by decide) (hts (.fieldLink RX5 32 "RiddleTrade" "offers" "LRiddleTrade$Offers;") (List.mem_of_getElem? (i := 2) rfl)) (fun _ h9 => h9) rfl dX5_count_37 ?_
      refine kbi (ci := 2) (q := (RX2, TX2, 5)) (bs := [trW h0 hh oo aN aT aS hasS stN stE, exW cI aN N, w_X1_stateAt cI cC cE hh hr aH old sze, ofW cI cC oo o1 o2 o3 ft fG rG len pos bad]) (cs := [ofW cI cC oo o1 o2 o3 ft fG rG len pos bad]) (cs' := [ofW cI cC oo o1 o2 o3 ft fG rG len pos bad]) (bs1 := [trW h0 hh oo aN aT aS hasS stN stE, exW cI aN N, w_X1_stateAt cI cC cE hh hr aH old sze, ofW cI cC oo o1 o2 o3 ft fG rG len pos bad]) ⟨hx, hb, hml, hown, hts⟩ [3] [0, 1, 2] (ce_X2_textLength l D cI cC cE oo o1 o2 o3 _ ft fG rG len pos bad (d_X2_textLength len) rfl) (cwV 0 hts gX5_count_X2_textLength rfl rfl rfl (by decide +kernel) ⟨Nat.le_of_ble_eq_true rfl, Nat.le_of_ble_eq_true rfl⟩) hK hP hD hS hA rfl rfl rfl rfl rfl rfl rfl rfl rfl hl.1 rfl (Nat.le_of_ble_eq_true rfl) dX5_count_40 ⟨Nat.le_refl 0, Nat.le_refl 0⟩ (fun H locs hP hD hS => ?_)
      obtain rfl := Option.some.inj h
      exact fin _ _ _ _ dX5_count_43 hP hD hS
    · have h := (k_iB h).2 c3
      refine lv_lookup (off := 43) (tgt := 44) hx hb dX5_count_1 (by decide) (by show Op.lookupswitch.offset [(18, 27), (19, 35)] (43) _ = _; rw [lv_osw (a := 18) c2 rfl, lv_osw (a := 19) c3 rfl]; rfl) (by decide) ?_
      refine lv_aload_n hx hb dX5_count_44 rfl (lv_at hl 0 rfl) ?_
      refine va_get (ci := 5) (C := RX5) (T := TX5) (N := 8) hx hb hts hiX5 hown hK hP 0 rfl rfl 0 (by decide) (hts (.fieldLink RX5 10 "RiddleTrade" "now" "LRiddleTrade$Exchange;") (List.mem_of_getElem? (i := 3) rfl)) (fun _ h9 => h9) rfl dX5_count_45 ?_
      refine lv_iload_n hx hb dX5_count_48 rfl (lv_at hl 1 rfl) ?_
      obtain ⟨r4, hu5, h⟩ := ob1_el h
      refine kbi (ci := 0) (q := (RX0, TX0, 7)) (bs := [trW h0 hh oo aN aT aS hasS stN stE, exW cI aN N, w_X1_stateAt cI cC cE hh hr aH old sze, ofW cI cC oo o1 o2 o3 ft fG rG len pos bad]) (cs := [exW cI aN N]) (cs' := [exW cI aN N]) (bs1 := [trW h0 hh oo aN aT aS hasS stN stE, exW cI aN N, w_X1_stateAt cI cC cE hh hr aH old sze, ofW cI cC oo o1 o2 o3 ft fG rG len pos bad]) ⟨hx, hb, hml, hown, hts⟩ [1] [0, 2, 3] (ce_X0_tellCount l D cI cC cE aN _ N p1 r4 hu5) (cwV 1 hts gX5_count_X0_tellCount rfl rfl rfl (by decide +kernel) ⟨Nat.le_of_ble_eq_true rfl, Nat.le_of_ble_eq_true rfl⟩) hK hP hD hS hA rfl rfl rfl rfl rfl rfl rfl rfl rfl hl.1 rfl (Nat.le_of_ble_eq_true rfl) dX5_count_49 ⟨Nat.le_refl 0, Nat.le_refl 0⟩ (fun H locs hP hD hS => ?_)
      obtain rfl := Option.some.inj h
      exact fin _ _ _ _ dX5_count_52 hP hD hS
