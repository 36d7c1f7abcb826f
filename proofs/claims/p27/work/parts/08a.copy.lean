abbrev w_X4_copyFrom (cI cC : ClassId) (h0 h1 g0 g1 : Nat) (n : Nat) (f : Nat → Int32) (cols : Int32) (rows : Int32) (g : Nat → Int32) (gcols : Int32) (grows : Int32) : va_W := [(h0, .inr (4, [.ref h1, .int cols, .int rows])), (h1, .inl (cI, n, .inl f)), (g0, .inr (4, [.ref g1, .int gcols, .int grows])), (g1, .inl (cI, n, .inl g))]
set_option maxHeartbeats 4000000 in
set_option maxRecDepth 100000 in
theorem c_X4_copyFrom (l : Launch) (D : va_G) (cI cC cE : ClassId) (h0 h1 g0 g1 : Nat) (sz : Nat) (n : Nat) (f : Nat → Int32) (cols : Int32) (rows : Int32) (g : Nat → Int32) (gcols : Int32) (grows : Int32) (hn : n < 2 ^ 31) : Met l yX4_copyFrom wsX4_copyFrom ({ frames := 1, cells := 0, slots := 0, locals := 26 } : Room) (kP D (kT cI cC cE) [.ref h0, .ref g0] (w_X4_copyFrom cI cC h0 h1 g0 g1 n f cols rows g gcols grows) sz) (kQv D (kT cI cC cE) (w_X4_copyFrom cI cC h0 h1 g0 g1 n f cols rows g gcols grows) (w_X4_copyFrom cI cC h0 h1 g0 g1 n g cols grows g gcols grows) sz) 0 0 (va_A (w_X4_copyFrom cI cC h0 h1 g0 g1 n f cols rows g gcols grows) sz) := by
  refine kMetV (cc := cX4_copyFrom) (maxL := 2) (own := RX4) (by decide) rfl (Nat.le_of_ble_eq_true rfl) rfl ?_
  intro p e s m below meth c A Q hx hb hml hown hts hP hK hD hA hS hname fin ls hl
  have hl : lv_has ls 2 [(0, .ref h0), (1, .ref g0)] := hl
  have hiX4 : ∀ w ∈ u_ws RX4 TX4 3, w ∈ wsX4_copyFrom := by decide +kernel
  refine lv_aload_n hx hb dX4_copyFrom_0 rfl (lv_at hl 0 rfl) ?_
  refine lv_aload_n hx hb dX4_copyFrom_1 rfl (lv_at hl 1 rfl) ?_
  refine va_get (ci := 4) (C := RX4) (T := TX4) (N := 3) hx hb hts hiX4 hown hK hP 2 rfl rfl 2 (by decide) (hts (.fieldLink RX4 19 "RiddleTrade$Table" "rows" "I") (List.mem_of_getElem? (i := 1) rfl)) (fun _ h9 => h9) rfl dX4_copyFrom_2 ?_
  refine va_put (ci := 4) (ty := .int) (C := RX4) (T := TX4) (N := 3) hx hb hts hiX4 tyX4 tyX4_ok nmX4 hown hK hP hD hS 0 rfl rfl 2 (by decide) (hts (.fieldLink RX4 19 "RiddleTrade$Table" "rows" "I") (List.mem_of_getElem? (i := 1) rfl)) (fun _ h9 => h9) rfl (by decide +kernel) rfl rfl (Nat.le_of_ble_eq_true rfl) dX4_copyFrom_5 (fun H locs hP hD hS => ?_)
  have hP : va_P D vwCl (w_X4_copyFrom cI cC h0 h1 g0 g1 n f cols grows g gcols grows) H := hP
  have hD : va_D A (w_X4_copyFrom cI cC h0 h1 g0 g1 n f cols grows g gcols grows) := hD
  refine lv_aload_n hx hb dX4_copyFrom_8 rfl (lv_at hl 1 rfl) ?_
  refine va_get (ci := 4) (C := RX4) (T := TX4) (N := 3) hx hb hts hiX4 hown hK hP 2 rfl rfl 0 (by decide) (hts (.fieldLink RX4 9 "RiddleTrade$Table" "cells" "[I") (List.mem_of_getElem? (i := 2) rfl)) (fun _ h9 => h9) rfl dX4_copyFrom_9 ?_
  refine lv_iconst (v := 0) hx hb dX4_copyFrom_12 (by decide) ?_
  refine lv_aload_n hx hb dX4_copyFrom_13 rfl (lv_at hl 0 rfl) ?_
  refine va_get (ci := 4) (C := RX4) (T := TX4) (N := 3) hx hb hts hiX4 hown hK hP 0 rfl rfl 0 (by decide) (hts (.fieldLink RX4 9 "RiddleTrade$Table" "cells" "[I") (List.mem_of_getElem? (i := 2) rfl)) (fun _ h9 => h9) rfl dX4_copyFrom_14 ?_
  refine lv_iconst (v := 0) hx hb dX4_copyFrom_17 (by decide) ?_
  refine lv_aload_n hx hb dX4_copyFrom_18 rfl (lv_at hl 0 rfl) ?_
  refine va_get (ci := 4) (C := RX4) (T := TX4) (N := 3) hx hb hts hiX4 hown hK hP 0 rfl rfl 0 (by decide) (hts (.fieldLink RX4 9 "RiddleTrade$Table" "cells" "[I") (List.mem_of_getElem? (i := 2) rfl)) (fun _ h9 => h9) rfl dX4_copyFrom_19 ?_
  refine va_alen (v := nI n) hx hb hK hP 1 0 rfl rfl rfl dX4_copyFrom_22 ?_
  refine lv_aload_n hx hb dX4_copyFrom_23 rfl (lv_at hl 1 rfl) ?_
  refine va_get (ci := 4) (C := RX4) (T := TX4) (N := 3) hx hb hts hiX4 hown hK hP 2 rfl rfl 0 (by decide) (hts (.fieldLink RX4 9 "RiddleTrade$Table" "cells" "[I") (List.mem_of_getElem? (i := 2) rfl)) (fun _ h9 => h9) rfl dX4_copyFrom_24 ?_
  refine va_alen (v := nI n) hx hb hK hP 3 0 rfl rfl rfl dX4_copyFrom_27 ?_
  refine va_mmin hx hb (hml.trans hl.1.symm) hown (hts _ (List.mem_of_getElem? (i := 3) rfl)) (hts _ (List.mem_of_getElem? (i := 4) rfl)) (hts _ (List.mem_of_getElem? (i := 5) rfl)) (hts _ (List.mem_of_getElem? (i := 6) rfl)) (Nat.le_of_ble_eq_true rfl) (Nat.le_of_ble_eq_true rfl) (Nat.le_refl 0) (Nat.le_refl 0) dX4_copyFrom_28 ?_
  rw [ite_self]
  refine k_copyall ⟨hx, hb, hml, hown, hts⟩ hl.1 (hts _ (List.mem_of_getElem? (i := 7) rfl)) (hts _ (List.mem_of_getElem? (i := 8) rfl)) (hts _ (List.mem_of_getElem? (i := 9) rfl)) (hts _ (List.mem_of_getElem? (i := 10) rfl)) hK hP hD hS 3 1 0 rfl rfl rfl (nI_pos hn) (nI_clamp hn) (Nat.le_of_ble_eq_true rfl) (by decide +kernel) dX4_copyFrom_31 (fun H locs hP hD hS => ?_)
  have hP : va_P D vwCl (w_X4_copyFrom cI cC h0 h1 g0 g1 n g cols grows g gcols grows) H := hP
  have hD : va_D A (w_X4_copyFrom cI cC h0 h1 g0 g1 n g cols grows g gcols grows) := hD
  exact fin _ _ _ _ dX4_copyFrom_34 hP hD hS
abbrev w_X3_copyFrom (cI cC : ClassId) (h0 h1 g0 g1 : Nat) (f : Nat → Int32) (hd : Int32) (ln : Int32) (g : Nat → Int32) (ghd : Int32) (gln : Int32) : va_W := [(h0, .inr (3, [.ref h1, .int hd, .int ln])), (h1, .inl (cI, 40, .inl f)), (g0, .inr (3, [.ref g1, .int ghd, .int gln])), (g1, .inl (cI, 40, .inl g))]
set_option maxHeartbeats 4000000 in
set_option maxRecDepth 100000 in
theorem c_X3_copyFrom (l : Launch) (D : va_G) (cI cC cE : ClassId) (h0 h1 g0 g1 : Nat) (sz : Nat) (f : Nat → Int32) (hd : Int32) (ln : Int32) (g : Nat → Int32) (ghd : Int32) (gln : Int32)  : Met l yX3_copyFrom wsX3_copyFrom ({ frames := 1, cells := 0, slots := 0, locals := 26 } : Room) (kP D (kT cI cC cE) [.ref h0, .ref g0] (w_X3_copyFrom cI cC h0 h1 g0 g1 f hd ln g ghd gln) sz) (kQv D (kT cI cC cE) (w_X3_copyFrom cI cC h0 h1 g0 g1 f hd ln g ghd gln) (w_X3_copyFrom cI cC h0 h1 g0 g1 g ghd gln g ghd gln) sz) 0 0 (va_A (w_X3_copyFrom cI cC h0 h1 g0 g1 f hd ln g ghd gln) sz) := by
  refine kMetV (cc := cX3_copyFrom) (maxL := 2) (own := RX3) (by decide) rfl (Nat.le_of_ble_eq_true rfl) rfl ?_
  intro p e s m below meth c A Q hx hb hml hown hts hP hK hD hA hS hname fin ls hl
  have hl : lv_has ls 2 [(0, .ref h0), (1, .ref g0)] := hl
  have hiX3 : ∀ w ∈ u_ws RX3 TX3 3, w ∈ wsX3_copyFrom := by decide +kernel
  refine lv_aload_n hx hb dX3_copyFrom_0 rfl (lv_at hl 0 rfl) ?_
  refine lv_aload_n hx hb dX3_copyFrom_1 rfl (lv_at hl 1 rfl) ?_
  refine va_get (ci := 3) (C := RX3) (T := TX3) (N := 3) hx hb hts hiX3 hown hK hP 2 rfl rfl 1 (by decide) (hts (.fieldLink RX3 19 "RiddleTrade$Row" "head" "I") (List.mem_of_getElem? (i := 1) rfl)) (fun _ h9 => h9) rfl dX3_copyFrom_2 ?_
  refine va_put (ci := 3) (ty := .int) (C := RX3) (T := TX3) (N := 3) hx hb hts hiX3 tyX3 tyX3_ok nmX3 hown hK hP hD hS 0 rfl rfl 1 (by decide) (hts (.fieldLink RX3 19 "RiddleTrade$Row" "head" "I") (List.mem_of_getElem? (i := 1) rfl)) (fun _ h9 => h9) rfl (by decide +kernel) rfl rfl (Nat.le_of_ble_eq_true rfl) dX3_copyFrom_5 (fun H locs hP hD hS => ?_)
  have hP : va_P D vwCl (w_X3_copyFrom cI cC h0 h1 g0 g1 f ghd ln g ghd gln) H := hP
  have hD : va_D A (w_X3_copyFrom cI cC h0 h1 g0 g1 f ghd ln g ghd gln) := hD
  refine lv_aload_n hx hb dX3_copyFrom_8 rfl (lv_at hl 0 rfl) ?_
  refine lv_aload_n hx hb dX3_copyFrom_9 rfl (lv_at hl 1 rfl) ?_
  refine va_get (ci := 3) (C := RX3) (T := TX3) (N := 3) hx hb hts hiX3 hown hK hP 2 rfl rfl 2 (by decide) (hts (.fieldLink RX3 15 "RiddleTrade$Row" "length" "I") (List.mem_of_getElem? (i := 2) rfl)) (fun _ h9 => h9) rfl dX3_copyFrom_10 ?_
  refine va_put (ci := 3) (ty := .int) (C := RX3) (T := TX3) (N := 3) hx hb hts hiX3 tyX3 tyX3_ok nmX3 hown hK hP hD hS 0 rfl rfl 2 (by decide) (hts (.fieldLink RX3 15 "RiddleTrade$Row" "length" "I") (List.mem_of_getElem? (i := 2) rfl)) (fun _ h9 => h9) rfl (by decide +kernel) rfl rfl (Nat.le_of_ble_eq_true rfl) dX3_copyFrom_13 (fun H locs hP hD hS => ?_)
  have hP : va_P D vwCl (w_X3_copyFrom cI cC h0 h1 g0 g1 f ghd gln g ghd gln) H := hP
  have hD : va_D A (w_X3_copyFrom cI cC h0 h1 g0 g1 f ghd gln g ghd gln) := hD
  refine lv_aload_n hx hb dX3_copyFrom_16 rfl (lv_at hl 1 rfl) ?_
  refine va_get (ci := 3) (C := RX3) (T := TX3) (N := 3) hx hb hts hiX3 hown hK hP 2 rfl rfl 0 (by decide) (hts (.fieldLink RX3 9 "RiddleTrade$Row" "ring" "[I") (List.mem_of_getElem? (i := 3) rfl)) (fun _ h9 => h9) rfl dX3_copyFrom_17 ?_
  refine lv_iconst (v := 0) hx hb dX3_copyFrom_20 (by decide) ?_
  refine lv_aload_n hx hb dX3_copyFrom_21 rfl (lv_at hl 0 rfl) ?_
  refine va_get (ci := 3) (C := RX3) (T := TX3) (N := 3) hx hb hts hiX3 hown hK hP 0 rfl rfl 0 (by decide) (hts (.fieldLink RX3 9 "RiddleTrade$Row" "ring" "[I") (List.mem_of_getElem? (i := 3) rfl)) (fun _ h9 => h9) rfl dX3_copyFrom_22 ?_
  refine lv_iconst (v := 0) hx hb dX3_copyFrom_25 (by decide) ?_
  refine lv_aload_n hx hb dX3_copyFrom_26 rfl (lv_at hl 0 rfl) ?_
  refine va_get (ci := 3) (C := RX3) (T := TX3) (N := 3) hx hb hts hiX3 hown hK hP 0 rfl rfl 0 (by decide) (hts (.fieldLink RX3 9 "RiddleTrade$Row" "ring" "[I") (List.mem_of_getElem? (i := 3) rfl)) (fun _ h9 => h9) rfl dX3_copyFrom_27 ?_
  refine va_alen (v := 40) hx hb hK hP 1 0 rfl rfl (show Int32.ofNat 40 = 40 from rfl) dX3_copyFrom_30 ?_
  refine lv_aload_n hx hb dX3_copyFrom_31 rfl (lv_at hl 1 rfl) ?_
  refine va_get (ci := 3) (C := RX3) (T := TX3) (N := 3) hx hb hts hiX3 hown hK hP 2 rfl rfl 0 (by decide) (hts (.fieldLink RX3 9 "RiddleTrade$Row" "ring" "[I") (List.mem_of_getElem? (i := 3) rfl)) (fun _ h9 => h9) rfl dX3_copyFrom_32 ?_
  refine va_alen (v := 40) hx hb hK hP 3 0 rfl rfl (show Int32.ofNat 40 = 40 from rfl) dX3_copyFrom_35 ?_
  refine va_mmin hx hb (hml.trans hl.1.symm) hown (hts _ (List.mem_of_getElem? (i := 4) rfl)) (hts _ (List.mem_of_getElem? (i := 5) rfl)) (hts _ (List.mem_of_getElem? (i := 6) rfl)) (hts _ (List.mem_of_getElem? (i := 7) rfl)) (Nat.le_of_ble_eq_true rfl) (Nat.le_of_ble_eq_true rfl) (Nat.le_refl 0) (Nat.le_refl 0) dX3_copyFrom_36 ?_
  rw [ite_self]
  refine k_copyall ⟨hx, hb, hml, hown, hts⟩ hl.1 (hts _ (List.mem_of_getElem? (i := 8) rfl)) (hts _ (List.mem_of_getElem? (i := 9) rfl)) (hts _ (List.mem_of_getElem? (i := 10) rfl)) (hts _ (List.mem_of_getElem? (i := 11) rfl)) hK hP hD hS 3 1 0 rfl rfl rfl (by decide) rfl (Nat.le_of_ble_eq_true rfl) (by decide +kernel) dX3_copyFrom_39 (fun H locs hP hD hS => ?_)
  have hP : va_P D vwCl (w_X3_copyFrom cI cC h0 h1 g0 g1 g ghd gln g ghd gln) H := hP
  have hD : va_D A (w_X3_copyFrom cI cC h0 h1 g0 g1 g ghd gln g ghd gln) := hD
  exact fin _ _ _ _ dX3_copyFrom_42 hP hD hS
abbrev w_X0_copyFrom (cI cC : ClassId) (aT : Nat → Nat) (aN : Nat → Nat) (T : Ex) (N : Ex) : va_W := [((aT 0), .inr (0, [.ref (aT 1), .ref (aT 3), .ref (aT 5), .ref (aT 7), .ref (aT 9), .ref (aT 11), .int T.2.2.2.2.2.2.2.2.2.2])), ((aT 1), .inr (4, [.ref (aT 2), .int 2, .int 8])), ((aT 2), .inl (cI, 16, .inl T.1)), ((aT 3), .inr (4, [.ref (aT 4), .int 4, .int T.2.2.1])), ((aT 4), .inl (cI, 80, .inl T.2.1)), ((aT 5), .inr (4, [.ref (aT 6), .int 8, .int T.2.2.2.2.1])), ((aT 6), .inl (cI, 320, .inl T.2.2.2.1)), ((aT 7), .inr (4, [.ref (aT 8), .int 2, .int 2])), ((aT 8), .inl (cI, 4, .inl T.2.2.2.2.2.1)), ((aT 9), .inr (4, [.ref (aT 10), .int 3, .int 4])), ((aT 10), .inl (cI, 12, .inl T.2.2.2.2.2.2.1)), ((aT 11), .inr (3, [.ref (aT 12), .int T.2.2.2.2.2.2.2.2.1, .int T.2.2.2.2.2.2.2.2.2.1])), ((aT 12), .inl (cI, 40, .inl T.2.2.2.2.2.2.2.1)), ((aN 0), .inr (0, [.ref (aN 1), .ref (aN 3), .ref (aN 5), .ref (aN 7), .ref (aN 9), .ref (aN 11), .int N.2.2.2.2.2.2.2.2.2.2])), ((aN 1), .inr (4, [.ref (aN 2), .int 2, .int 8])), ((aN 2), .inl (cI, 16, .inl N.1)), ((aN 3), .inr (4, [.ref (aN 4), .int 4, .int N.2.2.1])), ((aN 4), .inl (cI, 80, .inl N.2.1)), ((aN 5), .inr (4, [.ref (aN 6), .int 8, .int N.2.2.2.2.1])), ((aN 6), .inl (cI, 320, .inl N.2.2.2.1)), ((aN 7), .inr (4, [.ref (aN 8), .int 2, .int 2])), ((aN 8), .inl (cI, 4, .inl N.2.2.2.2.2.1)), ((aN 9), .inr (4, [.ref (aN 10), .int 3, .int 4])), ((aN 10), .inl (cI, 12, .inl N.2.2.2.2.2.2.1)), ((aN 11), .inr (3, [.ref (aN 12), .int N.2.2.2.2.2.2.2.2.1, .int N.2.2.2.2.2.2.2.2.2.1])), ((aN 12), .inl (cI, 40, .inl N.2.2.2.2.2.2.2.1))]
set_option maxHeartbeats 4000000 in
set_option maxRecDepth 100000 in
theorem c_X0_copyFrom (l : Launch) (D : va_G) (cI cC cE : ClassId) (aT : Nat → Nat) (aN : Nat → Nat) (sz : Nat) (T : Ex) (N : Ex)  : Met l yX0_copyFrom wsX0_copyFrom ({ frames := 2, cells := 0, slots := 0, locals := 47 } : Room) (kP D (kT cI cC cE) [.ref (aT 0), .ref (aN 0)] (w_X0_copyFrom cI cC aT aN T N) sz) (kQv D (kT cI cC cE) (w_X0_copyFrom cI cC aT aN T N) (w_X0_copyFrom cI cC aT aN N N) sz) 0 0 (va_A (w_X0_copyFrom cI cC aT aN T N) sz) := by
  refine kMetV (cc := cX0_copyFrom) (maxL := 2) (own := RX0) (by decide) rfl (Nat.le_of_ble_eq_true rfl) rfl ?_
  intro p e s m below meth c A Q hx hb hml hown hts hP hK hD hA hS hname fin ls hl
  have hl : lv_has ls 2 [(0, .ref (aT 0)), (1, .ref (aN 0))] := hl
  have hiX0 : ∀ w ∈ u_ws RX0 TX0 7, w ∈ wsX0_copyFrom := by decide +kernel
  refine lv_aload_n hx hb dX0_copyFrom_0 rfl (lv_at hl 0 rfl) ?_
  refine va_get (ci := 0) (C := RX0) (T := TX0) (N := 7) hx hb hts hiX0 hown hK hP 0 rfl rfl 0 (by decide) (hts (.fieldLink RX0 16 "RiddleTrade$Exchange" "traders" "LRiddleTrade$Table;") (List.mem_of_getElem? (i := 1) rfl)) (fun _ h9 => h9) rfl dX0_copyFrom_1 ?_
  refine lv_aload_n hx hb dX0_copyFrom_4 rfl (lv_at hl 1 rfl) ?_
  refine va_get (ci := 0) (C := RX0) (T := TX0) (N := 7) hx hb hts hiX0 hown hK hP 13 rfl rfl 0 (by decide) (hts (.fieldLink RX0 16 "RiddleTrade$Exchange" "traders" "LRiddleTrade$Table;") (List.mem_of_getElem? (i := 1) rfl)) (fun _ h9 => h9) rfl dX0_copyFrom_5 ?_
  refine kcVv (ci := 4) (q := (RX4, TX4, 3)) (ws1 := (w_X0_copyFrom cI cC aT aN (N.1, T.2.1, T.2.2.1, T.2.2.2.1, T.2.2.2.2.1, T.2.2.2.2.2.1, T.2.2.2.2.2.2.1, T.2.2.2.2.2.2.2.1, T.2.2.2.2.2.2.2.2.1, T.2.2.2.2.2.2.2.2.2.1, T.2.2.2.2.2.2.2.2.2.2) N)) ⟨hx, hb, hml, hown, hts⟩ [1, 2, 14, 15] [0, 3, 4, 5, 6, 7, 8, 9, 10, 11, 12, 13, 16, 17, 18, 19, 20, 21, 22, 23, 24, 25] (c_X4_copyFrom l D cI cC cE (aT 1) (aT 2) (aN 1) (aN 2) _ 16 T.1 2 8 N.1 2 8 (by decide)) (cwV 1 hts gX0_copyFrom_X4_copyFrom rfl rfl rfl (by decide +kernel) ⟨Nat.le_of_ble_eq_true rfl, Nat.le_of_ble_eq_true rfl⟩) hK hP hD hS hA rfl rfl rfl rfl rfl rfl rfl rfl rfl hl.1 rfl (Nat.le_of_ble_eq_true rfl) dX0_copyFrom_8 ⟨Nat.le_refl 0, Nat.le_refl 0⟩ (fun H locs hP hD hS => ?_)
  refine lv_aload_n hx hb dX0_copyFrom_11 rfl (lv_at hl 0 rfl) ?_
  refine va_get (ci := 0) (C := RX0) (T := TX0) (N := 7) hx hb hts hiX0 hown hK hP 0 rfl rfl 1 (by decide) (hts (.fieldLink RX0 20 "RiddleTrade$Exchange" "riddles" "LRiddleTrade$Table;") (List.mem_of_getElem? (i := 2) rfl)) (fun _ h9 => h9) rfl dX0_copyFrom_12 ?_
  refine lv_aload_n hx hb dX0_copyFrom_15 rfl (lv_at hl 1 rfl) ?_
  refine va_get (ci := 0) (C := RX0) (T := TX0) (N := 7) hx hb hts hiX0 hown hK hP 13 rfl rfl 1 (by decide) (hts (.fieldLink RX0 20 "RiddleTrade$Exchange" "riddles" "LRiddleTrade$Table;") (List.mem_of_getElem? (i := 2) rfl)) (fun _ h9 => h9) rfl dX0_copyFrom_16 ?_
  refine kcVv (ci := 4) (q := (RX4, TX4, 3)) (ws1 := (w_X0_copyFrom cI cC aT aN (N.1, N.2.1, N.2.2.1, T.2.2.2.1, T.2.2.2.2.1, T.2.2.2.2.2.1, T.2.2.2.2.2.2.1, T.2.2.2.2.2.2.2.1, T.2.2.2.2.2.2.2.2.1, T.2.2.2.2.2.2.2.2.2.1, T.2.2.2.2.2.2.2.2.2.2) N)) ⟨hx, hb, hml, hown, hts⟩ [3, 4, 16, 17] [0, 1, 2, 5, 6, 7, 8, 9, 10, 11, 12, 13, 14, 15, 18, 19, 20, 21, 22, 23, 24, 25] (c_X4_copyFrom l D cI cC cE (aT 3) (aT 4) (aN 3) (aN 4) _ 80 T.2.1 4 T.2.2.1 N.2.1 4 N.2.2.1 (by decide)) (cwV 1 hts gX0_copyFrom_X4_copyFrom rfl rfl rfl (by decide +kernel) ⟨Nat.le_of_ble_eq_true rfl, Nat.le_of_ble_eq_true rfl⟩) hK hP hD hS hA rfl rfl rfl rfl rfl rfl rfl rfl rfl hl.1 rfl (Nat.le_of_ble_eq_true rfl) dX0_copyFrom_19 ⟨Nat.le_refl 0, Nat.le_refl 0⟩ (fun H locs hP hD hS => ?_)
  refine lv_aload_n hx hb dX0_copyFrom_22 rfl (lv_at hl 0 rfl) ?_
  refine va_get (ci := 0) (C := RX0) (T := TX0) (N := 7) hx hb hts hiX0 hown hK hP 0 rfl rfl 2 (by decide) (hts (.fieldLink RX0 23 "RiddleTrade$Exchange" "answers" "LRiddleTrade$Table;") (List.mem_of_getElem? (i := 3) rfl)) (fun _ h9 => h9) rfl dX0_copyFrom_23 ?_
  refine lv_aload_n hx hb dX0_copyFrom_26 rfl (lv_at hl 1 rfl) ?_
  refine va_get (ci := 0) (C := RX0) (T := TX0) (N := 7) hx hb hts hiX0 hown hK hP 13 rfl rfl 2 (by decide) (hts (.fieldLink RX0 23 "RiddleTrade$Exchange" "answers" "LRiddleTrade$Table;") (List.mem_of_getElem? (i := 3) rfl)) (fun _ h9 => h9) rfl dX0_copyFrom_27 ?_
  refine kcVv (ci := 4) (q := (RX4, TX4, 3)) (ws1 := (w_X0_copyFrom cI cC aT aN (N.1, N.2.1, N.2.2.1, N.2.2.2.1, N.2.2.2.2.1, T.2.2.2.2.2.1, T.2.2.2.2.2.2.1, T.2.2.2.2.2.2.2.1, T.2.2.2.2.2.2.2.2.1, T.2.2.2.2.2.2.2.2.2.1, T.2.2.2.2.2.2.2.2.2.2) N)) ⟨hx, hb, hml, hown, hts⟩ [5, 6, 18, 19] [0, 1, 2, 3, 4, 7, 8, 9, 10, 11, 12, 13, 14, 15, 16, 17, 20, 21, 22, 23, 24, 25] (c_X4_copyFrom l D cI cC cE (aT 5) (aT 6) (aN 5) (aN 6) _ 320 T.2.2.2.1 8 T.2.2.2.2.1 N.2.2.2.1 8 N.2.2.2.2.1 (by decide)) (cwV 1 hts gX0_copyFrom_X4_copyFrom rfl rfl rfl (by decide +kernel) ⟨Nat.le_of_ble_eq_true rfl, Nat.le_of_ble_eq_true rfl⟩) hK hP hD hS hA rfl rfl rfl rfl rfl rfl rfl rfl rfl hl.1 rfl (Nat.le_of_ble_eq_true rfl) dX0_copyFrom_30 ⟨Nat.le_refl 0, Nat.le_refl 0⟩ (fun H locs hP hD hS => ?_)
  refine lv_aload_n hx hb dX0_copyFrom_33 rfl (lv_at hl 0 rfl) ?_
  refine va_get (ci := 0) (C := RX0) (T := TX0) (N := 7) hx hb hts hiX0 hown hK hP 0 rfl rfl 3 (by decide) (hts (.fieldLink RX0 26 "RiddleTrade$Exchange" "scales" "LRiddleTrade$Table;") (List.mem_of_getElem? (i := 4) rfl)) (fun _ h9 => h9) rfl dX0_copyFrom_34 ?_
  refine lv_aload_n hx hb dX0_copyFrom_37 rfl (lv_at hl 1 rfl) ?_
  refine va_get (ci := 0) (C := RX0) (T := TX0) (N := 7) hx hb hts hiX0 hown hK hP 13 rfl rfl 3 (by decide) (hts (.fieldLink RX0 26 "RiddleTrade$Exchange" "scales" "LRiddleTrade$Table;") (List.mem_of_getElem? (i := 4) rfl)) (fun _ h9 => h9) rfl dX0_copyFrom_38 ?_
  refine kcVv (ci := 4) (q := (RX4, TX4, 3)) (ws1 := (w_X0_copyFrom cI cC aT aN (N.1, N.2.1, N.2.2.1, N.2.2.2.1, N.2.2.2.2.1, N.2.2.2.2.2.1, T.2.2.2.2.2.2.1, T.2.2.2.2.2.2.2.1, T.2.2.2.2.2.2.2.2.1, T.2.2.2.2.2.2.2.2.2.1, T.2.2.2.2.2.2.2.2.2.2) N)) ⟨hx, hb, hml, hown, hts⟩ [7, 8, 20, 21] [0, 1, 2, 3, 4, 5, 6, 9, 10, 11, 12, 13, 14, 15, 16, 17, 18, 19, 22, 23, 24, 25] (c_X4_copyFrom l D cI cC cE (aT 7) (aT 8) (aN 7) (aN 8) _ 4 T.2.2.2.2.2.1 2 2 N.2.2.2.2.2.1 2 2 (by decide)) (cwV 1 hts gX0_copyFrom_X4_copyFrom rfl rfl rfl (by decide +kernel) ⟨Nat.le_of_ble_eq_true rfl, Nat.le_of_ble_eq_true rfl⟩) hK hP hD hS hA rfl rfl rfl rfl rfl rfl rfl rfl rfl hl.1 rfl (Nat.le_of_ble_eq_true rfl) dX0_copyFrom_41 ⟨Nat.le_refl 0, Nat.le_refl 0⟩ (fun H locs hP hD hS => ?_)
  refine lv_aload_n hx hb dX0_copyFrom_44 rfl (lv_at hl 0 rfl) ?_
  refine va_get (ci := 0) (C := RX0) (T := TX0) (N := 7) hx hb hts hiX0 hown hK hP 0 rfl rfl 4 (by decide) (hts (.fieldLink RX0 29 "RiddleTrade$Exchange" "settings" "LRiddleTrade$Table;") (List.mem_of_getElem? (i := 5) rfl)) (fun _ h9 => h9) rfl dX0_copyFrom_45 ?_
  refine lv_aload_n hx hb dX0_copyFrom_48 rfl (lv_at hl 1 rfl) ?_
  refine va_get (ci := 0) (C := RX0) (T := TX0) (N := 7) hx hb hts hiX0 hown hK hP 13 rfl rfl 4 (by decide) (hts (.fieldLink RX0 29 "RiddleTrade$Exchange" "settings" "LRiddleTrade$Table;") (List.mem_of_getElem? (i := 5) rfl)) (fun _ h9 => h9) rfl dX0_copyFrom_49 ?_
  refine kcVv (ci := 4) (q := (RX4, TX4, 3)) (ws1 := (w_X0_copyFrom cI cC aT aN (N.1, N.2.1, N.2.2.1, N.2.2.2.1, N.2.2.2.2.1, N.2.2.2.2.2.1, N.2.2.2.2.2.2.1, T.2.2.2.2.2.2.2.1, T.2.2.2.2.2.2.2.2.1, T.2.2.2.2.2.2.2.2.2.1, T.2.2.2.2.2.2.2.2.2.2) N)) ⟨hx, hb, hml, hown, hts⟩ [9, 10, 22, 23] [0, 1, 2, 3, 4, 5, 6, 7, 8, 11, 12, 13, 14, 15, 16, 17, 18, 19, 20, 21, 24, 25] (c_X4_copyFrom l D cI cC cE (aT 9) (aT 10) (aN 9) (aN 10) _ 12 T.2.2.2.2.2.2.1 3 4 N.2.2.2.2.2.2.1 3 4 (by decide)) (cwV 1 hts gX0_copyFrom_X4_copyFrom rfl rfl rfl (by decide +kernel) ⟨Nat.le_of_ble_eq_true rfl, Nat.le_of_ble_eq_true rfl⟩) hK hP hD hS hA rfl rfl rfl rfl rfl rfl rfl rfl rfl hl.1 rfl (Nat.le_of_ble_eq_true rfl) dX0_copyFrom_52 ⟨Nat.le_refl 0, Nat.le_refl 0⟩ (fun H locs hP hD hS => ?_)
  refine lv_aload_n hx hb dX0_copyFrom_55 rfl (lv_at hl 0 rfl) ?_
  refine va_get (ci := 0) (C := RX0) (T := TX0) (N := 7) hx hb hts hiX0 hown hK hP 0 rfl rfl 5 (by decide) (hts (.fieldLink RX0 35 "RiddleTrade$Exchange" "row" "LRiddleTrade$Row;") (List.mem_of_getElem? (i := 6) rfl)) (fun _ h9 => h9) rfl dX0_copyFrom_56 ?_
  refine lv_aload_n hx hb dX0_copyFrom_59 rfl (lv_at hl 1 rfl) ?_
  refine va_get (ci := 0) (C := RX0) (T := TX0) (N := 7) hx hb hts hiX0 hown hK hP 13 rfl rfl 5 (by decide) (hts (.fieldLink RX0 35 "RiddleTrade$Exchange" "row" "LRiddleTrade$Row;") (List.mem_of_getElem? (i := 6) rfl)) (fun _ h9 => h9) rfl dX0_copyFrom_60 ?_
  refine kcVv (ci := 3) (q := (RX3, TX3, 3)) (ws1 := (w_X0_copyFrom cI cC aT aN (N.1, N.2.1, N.2.2.1, N.2.2.2.1, N.2.2.2.2.1, N.2.2.2.2.2.1, N.2.2.2.2.2.2.1, N.2.2.2.2.2.2.2.1, N.2.2.2.2.2.2.2.2.1, N.2.2.2.2.2.2.2.2.2.1, T.2.2.2.2.2.2.2.2.2.2) N)) ⟨hx, hb, hml, hown, hts⟩ [11, 12, 24, 25] [0, 1, 2, 3, 4, 5, 6, 7, 8, 9, 10, 13, 14, 15, 16, 17, 18, 19, 20, 21, 22, 23] (c_X3_copyFrom l D cI cC cE (aT 11) (aT 12) (aN 11) (aN 12) _ T.2.2.2.2.2.2.2.1 T.2.2.2.2.2.2.2.2.1 T.2.2.2.2.2.2.2.2.2.1 N.2.2.2.2.2.2.2.1 N.2.2.2.2.2.2.2.2.1 N.2.2.2.2.2.2.2.2.2.1 ) (cwV 1 hts gX0_copyFrom_X3_copyFrom rfl rfl rfl (by decide +kernel) ⟨Nat.le_of_ble_eq_true rfl, Nat.le_of_ble_eq_true rfl⟩) hK hP hD hS hA rfl rfl rfl rfl rfl rfl rfl rfl rfl hl.1 rfl (Nat.le_of_ble_eq_true rfl) dX0_copyFrom_63 ⟨Nat.le_refl 0, Nat.le_refl 0⟩ (fun H locs hP hD hS => ?_)
  refine lv_aload_n hx hb dX0_copyFrom_66 rfl (lv_at hl 0 rfl) ?_
  refine lv_aload_n hx hb dX0_copyFrom_67 rfl (lv_at hl 1 rfl) ?_
  refine va_get (ci := 0) (C := RX0) (T := TX0) (N := 7) hx hb hts hiX0 hown hK hP 13 rfl rfl 6 (by decide) (hts (.fieldLink RX0 57 "RiddleTrade$Exchange" "round" "I") (List.mem_of_getElem? (i := 7) rfl)) (fun _ h9 => h9) rfl dX0_copyFrom_68 ?_
  refine va_put (ci := 0) (ty := .int) (C := RX0) (T := TX0) (N := 7) hx hb hts hiX0 tyX0 tyX0_ok nmX0 hown hK hP hD hS 0 rfl rfl 6 (by decide) (hts (.fieldLink RX0 57 "RiddleTrade$Exchange" "round" "I") (List.mem_of_getElem? (i := 7) rfl)) (fun _ h9 => h9) rfl (by decide +kernel) rfl rfl (Nat.le_of_ble_eq_true rfl) dX0_copyFrom_71 (fun H locs hP hD hS => ?_)
  have hP : va_P D vwCl (w_X0_copyFrom cI cC aT aN N N) H := hP
  have hD : va_D A (w_X0_copyFrom cI cC aT aN N N) := hD
  exact fin _ _ _ _ dX0_copyFrom_74 hP hD hS
