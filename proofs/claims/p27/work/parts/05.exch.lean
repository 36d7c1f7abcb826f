abbrev w_X0_told (cI cC : ClassId) (h0 h1 h3 h5 h7 h9 h11 h8 : Nat) (fS : Nat → Int32) (rnd : Int32) : va_W := [(h0, .inr (0, [.ref h1, .ref h3, .ref h5, .ref h7, .ref h9, .ref h11, .int rnd])), (h7, .inr (4, [.ref h8, .int 2, .int 2])), (h8, .inl (cI, 4, .inl fS))]
def d_X0_told (p1 : Int32) (p2 : Int32) (fS : Nat → Int32) : Option (Int32) :=
    ob1 (d_X4_get 4 p1 0 fS 2) fun r1 =>
    some (if 0 < (p2 + r1) then (p2 + r1) else 0)
set_option maxHeartbeats 4000000 in
set_option maxRecDepth 100000 in
theorem c_X0_told (l : Launch) (D : va_G) (cI cC cE : ClassId) (h0 h1 h3 h5 h7 h9 h11 h8 : Nat) (sz : Nat) (fS : Nat → Int32) (rnd : Int32) (p1 : Int32) (p2 : Int32) (r0 : Int32) (h : d_X0_told p1 p2 fS = some r0) : Met l yX0_told wsX0_told ({ frames := 1, cells := 0, slots := 0, locals := 23 } : Room) (kP D (kT cI cC cE) [.ref h0, .int p1, .int p2] (w_X0_told cI cC h0 h1 h3 h5 h7 h9 h11 h8 fS rnd) sz) (kQi D (kT cI cC cE) (w_X0_told cI cC h0 h1 h3 h5 h7 h9 h11 h8 fS rnd) (w_X0_told cI cC h0 h1 h3 h5 h7 h9 h11 h8 fS rnd) sz r0) 0 0 (va_A (w_X0_told cI cC h0 h1 h3 h5 h7 h9 h11 h8 fS rnd) sz) := by
  refine kMetI (cc := cX0_told) (maxL := 3) (own := RX0) (by decide) rfl (Nat.le_of_ble_eq_true rfl) rfl ?_
  intro p e s m below meth c A Q hx hb hml hown hts hP hK hD hA hS hname fin ls hl
  have hl : lv_has ls 3 [(0, .ref h0), (1, .int p1), (2, .int p2)] := hl
  have hiX0 : ∀ w ∈ u_ws RX0 TX0 7, w ∈ wsX0_told := by decide +kernel
  dsimp only [d_X0_told] at h
  refine lv_iconst (v := 0) hx hb dX0_told_0 (by decide) ?_
  refine lv_iload_n hx hb dX0_told_1 rfl (lv_at hl 2 rfl) ?_
  refine lv_aload_n hx hb dX0_told_2 rfl (lv_at hl 0 rfl) ?_
  refine va_get (ci := 0) (C := RX0) (T := TX0) (N := 7) hx hb hts hiX0 hown hK hP 0 rfl rfl 3 (by decide) (hts (.fieldLink RX0 26 "RiddleTrade$Exchange" "scales" "LRiddleTrade$Table;") (List.mem_of_getElem? (i := 1) rfl)) (fun _ h9 => h9) rfl dX0_told_3 ?_
  refine lv_iload_n hx hb dX0_told_6 rfl (lv_at hl 1 rfl) ?_
  refine lv_iconst (v := 0) hx hb dX0_told_7 (by decide) ?_
  obtain ⟨r1, hu2, h⟩ := ob1_el h
  refine kcVi (ci := 4) (q := (RX4, TX4, 3)) (ws1 := (w_X0_told cI cC h0 h1 h3 h5 h7 h9 h11 h8 fS rnd)) ⟨hx, hb, hml, hown, hts⟩ [1, 2] [0] (c_X4_get l D cI cC cE h7 h8 _ 4 fS 2 2 p1 0 r1 hu2) (cwV 2 hts gX0_told_X4_get rfl rfl rfl (by decide +kernel) ⟨Nat.le_of_ble_eq_true rfl, Nat.le_of_ble_eq_true rfl⟩) hK hP hD hS hA rfl rfl rfl rfl rfl rfl rfl rfl rfl hl.1 rfl (Nat.le_of_ble_eq_true rfl) dX0_told_8 ⟨Nat.le_refl 0, Nat.le_refl 0⟩ (fun H locs hP hD hS => ?_)
  refine lv_iadd hx hb dX0_told_11 ?_
  refine va_mmax hx hb (hml.trans hl.1.symm) hown (hts _ (List.mem_of_getElem? (i := 2) rfl)) (hts _ (List.mem_of_getElem? (i := 3) rfl)) (hts _ (List.mem_of_getElem? (i := 4) rfl)) (hts _ (List.mem_of_getElem? (i := 5) rfl)) (Nat.le_of_ble_eq_true rfl) (Nat.le_of_ble_eq_true rfl) (Nat.le_refl 0) (Nat.le_refl 0) dX0_told_12 ?_
  obtain rfl := Option.some.inj h
  exact fin _ _ _ _ dX0_told_15 hP hD hS
abbrev w_X0_paymentFor (cI cC : ClassId) (h0 h1 h3 h5 h7 h9 h11 h4 h6 h8 : Nat) (fR : Nat → Int32) (rR : Int32) (fA : Nat → Int32) (rA : Int32) (fS : Nat → Int32) (rnd : Int32) : va_W := [(h0, .inr (0, [.ref h1, .ref h3, .ref h5, .ref h7, .ref h9, .ref h11, .int rnd])), (h3, .inr (4, [.ref h4, .int 4, .int rR])), (h4, .inl (cI, 80, .inl fR)), (h5, .inr (4, [.ref h6, .int 8, .int rA])), (h6, .inl (cI, 320, .inl fA)), (h7, .inr (4, [.ref h8, .int 2, .int 2])), (h8, .inl (cI, 4, .inl fS))]
def d_X0_paymentFor (p1 : Int32) (fR : Nat → Int32) (fA : Nat → Int32) (fS : Nat → Int32) : Option (Int32) :=
    ob1 (d_X4_get 320 p1 3 fA 8) fun r1 =>
    ob1 (d_X4_get 320 p1 1 fA 8) fun r3 =>
    ob1 (d_X4_get 80 r3 1 fR 4) fun r5 =>
    ob1 (d_X0_told 0 r1 fS) fun r7 =>
    ob1 (d_X0_told 1 r1 fS) fun r9 =>
    some (r5 + ((r7 + r9) / 10))
set_option maxHeartbeats 4000000 in
set_option maxRecDepth 100000 in
theorem c_X0_paymentFor (l : Launch) (D : va_G) (cI cC cE : ClassId) (h0 h1 h3 h5 h7 h9 h11 h4 h6 h8 : Nat) (sz : Nat) (fR : Nat → Int32) (rR : Int32) (fA : Nat → Int32) (rA : Int32) (fS : Nat → Int32) (rnd : Int32) (p1 : Int32) (r0 : Int32) (h : d_X0_paymentFor p1 fR fA fS = some r0) : Met l yX0_paymentFor wsX0_paymentFor ({ frames := 2, cells := 0, slots := 0, locals := 45 } : Room) (kP D (kT cI cC cE) [.ref h0, .int p1] (w_X0_paymentFor cI cC h0 h1 h3 h5 h7 h9 h11 h4 h6 h8 fR rR fA rA fS rnd) sz) (kQi D (kT cI cC cE) (w_X0_paymentFor cI cC h0 h1 h3 h5 h7 h9 h11 h4 h6 h8 fR rR fA rA fS rnd) (w_X0_paymentFor cI cC h0 h1 h3 h5 h7 h9 h11 h4 h6 h8 fR rR fA rA fS rnd) sz r0) 0 0 (va_A (w_X0_paymentFor cI cC h0 h1 h3 h5 h7 h9 h11 h4 h6 h8 fR rR fA rA fS rnd) sz) := by
  refine kMetI (cc := cX0_paymentFor) (maxL := 4) (own := RX0) (by decide) rfl (Nat.le_of_ble_eq_true rfl) rfl ?_
  intro p e s m below meth c A Q hx hb hml hown hts hP hK hD hA hS hname fin ls hl
  have hl : lv_has ls 4 [(0, .ref h0), (1, .int p1)] := hl
  have hiX0 : ∀ w ∈ u_ws RX0 TX0 7, w ∈ wsX0_paymentFor := by decide +kernel
  dsimp only [d_X0_paymentFor] at h
  refine lv_aload_n hx hb dX0_paymentFor_0 rfl (lv_at hl 0 rfl) ?_
  refine va_get (ci := 0) (C := RX0) (T := TX0) (N := 7) hx hb hts hiX0 hown hK hP 0 rfl rfl 2 (by decide) (hts (.fieldLink RX0 23 "RiddleTrade$Exchange" "answers" "LRiddleTrade$Table;") (List.mem_of_getElem? (i := 1) rfl)) (fun _ h9 => h9) rfl dX0_paymentFor_1 ?_
  refine lv_iload_n hx hb dX0_paymentFor_4 rfl (lv_at hl 1 rfl) ?_
  refine lv_iconst (v := 3) hx hb dX0_paymentFor_5 (by decide) ?_
  obtain ⟨r1, hu2, h⟩ := ob1_el h
  refine kcVi (ci := 4) (q := (RX4, TX4, 3)) (ws1 := (w_X0_paymentFor cI cC h0 h1 h3 h5 h7 h9 h11 h4 h6 h8 fR rR fA rA fS rnd)) ⟨hx, hb, hml, hown, hts⟩ [3, 4] [0, 1, 2, 5, 6] (c_X4_get l D cI cC cE h5 h6 _ 320 fA 8 rA p1 3 r1 hu2) (cwV 2 hts gX0_paymentFor_X4_get rfl rfl rfl (by decide +kernel) ⟨Nat.le_of_ble_eq_true rfl, Nat.le_of_ble_eq_true rfl⟩) hK hP hD hS hA rfl rfl rfl rfl rfl rfl rfl rfl rfl hl.1 rfl (Nat.le_of_ble_eq_true rfl) dX0_paymentFor_6 ⟨Nat.le_refl 0, Nat.le_refl 0⟩ (fun H locs hP hD hS => ?_)
  refine lv_istore_n (lv' := [(2, .int r1), (0, .ref h0), (1, .int p1)]) hx hb dX0_paymentFor_9 rfl hl (by decide) rfl (fun ls hl => ?_)
  refine lv_aload_n hx hb dX0_paymentFor_10 rfl (lv_at hl 1 rfl) ?_
  refine va_get (ci := 0) (C := RX0) (T := TX0) (N := 7) hx hb hts hiX0 hown hK hP 0 rfl rfl 1 (by decide) (hts (.fieldLink RX0 20 "RiddleTrade$Exchange" "riddles" "LRiddleTrade$Table;") (List.mem_of_getElem? (i := 2) rfl)) (fun _ h9 => h9) rfl dX0_paymentFor_11 ?_
  refine lv_aload_n hx hb dX0_paymentFor_14 rfl (lv_at hl 1 rfl) ?_
  refine va_get (ci := 0) (C := RX0) (T := TX0) (N := 7) hx hb hts hiX0 hown hK hP 0 rfl rfl 2 (by decide) (hts (.fieldLink RX0 23 "RiddleTrade$Exchange" "answers" "LRiddleTrade$Table;") (List.mem_of_getElem? (i := 1) rfl)) (fun _ h9 => h9) rfl dX0_paymentFor_15 ?_
  refine lv_iload_n hx hb dX0_paymentFor_18 rfl (lv_at hl 2 rfl) ?_
  refine lv_iconst (v := 1) hx hb dX0_paymentFor_19 (by decide) ?_
  obtain ⟨r3, hu4, h⟩ := ob1_el h
  refine kcVi (ci := 4) (q := (RX4, TX4, 3)) (ws1 := (w_X0_paymentFor cI cC h0 h1 h3 h5 h7 h9 h11 h4 h6 h8 fR rR fA rA fS rnd)) ⟨hx, hb, hml, hown, hts⟩ [3, 4] [0, 1, 2, 5, 6] (c_X4_get l D cI cC cE h5 h6 _ 320 fA 8 rA p1 1 r3 hu4) (cwV 2 hts gX0_paymentFor_X4_get rfl rfl rfl (by decide +kernel) ⟨Nat.le_of_ble_eq_true rfl, Nat.le_of_ble_eq_true rfl⟩) hK hP hD hS hA rfl rfl rfl rfl rfl rfl rfl rfl rfl hl.1 rfl (Nat.le_of_ble_eq_true rfl) dX0_paymentFor_20 ⟨Nat.le_refl 0, Nat.le_refl 0⟩ (fun H locs hP hD hS => ?_)
  refine lv_iconst (v := 1) hx hb dX0_paymentFor_23 (by decide) ?_
  obtain ⟨r5, hu6, h⟩ := ob1_el h
  refine kcVi (ci := 4) (q := (RX4, TX4, 3)) (ws1 := (w_X0_paymentFor cI cC h0 h1 h3 h5 h7 h9 h11 h4 h6 h8 fR rR fA rA fS rnd)) ⟨hx, hb, hml, hown, hts⟩ [1, 2] [0, 3, 4, 5, 6] (c_X4_get l D cI cC cE h3 h4 _ 80 fR 4 rR r3 1 r5 hu6) (cwV 2 hts gX0_paymentFor_X4_get rfl rfl rfl (by decide +kernel) ⟨Nat.le_of_ble_eq_true rfl, Nat.le_of_ble_eq_true rfl⟩) hK hP hD hS hA rfl rfl rfl rfl rfl rfl rfl rfl rfl hl.1 rfl (Nat.le_of_ble_eq_true rfl) dX0_paymentFor_24 ⟨Nat.le_refl 0, Nat.le_refl 0⟩ (fun H locs hP hD hS => ?_)
  refine lv_istore_n (lv' := [(3, .int r5), (2, .int r1), (0, .ref h0), (1, .int p1)]) hx hb dX0_paymentFor_27 rfl hl (by decide) rfl (fun ls hl => ?_)
  refine lv_iload_n hx hb dX0_paymentFor_28 rfl (lv_at hl 0 rfl) ?_
  refine lv_aload_n hx hb dX0_paymentFor_29 rfl (lv_at hl 2 rfl) ?_
  refine lv_iconst (v := 0) hx hb dX0_paymentFor_30 (by decide) ?_
  refine lv_iload_n hx hb dX0_paymentFor_31 rfl (lv_at hl 1 rfl) ?_
  obtain ⟨r7, hu8, h⟩ := ob1_el h
  refine kcVi (ci := 0) (q := (RX0, TX0, 7)) (ws1 := (w_X0_paymentFor cI cC h0 h1 h3 h5 h7 h9 h11 h4 h6 h8 fR rR fA rA fS rnd)) ⟨hx, hb, hml, hown, hts⟩ [0, 5, 6] [1, 2, 3, 4] (c_X0_told l D cI cC cE h0 h1 h3 h5 h7 h9 h11 h8 _ fS rnd 0 r1 r7 hu8) (cwV 2 hts gX0_paymentFor_X0_told rfl rfl rfl (by decide +kernel) ⟨Nat.le_of_ble_eq_true rfl, Nat.le_of_ble_eq_true rfl⟩) hK hP hD hS hA rfl rfl rfl rfl rfl rfl rfl rfl rfl hl.1 rfl (Nat.le_of_ble_eq_true rfl) dX0_paymentFor_32 ⟨Nat.le_refl 0, Nat.le_refl 0⟩ (fun H locs hP hD hS => ?_)
  refine lv_aload_n hx hb dX0_paymentFor_35 rfl (lv_at hl 2 rfl) ?_
  refine lv_iconst (v := 1) hx hb dX0_paymentFor_36 (by decide) ?_
  refine lv_iload_n hx hb dX0_paymentFor_37 rfl (lv_at hl 1 rfl) ?_
  obtain ⟨r9, hu10, h⟩ := ob1_el h
  refine kcVi (ci := 0) (q := (RX0, TX0, 7)) (ws1 := (w_X0_paymentFor cI cC h0 h1 h3 h5 h7 h9 h11 h4 h6 h8 fR rR fA rA fS rnd)) ⟨hx, hb, hml, hown, hts⟩ [0, 5, 6] [1, 2, 3, 4] (c_X0_told l D cI cC cE h0 h1 h3 h5 h7 h9 h11 h8 _ fS rnd 1 r1 r9 hu10) (cwV 2 hts gX0_paymentFor_X0_told rfl rfl rfl (by decide +kernel) ⟨Nat.le_of_ble_eq_true rfl, Nat.le_of_ble_eq_true rfl⟩) hK hP hD hS hA rfl rfl rfl rfl rfl rfl rfl rfl rfl hl.1 rfl (Nat.le_of_ble_eq_true rfl) dX0_paymentFor_38 ⟨Nat.le_refl 0, Nat.le_refl 0⟩ (fun H locs hP hD hS => ?_)
  refine lv_iadd hx hb dX0_paymentFor_41 ?_
  refine lv_bipush (v := 10) hx hb dX0_paymentFor_42 (by decide) ?_
  refine lv_idiv hx hb dX0_paymentFor_44 (by decide) ?_
  refine lv_iadd hx hb dX0_paymentFor_45 ?_
  obtain rfl := Option.some.inj h
  exact fin _ _ _ _ dX0_paymentFor_46 hP hD hS
abbrev w_X0_hindrance (cI cC : ClassId) (h0 h1 h3 h5 h7 h9 h11 h2 h4 h6 h8 h10 : Nat) (fT : Nat → Int32) (fR : Nat → Int32) (rR : Int32) (fA : Nat → Int32) (rA : Int32) (fS : Nat → Int32) (fE : Nat → Int32) (rnd : Int32) : va_W := [(h0, .inr (0, [.ref h1, .ref h3, .ref h5, .ref h7, .ref h9, .ref h11, .int rnd])), (h1, .inr (4, [.ref h2, .int 2, .int 8])), (h2, .inl (cI, 16, .inl fT)), (h3, .inr (4, [.ref h4, .int 4, .int rR])), (h4, .inl (cI, 80, .inl fR)), (h5, .inr (4, [.ref h6, .int 8, .int rA])), (h6, .inl (cI, 320, .inl fA)), (h7, .inr (4, [.ref h8, .int 2, .int 2])), (h8, .inl (cI, 4, .inl fS)), (h9, .inr (4, [.ref h10, .int 3, .int 4])), (h10, .inl (cI, 12, .inl fE))]
def d_X0_hindrance (p1 : Int32) (p2 : Int32) (fT : Nat → Int32) (fR : Nat → Int32) (fA : Nat → Int32) (fS : Nat → Int32) (fE : Nat → Int32) : Option (Int32) :=
    ob1 (d_X4_get 320 p1 1 fA 8) fun r1 =>
    ob1 (d_X4_get 80 r1 3 fR 4) fun r3 =>
    if r3 = 0 then (ob1 (d_X4_get 80 r1 2 fR 4) fun r6 =>
    ob1 (d_X4_get 320 p1 2 fA 8) fun r8 =>
    if r6 = r8 then (ob1 (d_X4_get 320 p1 3 fA 8) fun r11 =>
    ob1 (d_X0_told 0 r11 fS) fun r13 =>
    ob1 (d_X0_told 1 r11 fS) fun r15 =>
    ob1 (d_X4_get 12 0 0 fE 3) fun r17 =>
    if (if 0 ≤ (r13 - r15) then (r13 - r15) else 0 - (r13 - r15)) ≤ r17 then (ob1 (d_X4_get 80 r1 0 fR 4) fun r20 =>
    ob1 (d_X4_get 16 r20 0 fT 2) fun r22 =>
    ob1 (d_X4_get 12 3 0 fE 3) fun r24 =>
    if (-r24) ≤ (r22 - p2) then (some 0)
    else (some 4))
    else (some 3))
    else (some 2))
    else (some 1)
set_option maxHeartbeats 4000000 in
set_option maxRecDepth 100000 in
theorem c_X0_hindrance (l : Launch) (D : va_G) (cI cC cE : ClassId) (h0 h1 h3 h5 h7 h9 h11 h2 h4 h6 h8 h10 : Nat) (sz : Nat) (fT : Nat → Int32) (fR : Nat → Int32) (rR : Int32) (fA : Nat → Int32) (rA : Int32) (fS : Nat → Int32) (fE : Nat → Int32) (rnd : Int32) (p1 : Int32) (p2 : Int32) (r0 : Int32) (h : d_X0_hindrance p1 p2 fT fR fA fS fE = some r0) : Met l yX0_hindrance wsX0_hindrance ({ frames := 2, cells := 0, slots := 0, locals := 45 } : Room) (kP D (kT cI cC cE) [.ref h0, .int p1, .int p2] (w_X0_hindrance cI cC h0 h1 h3 h5 h7 h9 h11 h2 h4 h6 h8 h10 fT fR rR fA rA fS fE rnd) sz) (kQi D (kT cI cC cE) (w_X0_hindrance cI cC h0 h1 h3 h5 h7 h9 h11 h2 h4 h6 h8 h10 fT fR rR fA rA fS fE rnd) (w_X0_hindrance cI cC h0 h1 h3 h5 h7 h9 h11 h2 h4 h6 h8 h10 fT fR rR fA rA fS fE rnd) sz r0) 0 0 (va_A (w_X0_hindrance cI cC h0 h1 h3 h5 h7 h9 h11 h2 h4 h6 h8 h10 fT fR rR fA rA fS fE rnd) sz) := by
  refine kMetI (cc := cX0_hindrance) (maxL := 6) (own := RX0) (by decide) rfl (Nat.le_of_ble_eq_true rfl) rfl ?_
  intro p e s m below meth c A Q hx hb hml hown hts hP hK hD hA hS hname fin ls hl
  have hl : lv_has ls 6 [(0, .ref h0), (1, .int p1), (2, .int p2)] := hl
  have hiX0 : ∀ w ∈ u_ws RX0 TX0 7, w ∈ wsX0_hindrance := by decide +kernel
  dsimp only [d_X0_hindrance] at h
  refine lv_aload_n hx hb dX0_hindrance_0 rfl (lv_at hl 0 rfl) ?_
  refine va_get (ci := 0) (C := RX0) (T := TX0) (N := 7) hx hb hts hiX0 hown hK hP 0 rfl rfl 2 (by decide) (hts (.fieldLink RX0 23 "RiddleTrade$Exchange" "answers" "LRiddleTrade$Table;") (List.mem_of_getElem? (i := 1) rfl)) (fun _ h9 => h9) rfl dX0_hindrance_1 ?_
  refine lv_iload_n hx hb dX0_hindrance_4 rfl (lv_at hl 1 rfl) ?_
  refine lv_iconst (v := 1) hx hb dX0_hindrance_5 (by decide) ?_
  obtain ⟨r1, hu2, h⟩ := ob1_el h
  refine kcVi (ci := 4) (q := (RX4, TX4, 3)) (ws1 := (w_X0_hindrance cI cC h0 h1 h3 h5 h7 h9 h11 h2 h4 h6 h8 h10 fT fR rR fA rA fS fE rnd)) ⟨hx, hb, hml, hown, hts⟩ [5, 6] [0, 1, 2, 3, 4, 7, 8, 9, 10] (c_X4_get l D cI cC cE h5 h6 _ 320 fA 8 rA p1 1 r1 hu2) (cwV 2 hts gX0_hindrance_X4_get rfl rfl rfl (by decide +kernel) ⟨Nat.le_of_ble_eq_true rfl, Nat.le_of_ble_eq_true rfl⟩) hK hP hD hS hA rfl rfl rfl rfl rfl rfl rfl rfl rfl hl.1 rfl (Nat.le_of_ble_eq_true rfl) dX0_hindrance_6 ⟨Nat.le_refl 0, Nat.le_refl 0⟩ (fun H locs hP hD hS => ?_)
  refine lv_istore_n (lv' := [(3, .int r1), (0, .ref h0), (1, .int p1), (2, .int p2)]) hx hb dX0_hindrance_9 rfl hl (by decide) rfl (fun ls hl => ?_)
  refine lv_aload_n hx hb dX0_hindrance_10 rfl (lv_at hl 1 rfl) ?_
  refine va_get (ci := 0) (C := RX0) (T := TX0) (N := 7) hx hb hts hiX0 hown hK hP 0 rfl rfl 1 (by decide) (hts (.fieldLink RX0 20 "RiddleTrade$Exchange" "riddles" "LRiddleTrade$Table;") (List.mem_of_getElem? (i := 2) rfl)) (fun _ h9 => h9) rfl dX0_hindrance_11 ?_
  refine lv_iload_n hx hb dX0_hindrance_14 rfl (lv_at hl 0 rfl) ?_
  refine lv_iconst (v := 3) hx hb dX0_hindrance_15 (by decide) ?_
  obtain ⟨r3, hu4, h⟩ := ob1_el h
  refine kcVi (ci := 4) (q := (RX4, TX4, 3)) (ws1 := (w_X0_hindrance cI cC h0 h1 h3 h5 h7 h9 h11 h2 h4 h6 h8 h10 fT fR rR fA rA fS fE rnd)) ⟨hx, hb, hml, hown, hts⟩ [3, 4] [0, 1, 2, 5, 6, 7, 8, 9, 10] (c_X4_get l D cI cC cE h3 h4 _ 80 fR 4 rR r1 3 r3 hu4) (cwV 2 hts gX0_hindrance_X4_get rfl rfl rfl (by decide +kernel) ⟨Nat.le_of_ble_eq_true rfl, Nat.le_of_ble_eq_true rfl⟩) hK hP hD hS hA rfl rfl rfl rfl rfl rfl rfl rfl rfl hl.1 rfl (Nat.le_of_ble_eq_true rfl) dX0_hindrance_16 ⟨Nat.le_refl 0, Nat.le_refl 0⟩ (fun H locs hP hD hS => ?_)
  refine lv_if_eq (tgt := 24) hx hb dX0_hindrance_19 (by decide) (fun c5 => ?_) (fun c5 => ?_)
  · have h := (k_iB h).1 c5
    refine lv_aload_n hx hb dX0_hindrance_24 rfl (lv_at hl 1 rfl) ?_
    refine va_get (ci := 0) (C := RX0) (T := TX0) (N := 7) hx hb hts hiX0 hown hK hP 0 rfl rfl 1 (by decide) (hts (.fieldLink RX0 20 "RiddleTrade$Exchange" "riddles" "LRiddleTrade$Table;") (List.mem_of_getElem? (i := 2) rfl)) (fun _ h9 => h9) rfl dX0_hindrance_25 ?_
    refine lv_iload_n hx hb dX0_hindrance_28 rfl (lv_at hl 0 rfl) ?_
    refine lv_iconst (v := 2) hx hb dX0_hindrance_29 (by decide) ?_
    obtain ⟨r6, hu7, h⟩ := ob1_el h
    refine kcVi (ci := 4) (q := (RX4, TX4, 3)) (ws1 := (w_X0_hindrance cI cC h0 h1 h3 h5 h7 h9 h11 h2 h4 h6 h8 h10 fT fR rR fA rA fS fE rnd)) ⟨hx, hb, hml, hown, hts⟩ [3, 4] [0, 1, 2, 5, 6, 7, 8, 9, 10] (c_X4_get l D cI cC cE h3 h4 _ 80 fR 4 rR r1 2 r6 hu7) (cwV 2 hts gX0_hindrance_X4_get rfl rfl rfl (by decide +kernel) ⟨Nat.le_of_ble_eq_true rfl, Nat.le_of_ble_eq_true rfl⟩) hK hP hD hS hA rfl rfl rfl rfl rfl rfl rfl rfl rfl hl.1 rfl (Nat.le_of_ble_eq_true rfl) dX0_hindrance_30 ⟨Nat.le_refl 0, Nat.le_refl 0⟩ (fun H locs hP hD hS => ?_)
    refine lv_aload_n hx hb dX0_hindrance_33 rfl (lv_at hl 1 rfl) ?_
    refine va_get (ci := 0) (C := RX0) (T := TX0) (N := 7) hx hb hts hiX0 hown hK hP 0 rfl rfl 2 (by decide) (hts (.fieldLink RX0 23 "RiddleTrade$Exchange" "answers" "LRiddleTrade$Table;") (List.mem_of_getElem? (i := 1) rfl)) (fun _ h9 => h9) rfl dX0_hindrance_34 ?_
    refine lv_iload_n hx hb dX0_hindrance_37 rfl (lv_at hl 2 rfl) ?_
    refine lv_iconst (v := 2) hx hb dX0_hindrance_38 (by decide) ?_
    obtain ⟨r8, hu9, h⟩ := ob1_el h
    refine kcVi (ci := 4) (q := (RX4, TX4, 3)) (ws1 := (w_X0_hindrance cI cC h0 h1 h3 h5 h7 h9 h11 h2 h4 h6 h8 h10 fT fR rR fA rA fS fE rnd)) ⟨hx, hb, hml, hown, hts⟩ [5, 6] [0, 1, 2, 3, 4, 7, 8, 9, 10] (c_X4_get l D cI cC cE h5 h6 _ 320 fA 8 rA p1 2 r8 hu9) (cwV 2 hts gX0_hindrance_X4_get rfl rfl rfl (by decide +kernel) ⟨Nat.le_of_ble_eq_true rfl, Nat.le_of_ble_eq_true rfl⟩) hK hP hD hS hA rfl rfl rfl rfl rfl rfl rfl rfl rfl hl.1 rfl (Nat.le_of_ble_eq_true rfl) dX0_hindrance_39 ⟨Nat.le_refl 0, Nat.le_refl 0⟩ (fun H locs hP hD hS => ?_)
    refine lv_icmp_eq (tgt := 47) hx hb dX0_hindrance_42 (by decide) (fun c10 => ?_) (fun c10 => ?_)
    · have h := (k_iB h).1 c10
      refine lv_aload_n hx hb dX0_hindrance_47 rfl (lv_at hl 1 rfl) ?_
      refine va_get (ci := 0) (C := RX0) (T := TX0) (N := 7) hx hb hts hiX0 hown hK hP 0 rfl rfl 2 (by decide) (hts (.fieldLink RX0 23 "RiddleTrade$Exchange" "answers" "LRiddleTrade$Table;") (List.mem_of_getElem? (i := 1) rfl)) (fun _ h9 => h9) rfl dX0_hindrance_48 ?_
      refine lv_iload_n hx hb dX0_hindrance_51 rfl (lv_at hl 2 rfl) ?_
      refine lv_iconst (v := 3) hx hb dX0_hindrance_52 (by decide) ?_
      obtain ⟨r11, hu12, h⟩ := ob1_el h
      refine kcVi (ci := 4) (q := (RX4, TX4, 3)) (ws1 := (w_X0_hindrance cI cC h0 h1 h3 h5 h7 h9 h11 h2 h4 h6 h8 h10 fT fR rR fA rA fS fE rnd)) ⟨hx, hb, hml, hown, hts⟩ [5, 6] [0, 1, 2, 3, 4, 7, 8, 9, 10] (c_X4_get l D cI cC cE h5 h6 _ 320 fA 8 rA p1 3 r11 hu12) (cwV 2 hts gX0_hindrance_X4_get rfl rfl rfl (by decide +kernel) ⟨Nat.le_of_ble_eq_true rfl, Nat.le_of_ble_eq_true rfl⟩) hK hP hD hS hA rfl rfl rfl rfl rfl rfl rfl rfl rfl hl.1 rfl (Nat.le_of_ble_eq_true rfl) dX0_hindrance_53 ⟨Nat.le_refl 0, Nat.le_refl 0⟩ (fun H locs hP hD hS => ?_)
      refine lv_istore (lv' := [(4, .int r11), (3, .int r1), (0, .ref h0), (1, .int p1), (2, .int p2)]) hx hb dX0_hindrance_56 hl (by decide) rfl (fun ls hl => ?_)
      refine lv_aload_n hx hb dX0_hindrance_58 rfl (lv_at hl 2 rfl) ?_
      refine lv_iconst (v := 0) hx hb dX0_hindrance_59 (by decide) ?_
      refine lv_iload hx hb dX0_hindrance_60 (lv_at hl 0 rfl) ?_
      obtain ⟨r13, hu14, h⟩ := ob1_el h
      refine kcVi (ci := 0) (q := (RX0, TX0, 7)) (ws1 := (w_X0_hindrance cI cC h0 h1 h3 h5 h7 h9 h11 h2 h4 h6 h8 h10 fT fR rR fA rA fS fE rnd)) ⟨hx, hb, hml, hown, hts⟩ [0, 7, 8] [1, 2, 3, 4, 5, 6, 9, 10] (c_X0_told l D cI cC cE h0 h1 h3 h5 h7 h9 h11 h8 _ fS rnd 0 r11 r13 hu14) (cwV 2 hts gX0_hindrance_X0_told rfl rfl rfl (by decide +kernel) ⟨Nat.le_of_ble_eq_true rfl, Nat.le_of_ble_eq_true rfl⟩) hK hP hD hS hA rfl rfl rfl rfl rfl rfl rfl rfl rfl hl.1 rfl (Nat.le_of_ble_eq_true rfl) dX0_hindrance_62 ⟨Nat.le_refl 0, Nat.le_refl 0⟩ (fun H locs hP hD hS => ?_)
      refine lv_aload_n hx hb dX0_hindrance_65 rfl (lv_at hl 2 rfl) ?_
      refine lv_iconst (v := 1) hx hb dX0_hindrance_66 (by decide) ?_
      refine lv_iload hx hb dX0_hindrance_67 (lv_at hl 0 rfl) ?_
      obtain ⟨r15, hu16, h⟩ := ob1_el h
      refine kcVi (ci := 0) (q := (RX0, TX0, 7)) (ws1 := (w_X0_hindrance cI cC h0 h1 h3 h5 h7 h9 h11 h2 h4 h6 h8 h10 fT fR rR fA rA fS fE rnd)) ⟨hx, hb, hml, hown, hts⟩ [0, 7, 8] [1, 2, 3, 4, 5, 6, 9, 10] (c_X0_told l D cI cC cE h0 h1 h3 h5 h7 h9 h11 h8 _ fS rnd 1 r11 r15 hu16) (cwV 2 hts gX0_hindrance_X0_told rfl rfl rfl (by decide +kernel) ⟨Nat.le_of_ble_eq_true rfl, Nat.le_of_ble_eq_true rfl⟩) hK hP hD hS hA rfl rfl rfl rfl rfl rfl rfl rfl rfl hl.1 rfl (Nat.le_of_ble_eq_true rfl) dX0_hindrance_69 ⟨Nat.le_refl 0, Nat.le_refl 0⟩ (fun H locs hP hD hS => ?_)
      refine lv_isub hx hb dX0_hindrance_72 ?_
      refine va_mabs hx hb (hml.trans hl.1.symm) hown (hts _ (List.mem_of_getElem? (i := 3) rfl)) (hts _ (List.mem_of_getElem? (i := 4) rfl)) (hts _ (List.mem_of_getElem? (i := 5) rfl)) (hts _ (List.mem_of_getElem? (i := 6) rfl)) (Nat.le_of_ble_eq_true rfl) (Nat.le_of_ble_eq_true rfl) (Nat.le_refl 0) (Nat.le_refl 0) dX0_hindrance_73 ?_
      refine lv_aload_n hx hb dX0_hindrance_76 rfl (lv_at hl 2 rfl) ?_
      refine va_get (ci := 0) (C := RX0) (T := TX0) (N := 7) hx hb hts hiX0 hown hK hP 0 rfl rfl 4 (by decide) (hts (.fieldLink RX0 29 "RiddleTrade$Exchange" "settings" "LRiddleTrade$Table;") (List.mem_of_getElem? (i := 7) rfl)) (fun _ h9 => h9) rfl dX0_hindrance_77 ?_
      refine lv_iconst (v := 0) hx hb dX0_hindrance_80 (by decide) ?_
      refine lv_iconst (v := 0) hx hb dX0_hindrance_81 (by decide) ?_
      obtain ⟨r17, hu18, h⟩ := ob1_el h
      refine kcVi (ci := 4) (q := (RX4, TX4, 3)) (ws1 := (w_X0_hindrance cI cC h0 h1 h3 h5 h7 h9 h11 h2 h4 h6 h8 h10 fT fR rR fA rA fS fE rnd)) ⟨hx, hb, hml, hown, hts⟩ [9, 10] [0, 1, 2, 3, 4, 5, 6, 7, 8] (c_X4_get l D cI cC cE h9 h10 _ 12 fE 3 4 0 0 r17 hu18) (cwV 2 hts gX0_hindrance_X4_get rfl rfl rfl (by decide +kernel) ⟨Nat.le_of_ble_eq_true rfl, Nat.le_of_ble_eq_true rfl⟩) hK hP hD hS hA rfl rfl rfl rfl rfl rfl rfl rfl rfl hl.1 rfl (Nat.le_of_ble_eq_true rfl) dX0_hindrance_82 ⟨Nat.le_refl 0, Nat.le_refl 0⟩ (fun H locs hP hD hS => ?_)
      refine lv_icmp_le (tgt := 90) hx hb dX0_hindrance_85 (by decide) (fun c19 => ?_) (fun c19 => ?_)
      · have h := (k_iB h).1 c19
        refine lv_aload_n hx hb dX0_hindrance_90 rfl (lv_at hl 2 rfl) ?_
        refine va_get (ci := 0) (C := RX0) (T := TX0) (N := 7) hx hb hts hiX0 hown hK hP 0 rfl rfl 0 (by decide) (hts (.fieldLink RX0 16 "RiddleTrade$Exchange" "traders" "LRiddleTrade$Table;") (List.mem_of_getElem? (i := 8) rfl)) (fun _ h9 => h9) rfl dX0_hindrance_91 ?_
        refine lv_aload_n hx hb dX0_hindrance_94 rfl (lv_at hl 2 rfl) ?_
        refine va_get (ci := 0) (C := RX0) (T := TX0) (N := 7) hx hb hts hiX0 hown hK hP 0 rfl rfl 1 (by decide) (hts (.fieldLink RX0 20 "RiddleTrade$Exchange" "riddles" "LRiddleTrade$Table;") (List.mem_of_getElem? (i := 2) rfl)) (fun _ h9 => h9) rfl dX0_hindrance_95 ?_
        refine lv_iload_n hx hb dX0_hindrance_98 rfl (lv_at hl 1 rfl) ?_
        refine lv_iconst (v := 0) hx hb dX0_hindrance_99 (by decide) ?_
        obtain ⟨r20, hu21, h⟩ := ob1_el h
        refine kcVi (ci := 4) (q := (RX4, TX4, 3)) (ws1 := (w_X0_hindrance cI cC h0 h1 h3 h5 h7 h9 h11 h2 h4 h6 h8 h10 fT fR rR fA rA fS fE rnd)) ⟨hx, hb, hml, hown, hts⟩ [3, 4] [0, 1, 2, 5, 6, 7, 8, 9, 10] (c_X4_get l D cI cC cE h3 h4 _ 80 fR 4 rR r1 0 r20 hu21) (cwV 2 hts gX0_hindrance_X4_get rfl rfl rfl (by decide +kernel) ⟨Nat.le_of_ble_eq_true rfl, Nat.le_of_ble_eq_true rfl⟩) hK hP hD hS hA rfl rfl rfl rfl rfl rfl rfl rfl rfl hl.1 rfl (Nat.le_of_ble_eq_true rfl) dX0_hindrance_100 ⟨Nat.le_refl 0, Nat.le_refl 0⟩ (fun H locs hP hD hS => ?_)
        refine lv_iconst (v := 0) hx hb dX0_hindrance_103 (by decide) ?_
        obtain ⟨r22, hu23, h⟩ := ob1_el h
        refine kcVi (ci := 4) (q := (RX4, TX4, 3)) (ws1 := (w_X0_hindrance cI cC h0 h1 h3 h5 h7 h9 h11 h2 h4 h6 h8 h10 fT fR rR fA rA fS fE rnd)) ⟨hx, hb, hml, hown, hts⟩ [1, 2] [0, 3, 4, 5, 6, 7, 8, 9, 10] (c_X4_get l D cI cC cE h1 h2 _ 16 fT 2 8 r20 0 r22 hu23) (cwV 2 hts gX0_hindrance_X4_get rfl rfl rfl (by decide +kernel) ⟨Nat.le_of_ble_eq_true rfl, Nat.le_of_ble_eq_true rfl⟩) hK hP hD hS hA rfl rfl rfl rfl rfl rfl rfl rfl rfl hl.1 rfl (Nat.le_of_ble_eq_true rfl) dX0_hindrance_104 ⟨Nat.le_refl 0, Nat.le_refl 0⟩ (fun H locs hP hD hS => ?_)
        refine lv_istore (lv' := [(5, .int r22), (4, .int r11), (3, .int r1), (0, .ref h0), (1, .int p1), (2, .int p2)]) hx hb dX0_hindrance_107 hl (by decide) rfl (fun ls hl => ?_)
        refine lv_iload hx hb dX0_hindrance_109 (lv_at hl 0 rfl) ?_
        refine lv_iload_n hx hb dX0_hindrance_111 rfl (lv_at hl 5 rfl) ?_
        refine lv_isub hx hb dX0_hindrance_112 ?_
        refine lv_aload_n hx hb dX0_hindrance_113 rfl (lv_at hl 3 rfl) ?_
        refine va_get (ci := 0) (C := RX0) (T := TX0) (N := 7) hx hb hts hiX0 hown hK hP 0 rfl rfl 4 (by decide) (hts (.fieldLink RX0 29 "RiddleTrade$Exchange" "settings" "LRiddleTrade$Table;") (List.mem_of_getElem? (i := 7) rfl)) (fun _ h9 => h9) rfl dX0_hindrance_114 ?_
        refine lv_iconst (v := 3) hx hb dX0_hindrance_117 (by decide) ?_
        refine lv_iconst (v := 0) hx hb dX0_hindrance_118 (by decide) ?_
        obtain ⟨r24, hu25, h⟩ := ob1_el h
        refine kcVi (ci := 4) (q := (RX4, TX4, 3)) (ws1 := (w_X0_hindrance cI cC h0 h1 h3 h5 h7 h9 h11 h2 h4 h6 h8 h10 fT fR rR fA rA fS fE rnd)) ⟨hx, hb, hml, hown, hts⟩ [9, 10] [0, 1, 2, 3, 4, 5, 6, 7, 8] (c_X4_get l D cI cC cE h9 h10 _ 12 fE 3 4 3 0 r24 hu25) (cwV 2 hts gX0_hindrance_X4_get rfl rfl rfl (by decide +kernel) ⟨Nat.le_of_ble_eq_true rfl, Nat.le_of_ble_eq_true rfl⟩) hK hP hD hS hA rfl rfl rfl rfl rfl rfl rfl rfl rfl hl.1 rfl (Nat.le_of_ble_eq_true rfl) dX0_hindrance_119 ⟨Nat.le_refl 0, Nat.le_refl 0⟩ (fun H locs hP hD hS => ?_)
        refine lv_ineg hx hb dX0_hindrance_122 ?_
        refine lv_icmp_ge (tgt := 130) hx hb dX0_hindrance_123 (by decide) (fun c26 => ?_) (fun c26 => ?_)
        · have h := (k_iB h).1 c26
          refine lv_iconst (v := 0) hx hb dX0_hindrance_130 (by decide) ?_
          obtain rfl := Option.some.inj h
          exact fin _ _ _ _ dX0_hindrance_131 hP hD hS
        · have h := (k_iB h).2 c26
          refine lv_iconst (v := 4) hx hb dX0_hindrance_126 (by decide) ?_
          refine lv_goto (tgt := 131) hx hb dX0_hindrance_127 (by decide) ?_
          obtain rfl := Option.some.inj h
          exact fin _ _ _ _ dX0_hindrance_131 hP hD hS
      · have h := (k_iB h).2 c19
        refine lv_iconst (v := 3) hx hb dX0_hindrance_88 (by decide) ?_
        obtain rfl := Option.some.inj h
        exact fin _ _ _ _ dX0_hindrance_89 hP hD hS
    · have h := (k_iB h).2 c10
      refine lv_iconst (v := 2) hx hb dX0_hindrance_45 (by decide) ?_
      obtain rfl := Option.some.inj h
      exact fin _ _ _ _ dX0_hindrance_46 hP hD hS
  · have h := (k_iB h).2 c5
    refine lv_iconst (v := 1) hx hb dX0_hindrance_22 (by decide) ?_
    obtain rfl := Option.some.inj h
    exact fin _ _ _ _ dX0_hindrance_23 hP hD hS
abbrev w_X0_errorIfNotWaiting (cI cC : ClassId) (h0 h1 h3 h5 h7 h9 h11 h6 : Nat) (fA : Nat → Int32) (rA : Int32) (rnd : Int32) : va_W := [(h0, .inr (0, [.ref h1, .ref h3, .ref h5, .ref h7, .ref h9, .ref h11, .int rnd])), (h5, .inr (4, [.ref h6, .int 8, .int rA])), (h6, .inl (cI, 320, .inl fA))]
def d_X0_errorIfNotWaiting (p1 : Int32) (fA : Nat → Int32) (rA : Int32) : Option (Int32) :=
    if (d_X4_has p1 rA) = 0 then (some (-1))
    else (ob1 (d_X4_get 320 p1 4 fA 8) fun r2 =>
    if r2 = 0 then (some 0)
    else (some (-4)))
set_option maxHeartbeats 4000000 in
set_option maxRecDepth 100000 in
theorem c_X0_errorIfNotWaiting (l : Launch) (D : va_G) (cI cC cE : ClassId) (h0 h1 h3 h5 h7 h9 h11 h6 : Nat) (sz : Nat) (fA : Nat → Int32) (rA : Int32) (rnd : Int32) (p1 : Int32) (r0 : Int32) (h : d_X0_errorIfNotWaiting p1 fA rA = some r0) : Met l yX0_errorIfNotWaiting wsX0_errorIfNotWaiting ({ frames := 1, cells := 0, slots := 0, locals := 23 } : Room) (kP D (kT cI cC cE) [.ref h0, .int p1] (w_X0_errorIfNotWaiting cI cC h0 h1 h3 h5 h7 h9 h11 h6 fA rA rnd) sz) (kQi D (kT cI cC cE) (w_X0_errorIfNotWaiting cI cC h0 h1 h3 h5 h7 h9 h11 h6 fA rA rnd) (w_X0_errorIfNotWaiting cI cC h0 h1 h3 h5 h7 h9 h11 h6 fA rA rnd) sz r0) 0 0 (va_A (w_X0_errorIfNotWaiting cI cC h0 h1 h3 h5 h7 h9 h11 h6 fA rA rnd) sz) := by
  refine kMetI (cc := cX0_errorIfNotWaiting) (maxL := 2) (own := RX0) (by decide) rfl (Nat.le_of_ble_eq_true rfl) rfl ?_
  intro p e s m below meth c A Q hx hb hml hown hts hP hK hD hA hS hname fin ls hl
  have hl : lv_has ls 2 [(0, .ref h0), (1, .int p1)] := hl
  have hiX0 : ∀ w ∈ u_ws RX0 TX0 7, w ∈ wsX0_errorIfNotWaiting := by decide +kernel
  dsimp only [d_X0_errorIfNotWaiting] at h
  refine lv_aload_n hx hb dX0_errorIfNotWaiting_0 rfl (lv_at hl 0 rfl) ?_
  refine va_get (ci := 0) (C := RX0) (T := TX0) (N := 7) hx hb hts hiX0 hown hK hP 0 rfl rfl 2 (by decide) (hts (.fieldLink RX0 23 "RiddleTrade$Exchange" "answers" "LRiddleTrade$Table;") (List.mem_of_getElem? (i := 1) rfl)) (fun _ h9 => h9) rfl dX0_errorIfNotWaiting_1 ?_
  refine lv_iload_n hx hb dX0_errorIfNotWaiting_4 rfl (lv_at hl 1 rfl) ?_
  refine kcVi (ci := 4) (q := (RX4, TX4, 3)) (ws1 := (w_X0_errorIfNotWaiting cI cC h0 h1 h3 h5 h7 h9 h11 h6 fA rA rnd)) ⟨hx, hb, hml, hown, hts⟩ [1] [0, 2] (c_X4_has l D cI cC cE h5 h6 _ 8 rA p1 (d_X4_has p1 rA) rfl) (cwV 1 hts gX0_errorIfNotWaiting_X4_has rfl rfl rfl (by decide +kernel) ⟨Nat.le_of_ble_eq_true rfl, Nat.le_of_ble_eq_true rfl⟩) hK hP hD hS hA rfl rfl rfl rfl rfl rfl rfl rfl rfl hl.1 rfl (Nat.le_of_ble_eq_true rfl) dX0_errorIfNotWaiting_5 ⟨Nat.le_refl 0, Nat.le_refl 0⟩ (fun H locs hP hD hS => ?_)
  refine lv_if_ne (tgt := 13) hx hb dX0_errorIfNotWaiting_8 (by decide) (fun c1 => ?_) (fun c1 => ?_)
  · have h := (k_iB h).2 c1
    refine lv_aload_n hx hb dX0_errorIfNotWaiting_13 rfl (lv_at hl 0 rfl) ?_
    refine va_get (ci := 0) (C := RX0) (T := TX0) (N := 7) hx hb hts hiX0 hown hK hP 0 rfl rfl 2 (by decide) (hts (.fieldLink RX0 23 "RiddleTrade$Exchange" "answers" "LRiddleTrade$Table;") (List.mem_of_getElem? (i := 1) rfl)) (fun _ h9 => h9) rfl dX0_errorIfNotWaiting_14 ?_
    refine lv_iload_n hx hb dX0_errorIfNotWaiting_17 rfl (lv_at hl 1 rfl) ?_
    refine lv_iconst (v := 4) hx hb dX0_errorIfNotWaiting_18 (by decide) ?_
    obtain ⟨r2, hu3, h⟩ := ob1_el h
    refine kcVi (ci := 4) (q := (RX4, TX4, 3)) (ws1 := (w_X0_errorIfNotWaiting cI cC h0 h1 h3 h5 h7 h9 h11 h6 fA rA rnd)) ⟨hx, hb, hml, hown, hts⟩ [1, 2] [0] (c_X4_get l D cI cC cE h5 h6 _ 320 fA 8 rA p1 4 r2 hu3) (cwV 2 hts gX0_errorIfNotWaiting_X4_get rfl rfl rfl (by decide +kernel) ⟨Nat.le_of_ble_eq_true rfl, Nat.le_of_ble_eq_true rfl⟩) hK hP hD hS hA rfl rfl rfl rfl rfl rfl rfl rfl rfl hl.1 rfl (Nat.le_of_ble_eq_true rfl) dX0_errorIfNotWaiting_19 ⟨Nat.le_refl 0, Nat.le_refl 0⟩ (fun H locs hP hD hS => ?_)
    refine lv_if_ne (tgt := 29) hx hb dX0_errorIfNotWaiting_22 (by decide) (fun c4 => ?_) (fun c4 => ?_)
    · have h := (k_iB h).2 c4
      refine lv_bipush (v := (-4)) hx hb dX0_errorIfNotWaiting_29 (by decide) ?_
      obtain rfl := Option.some.inj h
      exact fin _ _ _ _ dX0_errorIfNotWaiting_31 hP hD hS
    · have h := (k_iB h).1 c4
      refine lv_iconst (v := 0) hx hb dX0_errorIfNotWaiting_25 (by decide) ?_
      refine lv_goto (tgt := 31) hx hb dX0_errorIfNotWaiting_26 (by decide) ?_
      obtain rfl := Option.some.inj h
      exact fin _ _ _ _ dX0_errorIfNotWaiting_31 hP hD hS
  · have h := (k_iB h).1 c1
    refine lv_iconst (v := (-1)) hx hb dX0_errorIfNotWaiting_11 (by decide) ?_
    obtain rfl := Option.some.inj h
    exact fin _ _ _ _ dX0_errorIfNotWaiting_12 hP hD hS
abbrev w_X0_waiting (cI cC : ClassId) (h0 h1 h3 h5 h7 h9 h11 h12 : Nat) (hd : Int32) (ln : Int32) (rnd : Int32) : va_W := [(h0, .inr (0, [.ref h1, .ref h3, .ref h5, .ref h7, .ref h9, .ref h11, .int rnd])), (h11, .inr (3, [.ref h12, .int hd, .int ln]))]
def d_X0_waiting (ln : Int32) : Int32 :=
    (d_X3_length ln)
set_option maxHeartbeats 4000000 in
set_option maxRecDepth 100000 in
theorem c_X0_waiting (l : Launch) (D : va_G) (cI cC cE : ClassId) (h0 h1 h3 h5 h7 h9 h11 h12 : Nat) (sz : Nat) (hd : Int32) (ln : Int32) (rnd : Int32) (r0 : Int32) (h : d_X0_waiting ln = r0) : Met l yX0_waiting wsX0_waiting ({ frames := 1, cells := 0, slots := 0, locals := 20 } : Room) (kP D (kT cI cC cE) [.ref h0] (w_X0_waiting cI cC h0 h1 h3 h5 h7 h9 h11 h12 hd ln rnd) sz) (kQi D (kT cI cC cE) (w_X0_waiting cI cC h0 h1 h3 h5 h7 h9 h11 h12 hd ln rnd) (w_X0_waiting cI cC h0 h1 h3 h5 h7 h9 h11 h12 hd ln rnd) sz r0) 0 0 (va_A (w_X0_waiting cI cC h0 h1 h3 h5 h7 h9 h11 h12 hd ln rnd) sz) := by
  refine kMetI (cc := cX0_waiting) (maxL := 1) (own := RX0) (by decide) rfl (Nat.le_of_ble_eq_true rfl) rfl ?_
  intro p e s m below meth c A Q hx hb hml hown hts hP hK hD hA hS hname fin ls hl
  have hl : lv_has ls 1 [(0, .ref h0)] := hl
  have hiX0 : ∀ w ∈ u_ws RX0 TX0 7, w ∈ wsX0_waiting := by decide +kernel
  dsimp only [d_X0_waiting] at h
  refine lv_aload_n hx hb dX0_waiting_0 rfl (lv_at hl 0 rfl) ?_
  refine va_get (ci := 0) (C := RX0) (T := TX0) (N := 7) hx hb hts hiX0 hown hK hP 0 rfl rfl 5 (by decide) (hts (.fieldLink RX0 35 "RiddleTrade$Exchange" "row" "LRiddleTrade$Row;") (List.mem_of_getElem? (i := 1) rfl)) (fun _ h9 => h9) rfl dX0_waiting_1 ?_
  refine kcVi (ci := 3) (q := (RX3, TX3, 3)) (ws1 := (w_X0_waiting cI cC h0 h1 h3 h5 h7 h9 h11 h12 hd ln rnd)) ⟨hx, hb, hml, hown, hts⟩ [1] [0] (c_X3_length l D cI cC cE h11 h12 _ hd ln (d_X3_length ln) rfl) (cwV 0 hts gX0_waiting_X3_length rfl rfl rfl (by decide +kernel) ⟨Nat.le_of_ble_eq_true rfl, Nat.le_of_ble_eq_true rfl⟩) hK hP hD hS hA rfl rfl rfl rfl rfl rfl rfl rfl rfl hl.1 rfl (Nat.le_of_ble_eq_true rfl) dX0_waiting_4 ⟨Nat.le_refl 0, Nat.le_refl 0⟩ (fun H locs hP hD hS => ?_)
  obtain rfl := h
  exact fin _ _ _ _ dX0_waiting_7 hP hD hS
abbrev w_X0_waitingAt (cI cC : ClassId) (h0 h1 h3 h5 h7 h9 h11 h12 : Nat) (ri : Nat → Int32) (hd : Int32) (ln : Int32) (rnd : Int32) : va_W := [(h0, .inr (0, [.ref h1, .ref h3, .ref h5, .ref h7, .ref h9, .ref h11, .int rnd])), (h11, .inr (3, [.ref h12, .int hd, .int ln])), (h12, .inl (cI, 40, .inl ri))]
def d_X0_waitingAt (p1 : Int32) (ri : Nat → Int32) (hd : Int32) (ln : Int32) : Option (Int32) :=
    ob1 (d_X3_at p1 ri hd ln) fun r1 =>
    some r1
set_option maxHeartbeats 4000000 in
set_option maxRecDepth 100000 in
theorem c_X0_waitingAt (l : Launch) (D : va_G) (cI cC cE : ClassId) (h0 h1 h3 h5 h7 h9 h11 h12 : Nat) (sz : Nat) (ri : Nat → Int32) (hd : Int32) (ln : Int32) (rnd : Int32) (p1 : Int32) (r0 : Int32) (h : d_X0_waitingAt p1 ri hd ln = some r0) : Met l yX0_waitingAt wsX0_waitingAt ({ frames := 1, cells := 0, slots := 0, locals := 22 } : Room) (kP D (kT cI cC cE) [.ref h0, .int p1] (w_X0_waitingAt cI cC h0 h1 h3 h5 h7 h9 h11 h12 ri hd ln rnd) sz) (kQi D (kT cI cC cE) (w_X0_waitingAt cI cC h0 h1 h3 h5 h7 h9 h11 h12 ri hd ln rnd) (w_X0_waitingAt cI cC h0 h1 h3 h5 h7 h9 h11 h12 ri hd ln rnd) sz r0) 0 0 (va_A (w_X0_waitingAt cI cC h0 h1 h3 h5 h7 h9 h11 h12 ri hd ln rnd) sz) := by
  refine kMetI (cc := cX0_waitingAt) (maxL := 2) (own := RX0) (by decide) rfl (Nat.le_of_ble_eq_true rfl) rfl ?_
  intro p e s m below meth c A Q hx hb hml hown hts hP hK hD hA hS hname fin ls hl
  have hl : lv_has ls 2 [(0, .ref h0), (1, .int p1)] := hl
  have hiX0 : ∀ w ∈ u_ws RX0 TX0 7, w ∈ wsX0_waitingAt := by decide +kernel
  dsimp only [d_X0_waitingAt] at h
  refine lv_aload_n hx hb dX0_waitingAt_0 rfl (lv_at hl 0 rfl) ?_
  refine va_get (ci := 0) (C := RX0) (T := TX0) (N := 7) hx hb hts hiX0 hown hK hP 0 rfl rfl 5 (by decide) (hts (.fieldLink RX0 35 "RiddleTrade$Exchange" "row" "LRiddleTrade$Row;") (List.mem_of_getElem? (i := 1) rfl)) (fun _ h9 => h9) rfl dX0_waitingAt_1 ?_
  refine lv_iload_n hx hb dX0_waitingAt_4 rfl (lv_at hl 1 rfl) ?_
  obtain ⟨r1, hu2, h⟩ := ob1_el h
  refine kcVi (ci := 3) (q := (RX3, TX3, 3)) (ws1 := (w_X0_waitingAt cI cC h0 h1 h3 h5 h7 h9 h11 h12 ri hd ln rnd)) ⟨hx, hb, hml, hown, hts⟩ [1, 2] [0] (c_X3_at l D cI cC cE h11 h12 _ ri hd ln p1 r1 hu2) (cwV 1 hts gX0_waitingAt_X3_at rfl rfl rfl (by decide +kernel) ⟨Nat.le_of_ble_eq_true rfl, Nat.le_of_ble_eq_true rfl⟩) hK hP hD hS hA rfl rfl rfl rfl rfl rfl rfl rfl rfl hl.1 rfl (Nat.le_of_ble_eq_true rfl) dX0_waitingAt_5 ⟨Nat.le_refl 0, Nat.le_refl 0⟩ (fun H locs hP hD hS => ?_)
  obtain rfl := Option.some.inj h
  exact fin _ _ _ _ dX0_waitingAt_8 hP hD hS
abbrev w_X0_refuse (cI cC : ClassId) (h0 h1 h3 h5 h7 h9 h11 h6 : Nat) (fA : Nat → Int32) (rA : Int32) (rnd : Int32) : va_W := [(h0, .inr (0, [.ref h1, .ref h3, .ref h5, .ref h7, .ref h9, .ref h11, .int rnd])), (h5, .inr (4, [.ref h6, .int 8, .int rA])), (h6, .inl (cI, 320, .inl fA))]
def d_X0_refuse (p1 : Int32) (p2 : Int32) (fA : Nat → Int32) : Option ((Nat → Int32)) :=
    ob1 (d_X4_put 320 p1 4 2 fA 8) fun fA_1 =>
    ob1 (d_X4_put 320 p1 5 p2 fA_1 8) fun fA_3 =>
    some fA_3
set_option maxHeartbeats 4000000 in
set_option maxRecDepth 100000 in
theorem c_X0_refuse (l : Launch) (D : va_G) (cI cC cE : ClassId) (h0 h1 h3 h5 h7 h9 h11 h6 : Nat) (sz : Nat) (fA : Nat → Int32) (rA : Int32) (rnd : Int32) (p1 : Int32) (p2 : Int32) (o_fA : Nat → Int32) (h : d_X0_refuse p1 p2 fA = some o_fA) : Met l yX0_refuse wsX0_refuse ({ frames := 1, cells := 0, slots := 0, locals := 24 } : Room) (kP D (kT cI cC cE) [.ref h0, .int p1, .int p2] (w_X0_refuse cI cC h0 h1 h3 h5 h7 h9 h11 h6 fA rA rnd) sz) (kQv D (kT cI cC cE) (w_X0_refuse cI cC h0 h1 h3 h5 h7 h9 h11 h6 fA rA rnd) (w_X0_refuse cI cC h0 h1 h3 h5 h7 h9 h11 h6 o_fA rA rnd) sz) 0 0 (va_A (w_X0_refuse cI cC h0 h1 h3 h5 h7 h9 h11 h6 fA rA rnd) sz) := by
  refine kMetV (cc := cX0_refuse) (maxL := 3) (own := RX0) (by decide) rfl (Nat.le_of_ble_eq_true rfl) rfl ?_
  intro p e s m below meth c A Q hx hb hml hown hts hP hK hD hA hS hname fin ls hl
  have hl : lv_has ls 3 [(0, .ref h0), (1, .int p1), (2, .int p2)] := hl
  have hiX0 : ∀ w ∈ u_ws RX0 TX0 7, w ∈ wsX0_refuse := by decide +kernel
  dsimp only [d_X0_refuse] at h
  refine lv_aload_n hx hb dX0_refuse_0 rfl (lv_at hl 0 rfl) ?_
  refine va_get (ci := 0) (C := RX0) (T := TX0) (N := 7) hx hb hts hiX0 hown hK hP 0 rfl rfl 2 (by decide) (hts (.fieldLink RX0 23 "RiddleTrade$Exchange" "answers" "LRiddleTrade$Table;") (List.mem_of_getElem? (i := 1) rfl)) (fun _ h9 => h9) rfl dX0_refuse_1 ?_
  refine lv_iload_n hx hb dX0_refuse_4 rfl (lv_at hl 1 rfl) ?_
  refine lv_iconst (v := 4) hx hb dX0_refuse_5 (by decide) ?_
  refine lv_iconst (v := 2) hx hb dX0_refuse_6 (by decide) ?_
  obtain ⟨fA_1, hu2, h⟩ := ob1_el h
  refine kcVv (ci := 4) (q := (RX4, TX4, 3)) (ws1 := (w_X0_refuse cI cC h0 h1 h3 h5 h7 h9 h11 h6 fA_1 rA rnd)) ⟨hx, hb, hml, hown, hts⟩ [1, 2] [0] (c_X4_put l D cI cC cE h5 h6 _ 320 fA 8 rA p1 4 2 fA_1 hu2) (cwV 3 hts gX0_refuse_X4_put rfl rfl rfl (by decide +kernel) ⟨Nat.le_of_ble_eq_true rfl, Nat.le_of_ble_eq_true rfl⟩) hK hP hD hS hA rfl rfl rfl rfl rfl rfl rfl rfl rfl hl.1 rfl (Nat.le_of_ble_eq_true rfl) dX0_refuse_7 ⟨Nat.le_refl 0, Nat.le_refl 0⟩ (fun H locs hP hD hS => ?_)
  refine lv_aload_n hx hb dX0_refuse_10 rfl (lv_at hl 0 rfl) ?_
  refine va_get (ci := 0) (C := RX0) (T := TX0) (N := 7) hx hb hts hiX0 hown hK hP 0 rfl rfl 2 (by decide) (hts (.fieldLink RX0 23 "RiddleTrade$Exchange" "answers" "LRiddleTrade$Table;") (List.mem_of_getElem? (i := 1) rfl)) (fun _ h9 => h9) rfl dX0_refuse_11 ?_
  refine lv_iload_n hx hb dX0_refuse_14 rfl (lv_at hl 1 rfl) ?_
  refine lv_iconst (v := 5) hx hb dX0_refuse_15 (by decide) ?_
  refine lv_iload_n hx hb dX0_refuse_16 rfl (lv_at hl 2 rfl) ?_
  obtain ⟨fA_3, hu4, h⟩ := ob1_el h
  refine kcVv (ci := 4) (q := (RX4, TX4, 3)) (ws1 := (w_X0_refuse cI cC h0 h1 h3 h5 h7 h9 h11 h6 fA_3 rA rnd)) ⟨hx, hb, hml, hown, hts⟩ [1, 2] [0] (c_X4_put l D cI cC cE h5 h6 _ 320 fA_1 8 rA p1 5 p2 fA_3 hu4) (cwV 3 hts gX0_refuse_X4_put rfl rfl rfl (by decide +kernel) ⟨Nat.le_of_ble_eq_true rfl, Nat.le_of_ble_eq_true rfl⟩) hK hP hD hS hA rfl rfl rfl rfl rfl rfl rfl rfl rfl hl.1 rfl (Nat.le_of_ble_eq_true rfl) dX0_refuse_17 ⟨Nat.le_refl 0, Nat.le_refl 0⟩ (fun H locs hP hD hS => ?_)
  obtain rfl := Option.some.inj h
  exact fin _ _ _ _ dX0_refuse_20 hP hD hS
abbrev w_X0_doubt (cI cC : ClassId) (h0 h1 h3 h5 h7 h9 h11 h6 h12 : Nat) (fA : Nat → Int32) (rA : Int32) (ri : Nat → Int32) (hd : Int32) (ln : Int32) (rnd : Int32) : va_W := [(h0, .inr (0, [.ref h1, .ref h3, .ref h5, .ref h7, .ref h9, .ref h11, .int rnd])), (h5, .inr (4, [.ref h6, .int 8, .int rA])), (h6, .inl (cI, 320, .inl fA)), (h11, .inr (3, [.ref h12, .int hd, .int ln])), (h12, .inl (cI, 40, .inl ri))]
def d_X0_doubt (p1 : Int32) (fA : Nat → Int32) (ri : Nat → Int32) (hd : Int32) (ln : Int32) : Option ((Nat → Int32) × (Nat → Int32) × Int32) :=
    ob1 (d_X4_increase 320 p1 6 1 fA 8) fun fA_1 =>
    ob1 (d_X4_get 320 p1 6 fA_1 8) fun r3 =>
    if r3 < 3 then (ob2 (d_X3_addLast p1 ri hd ln) fun ri_6 ln_7 =>
    some (fA_1, ri_6, ln_7))
    else (ob1 (d_X0_refuse p1 3 fA_1) fun fA_9 =>
    some (fA_9, ri, ln))
set_option maxHeartbeats 4000000 in
set_option maxRecDepth 100000 in
theorem c_X0_doubt (l : Launch) (D : va_G) (cI cC cE : ClassId) (h0 h1 h3 h5 h7 h9 h11 h6 h12 : Nat) (sz : Nat) (fA : Nat → Int32) (rA : Int32) (ri : Nat → Int32) (hd : Int32) (ln : Int32) (rnd : Int32) (p1 : Int32) (o_fA : Nat → Int32) (o_ri : Nat → Int32) (o_ln : Int32) (h : d_X0_doubt p1 fA ri hd ln = some (o_fA, o_ri, o_ln)) : Met l yX0_doubt wsX0_doubt ({ frames := 2, cells := 0, slots := 0, locals := 46 } : Room) (kP D (kT cI cC cE) [.ref h0, .int p1] (w_X0_doubt cI cC h0 h1 h3 h5 h7 h9 h11 h6 h12 fA rA ri hd ln rnd) sz) (kQv D (kT cI cC cE) (w_X0_doubt cI cC h0 h1 h3 h5 h7 h9 h11 h6 h12 fA rA ri hd ln rnd) (w_X0_doubt cI cC h0 h1 h3 h5 h7 h9 h11 h6 h12 o_fA rA o_ri hd o_ln rnd) sz) 0 0 (va_A (w_X0_doubt cI cC h0 h1 h3 h5 h7 h9 h11 h6 h12 fA rA ri hd ln rnd) sz) := by
  refine kMetV (cc := cX0_doubt) (maxL := 2) (own := RX0) (by decide) rfl (Nat.le_of_ble_eq_true rfl) rfl ?_
  intro p e s m below meth c A Q hx hb hml hown hts hP hK hD hA hS hname fin ls hl
  have hl : lv_has ls 2 [(0, .ref h0), (1, .int p1)] := hl
  have hiX0 : ∀ w ∈ u_ws RX0 TX0 7, w ∈ wsX0_doubt := by decide +kernel
  dsimp only [d_X0_doubt] at h
  refine lv_aload_n hx hb dX0_doubt_0 rfl (lv_at hl 0 rfl) ?_
  refine va_get (ci := 0) (C := RX0) (T := TX0) (N := 7) hx hb hts hiX0 hown hK hP 0 rfl rfl 2 (by decide) (hts (.fieldLink RX0 23 "RiddleTrade$Exchange" "answers" "LRiddleTrade$Table;") (List.mem_of_getElem? (i := 1) rfl)) (fun _ h9 => h9) rfl dX0_doubt_1 ?_
  refine lv_iload_n hx hb dX0_doubt_4 rfl (lv_at hl 1 rfl) ?_
  refine lv_bipush (v := 6) hx hb dX0_doubt_5 (by decide) ?_
  refine lv_iconst (v := 1) hx hb dX0_doubt_7 (by decide) ?_
  obtain ⟨fA_1, hu2, h⟩ := ob1_el h
  refine kcVv (ci := 4) (q := (RX4, TX4, 3)) (ws1 := (w_X0_doubt cI cC h0 h1 h3 h5 h7 h9 h11 h6 h12 fA_1 rA ri hd ln rnd)) ⟨hx, hb, hml, hown, hts⟩ [1, 2] [0, 3, 4] (c_X4_increase l D cI cC cE h5 h6 _ 320 fA 8 rA p1 6 1 fA_1 hu2) (cwV 3 hts gX0_doubt_X4_increase rfl rfl rfl (by decide +kernel) ⟨Nat.le_of_ble_eq_true rfl, Nat.le_of_ble_eq_true rfl⟩) hK hP hD hS hA rfl rfl rfl rfl rfl rfl rfl rfl rfl hl.1 rfl (Nat.le_of_ble_eq_true rfl) dX0_doubt_8 ⟨Nat.le_refl 0, Nat.le_refl 0⟩ (fun H locs hP hD hS => ?_)
  refine lv_aload_n hx hb dX0_doubt_11 rfl (lv_at hl 0 rfl) ?_
  refine va_get (ci := 0) (C := RX0) (T := TX0) (N := 7) hx hb hts hiX0 hown hK hP 0 rfl rfl 2 (by decide) (hts (.fieldLink RX0 23 "RiddleTrade$Exchange" "answers" "LRiddleTrade$Table;") (List.mem_of_getElem? (i := 1) rfl)) (fun _ h9 => h9) rfl dX0_doubt_12 ?_
  refine lv_iload_n hx hb dX0_doubt_15 rfl (lv_at hl 1 rfl) ?_
  refine lv_bipush (v := 6) hx hb dX0_doubt_16 (by decide) ?_
  obtain ⟨r3, hu4, h⟩ := ob1_el h
  refine kcVi (ci := 4) (q := (RX4, TX4, 3)) (ws1 := (w_X0_doubt cI cC h0 h1 h3 h5 h7 h9 h11 h6 h12 fA_1 rA ri hd ln rnd)) ⟨hx, hb, hml, hown, hts⟩ [1, 2] [0, 3, 4] (c_X4_get l D cI cC cE h5 h6 _ 320 fA_1 8 rA p1 6 r3 hu4) (cwV 2 hts gX0_doubt_X4_get rfl rfl rfl (by decide +kernel) ⟨Nat.le_of_ble_eq_true rfl, Nat.le_of_ble_eq_true rfl⟩) hK hP hD hS hA rfl rfl rfl rfl rfl rfl rfl rfl rfl hl.1 rfl (Nat.le_of_ble_eq_true rfl) dX0_doubt_18 ⟨Nat.le_refl 0, Nat.le_refl 0⟩ (fun H locs hP hD hS => ?_)
  refine lv_iconst (v := 3) hx hb dX0_doubt_21 (by decide) ?_
  refine lv_icmp_lt (tgt := 34) hx hb dX0_doubt_22 (by decide) (fun c5 => ?_) (fun c5 => ?_)
  · have h := (k_iB h).1 c5
    refine lv_aload_n hx hb dX0_doubt_34 rfl (lv_at hl 0 rfl) ?_
    refine va_get (ci := 0) (C := RX0) (T := TX0) (N := 7) hx hb hts hiX0 hown hK hP 0 rfl rfl 5 (by decide) (hts (.fieldLink RX0 35 "RiddleTrade$Exchange" "row" "LRiddleTrade$Row;") (List.mem_of_getElem? (i := 2) rfl)) (fun _ h9 => h9) rfl dX0_doubt_35 ?_
    refine lv_iload_n hx hb dX0_doubt_38 rfl (lv_at hl 1 rfl) ?_
    obtain ⟨ri_6, ln_7, hu8, h⟩ := ob2_el h
    refine kcVv (ci := 3) (q := (RX3, TX3, 3)) (ws1 := (w_X0_doubt cI cC h0 h1 h3 h5 h7 h9 h11 h6 h12 fA_1 rA ri_6 hd ln_7 rnd)) ⟨hx, hb, hml, hown, hts⟩ [3, 4] [0, 1, 2] (c_X3_addLast l D cI cC cE h11 h12 _ ri hd ln p1 ri_6 ln_7 hu8) (cwV 1 hts gX0_doubt_X3_addLast rfl rfl rfl (by decide +kernel) ⟨Nat.le_of_ble_eq_true rfl, Nat.le_of_ble_eq_true rfl⟩) hK hP hD hS hA rfl rfl rfl rfl rfl rfl rfl rfl rfl hl.1 rfl (Nat.le_of_ble_eq_true rfl) dX0_doubt_39 ⟨Nat.le_refl 0, Nat.le_refl 0⟩ (fun H locs hP hD hS => ?_)
    obtain ⟨rfl, rfl, rfl⟩ := inj3 (Option.some.inj h)
    exact fin _ _ _ _ dX0_doubt_42 hP hD hS
  · have h := (k_iB h).2 c5
    refine lv_aload_n hx hb dX0_doubt_25 rfl (lv_at hl 0 rfl) ?_
    refine lv_iload_n hx hb dX0_doubt_26 rfl (lv_at hl 1 rfl) ?_
    refine lv_iconst (v := 3) hx hb dX0_doubt_27 (by decide) ?_
    obtain ⟨fA_9, hu10, h⟩ := ob1_el h
    refine kcVv (ci := 0) (q := (RX0, TX0, 7)) (ws1 := (w_X0_doubt cI cC h0 h1 h3 h5 h7 h9 h11 h6 h12 fA_9 rA ri hd ln rnd)) ⟨hx, hb, hml, hown, hts⟩ [0, 1, 2] [3, 4] (c_X0_refuse l D cI cC cE h0 h1 h3 h5 h7 h9 h11 h6 _ fA_1 rA rnd p1 3 fA_9 hu10) (cwV 2 hts gX0_doubt_X0_refuse rfl rfl rfl (by decide +kernel) ⟨Nat.le_of_ble_eq_true rfl, Nat.le_of_ble_eq_true rfl⟩) hK hP hD hS hA rfl rfl rfl rfl rfl rfl rfl rfl rfl hl.1 rfl (Nat.le_of_ble_eq_true rfl) dX0_doubt_28 ⟨Nat.le_refl 0, Nat.le_refl 0⟩ (fun H locs hP hD hS => ?_)
    refine lv_goto (tgt := 42) hx hb dX0_doubt_31 (by decide) ?_
    obtain ⟨rfl, rfl, rfl⟩ := inj3 (Option.some.inj h)
    exact fin _ _ _ _ dX0_doubt_42 hP hD hS
abbrev w_X0_pay (cI cC : ClassId) (h0 h1 h3 h5 h7 h9 h11 h2 h4 h6 : Nat) (fT : Nat → Int32) (fR : Nat → Int32) (rR : Int32) (fA : Nat → Int32) (rA : Int32) (rnd : Int32) : va_W := [(h0, .inr (0, [.ref h1, .ref h3, .ref h5, .ref h7, .ref h9, .ref h11, .int rnd])), (h1, .inr (4, [.ref h2, .int 2, .int 8])), (h2, .inl (cI, 16, .inl fT)), (h3, .inr (4, [.ref h4, .int 4, .int rR])), (h4, .inl (cI, 80, .inl fR)), (h5, .inr (4, [.ref h6, .int 8, .int rA])), (h6, .inl (cI, 320, .inl fA))]
def d_X0_pay (p1 : Int32) (p2 : Int32) (fT : Nat → Int32) (fR : Nat → Int32) (fA : Nat → Int32) : Option ((Nat → Int32) × (Nat → Int32) × (Nat → Int32)) :=
    ob1 (d_X4_get 320 p1 1 fA 8) fun r1 =>
    ob1 (d_X4_get 80 r1 0 fR 4) fun r3 =>
    ob1 (d_X4_increase 16 r3 0 (-p2) fT 2) fun fT_5 =>
    ob1 (d_X4_get 320 p1 0 fA 8) fun r7 =>
    ob1 (d_X4_increase 16 r7 0 p2 fT_5 2) fun fT_9 =>
    ob1 (d_X4_put 320 p1 4 1 fA 8) fun fA_11 =>
    ob1 (d_X4_put 320 p1 7 p2 fA_11 8) fun fA_13 =>
    ob1 (d_X4_put 80 r1 3 1 fR 4) fun fR_15 =>
    some (fT_9, fR_15, fA_13)
set_option maxHeartbeats 4000000 in
set_option maxRecDepth 100000 in
theorem c_X0_pay (l : Launch) (D : va_G) (cI cC cE : ClassId) (h0 h1 h3 h5 h7 h9 h11 h2 h4 h6 : Nat) (sz : Nat) (fT : Nat → Int32) (fR : Nat → Int32) (rR : Int32) (fA : Nat → Int32) (rA : Int32) (rnd : Int32) (p1 : Int32) (p2 : Int32) (o_fT : Nat → Int32) (o_fR : Nat → Int32) (o_fA : Nat → Int32) (h : d_X0_pay p1 p2 fT fR fA = some (o_fT, o_fR, o_fA)) : Met l yX0_pay wsX0_pay ({ frames := 1, cells := 0, slots := 0, locals := 24 } : Room) (kP D (kT cI cC cE) [.ref h0, .int p1, .int p2] (w_X0_pay cI cC h0 h1 h3 h5 h7 h9 h11 h2 h4 h6 fT fR rR fA rA rnd) sz) (kQv D (kT cI cC cE) (w_X0_pay cI cC h0 h1 h3 h5 h7 h9 h11 h2 h4 h6 fT fR rR fA rA rnd) (w_X0_pay cI cC h0 h1 h3 h5 h7 h9 h11 h2 h4 h6 o_fT o_fR rR o_fA rA rnd) sz) 0 0 (va_A (w_X0_pay cI cC h0 h1 h3 h5 h7 h9 h11 h2 h4 h6 fT fR rR fA rA rnd) sz) := by
  refine kMetV (cc := cX0_pay) (maxL := 4) (own := RX0) (by decide) rfl (Nat.le_of_ble_eq_true rfl) rfl ?_
  intro p e s m below meth c A Q hx hb hml hown hts hP hK hD hA hS hname fin ls hl
  have hl : lv_has ls 4 [(0, .ref h0), (1, .int p1), (2, .int p2)] := hl
  have hiX0 : ∀ w ∈ u_ws RX0 TX0 7, w ∈ wsX0_pay := by decide +kernel
  dsimp only [d_X0_pay] at h
  refine lv_aload_n hx hb dX0_pay_0 rfl (lv_at hl 0 rfl) ?_
  refine va_get (ci := 0) (C := RX0) (T := TX0) (N := 7) hx hb hts hiX0 hown hK hP 0 rfl rfl 2 (by decide) (hts (.fieldLink RX0 23 "RiddleTrade$Exchange" "answers" "LRiddleTrade$Table;") (List.mem_of_getElem? (i := 1) rfl)) (fun _ h9 => h9) rfl dX0_pay_1 ?_
  refine lv_iload_n hx hb dX0_pay_4 rfl (lv_at hl 1 rfl) ?_
  refine lv_iconst (v := 1) hx hb dX0_pay_5 (by decide) ?_
  obtain ⟨r1, hu2, h⟩ := ob1_el h
  refine kcVi (ci := 4) (q := (RX4, TX4, 3)) (ws1 := (w_X0_pay cI cC h0 h1 h3 h5 h7 h9 h11 h2 h4 h6 fT fR rR fA rA rnd)) ⟨hx, hb, hml, hown, hts⟩ [5, 6] [0, 1, 2, 3, 4] (c_X4_get l D cI cC cE h5 h6 _ 320 fA 8 rA p1 1 r1 hu2) (cwV 2 hts gX0_pay_X4_get rfl rfl rfl (by decide +kernel) ⟨Nat.le_of_ble_eq_true rfl, Nat.le_of_ble_eq_true rfl⟩) hK hP hD hS hA rfl rfl rfl rfl rfl rfl rfl rfl rfl hl.1 rfl (Nat.le_of_ble_eq_true rfl) dX0_pay_6 ⟨Nat.le_refl 0, Nat.le_refl 0⟩ (fun H locs hP hD hS => ?_)
  refine lv_istore_n (lv' := [(3, .int r1), (0, .ref h0), (1, .int p1), (2, .int p2)]) hx hb dX0_pay_9 rfl hl (by decide) rfl (fun ls hl => ?_)
  refine lv_aload_n hx hb dX0_pay_10 rfl (lv_at hl 1 rfl) ?_
  refine va_get (ci := 0) (C := RX0) (T := TX0) (N := 7) hx hb hts hiX0 hown hK hP 0 rfl rfl 0 (by decide) (hts (.fieldLink RX0 16 "RiddleTrade$Exchange" "traders" "LRiddleTrade$Table;") (List.mem_of_getElem? (i := 2) rfl)) (fun _ h9 => h9) rfl dX0_pay_11 ?_
  refine lv_aload_n hx hb dX0_pay_14 rfl (lv_at hl 1 rfl) ?_
  refine va_get (ci := 0) (C := RX0) (T := TX0) (N := 7) hx hb hts hiX0 hown hK hP 0 rfl rfl 1 (by decide) (hts (.fieldLink RX0 20 "RiddleTrade$Exchange" "riddles" "LRiddleTrade$Table;") (List.mem_of_getElem? (i := 3) rfl)) (fun _ h9 => h9) rfl dX0_pay_15 ?_
  refine lv_iload_n hx hb dX0_pay_18 rfl (lv_at hl 0 rfl) ?_
  refine lv_iconst (v := 0) hx hb dX0_pay_19 (by decide) ?_
  obtain ⟨r3, hu4, h⟩ := ob1_el h
  refine kcVi (ci := 4) (q := (RX4, TX4, 3)) (ws1 := (w_X0_pay cI cC h0 h1 h3 h5 h7 h9 h11 h2 h4 h6 fT fR rR fA rA rnd)) ⟨hx, hb, hml, hown, hts⟩ [3, 4] [0, 1, 2, 5, 6] (c_X4_get l D cI cC cE h3 h4 _ 80 fR 4 rR r1 0 r3 hu4) (cwV 2 hts gX0_pay_X4_get rfl rfl rfl (by decide +kernel) ⟨Nat.le_of_ble_eq_true rfl, Nat.le_of_ble_eq_true rfl⟩) hK hP hD hS hA rfl rfl rfl rfl rfl rfl rfl rfl rfl hl.1 rfl (Nat.le_of_ble_eq_true rfl) dX0_pay_20 ⟨Nat.le_refl 0, Nat.le_refl 0⟩ (fun H locs hP hD hS => ?_)
  refine lv_iconst (v := 0) hx hb dX0_pay_23 (by decide) ?_
  refine lv_iload_n hx hb dX0_pay_24 rfl (lv_at hl 3 rfl) ?_
  refine lv_ineg hx hb dX0_pay_25 ?_
  obtain ⟨fT_5, hu6, h⟩ := ob1_el h
  refine kcVv (ci := 4) (q := (RX4, TX4, 3)) (ws1 := (w_X0_pay cI cC h0 h1 h3 h5 h7 h9 h11 h2 h4 h6 fT_5 fR rR fA rA rnd)) ⟨hx, hb, hml, hown, hts⟩ [1, 2] [0, 3, 4, 5, 6] (c_X4_increase l D cI cC cE h1 h2 _ 16 fT 2 8 r3 0 (-p2) fT_5 hu6) (cwV 3 hts gX0_pay_X4_increase rfl rfl rfl (by decide +kernel) ⟨Nat.le_of_ble_eq_true rfl, Nat.le_of_ble_eq_true rfl⟩) hK hP hD hS hA rfl rfl rfl rfl rfl rfl rfl rfl rfl hl.1 rfl (Nat.le_of_ble_eq_true rfl) dX0_pay_26 ⟨Nat.le_refl 0, Nat.le_refl 0⟩ (fun H locs hP hD hS => ?_)
  refine lv_aload_n hx hb dX0_pay_29 rfl (lv_at hl 1 rfl) ?_
  refine va_get (ci := 0) (C := RX0) (T := TX0) (N := 7) hx hb hts hiX0 hown hK hP 0 rfl rfl 0 (by decide) (hts (.fieldLink RX0 16 "RiddleTrade$Exchange" "traders" "LRiddleTrade$Table;") (List.mem_of_getElem? (i := 2) rfl)) (fun _ h9 => h9) rfl dX0_pay_30 ?_
  refine lv_aload_n hx hb dX0_pay_33 rfl (lv_at hl 1 rfl) ?_
  refine va_get (ci := 0) (C := RX0) (T := TX0) (N := 7) hx hb hts hiX0 hown hK hP 0 rfl rfl 2 (by decide) (hts (.fieldLink RX0 23 "RiddleTrade$Exchange" "answers" "LRiddleTrade$Table;") (List.mem_of_getElem? (i := 1) rfl)) (fun _ h9 => h9) rfl dX0_pay_34 ?_
  refine lv_iload_n hx hb dX0_pay_37 rfl (lv_at hl 2 rfl) ?_
  refine lv_iconst (v := 0) hx hb dX0_pay_38 (by decide) ?_
  obtain ⟨r7, hu8, h⟩ := ob1_el h
  refine kcVi (ci := 4) (q := (RX4, TX4, 3)) (ws1 := (w_X0_pay cI cC h0 h1 h3 h5 h7 h9 h11 h2 h4 h6 fT_5 fR rR fA rA rnd)) ⟨hx, hb, hml, hown, hts⟩ [5, 6] [0, 1, 2, 3, 4] (c_X4_get l D cI cC cE h5 h6 _ 320 fA 8 rA p1 0 r7 hu8) (cwV 2 hts gX0_pay_X4_get rfl rfl rfl (by decide +kernel) ⟨Nat.le_of_ble_eq_true rfl, Nat.le_of_ble_eq_true rfl⟩) hK hP hD hS hA rfl rfl rfl rfl rfl rfl rfl rfl rfl hl.1 rfl (Nat.le_of_ble_eq_true rfl) dX0_pay_39 ⟨Nat.le_refl 0, Nat.le_refl 0⟩ (fun H locs hP hD hS => ?_)
  refine lv_iconst (v := 0) hx hb dX0_pay_42 (by decide) ?_
  refine lv_iload_n hx hb dX0_pay_43 rfl (lv_at hl 3 rfl) ?_
  obtain ⟨fT_9, hu10, h⟩ := ob1_el h
  refine kcVv (ci := 4) (q := (RX4, TX4, 3)) (ws1 := (w_X0_pay cI cC h0 h1 h3 h5 h7 h9 h11 h2 h4 h6 fT_9 fR rR fA rA rnd)) ⟨hx, hb, hml, hown, hts⟩ [1, 2] [0, 3, 4, 5, 6] (c_X4_increase l D cI cC cE h1 h2 _ 16 fT_5 2 8 r7 0 p2 fT_9 hu10) (cwV 3 hts gX0_pay_X4_increase rfl rfl rfl (by decide +kernel) ⟨Nat.le_of_ble_eq_true rfl, Nat.le_of_ble_eq_true rfl⟩) hK hP hD hS hA rfl rfl rfl rfl rfl rfl rfl rfl rfl hl.1 rfl (Nat.le_of_ble_eq_true rfl) dX0_pay_44 ⟨Nat.le_refl 0, Nat.le_refl 0⟩ (fun H locs hP hD hS => ?_)
  refine lv_aload_n hx hb dX0_pay_47 rfl (lv_at hl 1 rfl) ?_
  refine va_get (ci := 0) (C := RX0) (T := TX0) (N := 7) hx hb hts hiX0 hown hK hP 0 rfl rfl 2 (by decide) (hts (.fieldLink RX0 23 "RiddleTrade$Exchange" "answers" "LRiddleTrade$Table;") (List.mem_of_getElem? (i := 1) rfl)) (fun _ h9 => h9) rfl dX0_pay_48 ?_
  refine lv_iload_n hx hb dX0_pay_51 rfl (lv_at hl 2 rfl) ?_
  refine lv_iconst (v := 4) hx hb dX0_pay_52 (by decide) ?_
  refine lv_iconst (v := 1) hx hb dX0_pay_53 (by decide) ?_
  obtain ⟨fA_11, hu12, h⟩ := ob1_el h
  refine kcVv (ci := 4) (q := (RX4, TX4, 3)) (ws1 := (w_X0_pay cI cC h0 h1 h3 h5 h7 h9 h11 h2 h4 h6 fT_9 fR rR fA_11 rA rnd)) ⟨hx, hb, hml, hown, hts⟩ [5, 6] [0, 1, 2, 3, 4] (c_X4_put l D cI cC cE h5 h6 _ 320 fA 8 rA p1 4 1 fA_11 hu12) (cwV 3 hts gX0_pay_X4_put rfl rfl rfl (by decide +kernel) ⟨Nat.le_of_ble_eq_true rfl, Nat.le_of_ble_eq_true rfl⟩) hK hP hD hS hA rfl rfl rfl rfl rfl rfl rfl rfl rfl hl.1 rfl (Nat.le_of_ble_eq_true rfl) dX0_pay_54 ⟨Nat.le_refl 0, Nat.le_refl 0⟩ (fun H locs hP hD hS => ?_)
  refine lv_aload_n hx hb dX0_pay_57 rfl (lv_at hl 1 rfl) ?_
  refine va_get (ci := 0) (C := RX0) (T := TX0) (N := 7) hx hb hts hiX0 hown hK hP 0 rfl rfl 2 (by decide) (hts (.fieldLink RX0 23 "RiddleTrade$Exchange" "answers" "LRiddleTrade$Table;") (List.mem_of_getElem? (i := 1) rfl)) (fun _ h9 => h9) rfl dX0_pay_58 ?_
  refine lv_iload_n hx hb dX0_pay_61 rfl (lv_at hl 2 rfl) ?_
  refine lv_bipush (v := 7) hx hb dX0_pay_62 (by decide) ?_
  refine lv_iload_n hx hb dX0_pay_64 rfl (lv_at hl 3 rfl) ?_
  obtain ⟨fA_13, hu14, h⟩ := ob1_el h
  refine kcVv (ci := 4) (q := (RX4, TX4, 3)) (ws1 := (w_X0_pay cI cC h0 h1 h3 h5 h7 h9 h11 h2 h4 h6 fT_9 fR rR fA_13 rA rnd)) ⟨hx, hb, hml, hown, hts⟩ [5, 6] [0, 1, 2, 3, 4] (c_X4_put l D cI cC cE h5 h6 _ 320 fA_11 8 rA p1 7 p2 fA_13 hu14) (cwV 3 hts gX0_pay_X4_put rfl rfl rfl (by decide +kernel) ⟨Nat.le_of_ble_eq_true rfl, Nat.le_of_ble_eq_true rfl⟩) hK hP hD hS hA rfl rfl rfl rfl rfl rfl rfl rfl rfl hl.1 rfl (Nat.le_of_ble_eq_true rfl) dX0_pay_65 ⟨Nat.le_refl 0, Nat.le_refl 0⟩ (fun H locs hP hD hS => ?_)
  refine lv_aload_n hx hb dX0_pay_68 rfl (lv_at hl 1 rfl) ?_
  refine va_get (ci := 0) (C := RX0) (T := TX0) (N := 7) hx hb hts hiX0 hown hK hP 0 rfl rfl 1 (by decide) (hts (.fieldLink RX0 20 "RiddleTrade$Exchange" "riddles" "LRiddleTrade$Table;") (List.mem_of_getElem? (i := 3) rfl)) (fun _ h9 => h9) rfl dX0_pay_69 ?_
  refine lv_iload_n hx hb dX0_pay_72 rfl (lv_at hl 0 rfl) ?_
  refine lv_iconst (v := 3) hx hb dX0_pay_73 (by decide) ?_
  refine lv_iconst (v := 1) hx hb dX0_pay_74 (by decide) ?_
  obtain ⟨fR_15, hu16, h⟩ := ob1_el h
  refine kcVv (ci := 4) (q := (RX4, TX4, 3)) (ws1 := (w_X0_pay cI cC h0 h1 h3 h5 h7 h9 h11 h2 h4 h6 fT_9 fR_15 rR fA_13 rA rnd)) ⟨hx, hb, hml, hown, hts⟩ [3, 4] [0, 1, 2, 5, 6] (c_X4_put l D cI cC cE h3 h4 _ 80 fR 4 rR r1 3 1 fR_15 hu16) (cwV 3 hts gX0_pay_X4_put rfl rfl rfl (by decide +kernel) ⟨Nat.le_of_ble_eq_true rfl, Nat.le_of_ble_eq_true rfl⟩) hK hP hD hS hA rfl rfl rfl rfl rfl rfl rfl rfl rfl hl.1 rfl (Nat.le_of_ble_eq_true rfl) dX0_pay_75 ⟨Nat.le_refl 0, Nat.le_refl 0⟩ (fun H locs hP hD hS => ?_)
  obtain ⟨rfl, rfl, rfl⟩ := inj3 (Option.some.inj h)
  exact fin _ _ _ _ dX0_pay_78 hP hD hS
abbrev w_X0_driftOn (cI cC : ClassId) (h0 h1 h3 h5 h7 h9 h11 h8 h10 : Nat) (fS : Nat → Int32) (fE : Nat → Int32) (rnd : Int32) : va_W := [(h0, .inr (0, [.ref h1, .ref h3, .ref h5, .ref h7, .ref h9, .ref h11, .int rnd])), (h7, .inr (4, [.ref h8, .int 2, .int 2])), (h8, .inl (cI, 4, .inl fS)), (h9, .inr (4, [.ref h10, .int 3, .int 4])), (h10, .inl (cI, 12, .inl fE))]
def j_X0_driftOn_45 (fE : Nat → Int32) (p1 : Int32) (p2 : Int32) (x3 : Int32) (fS : Nat → Int32) : Option ((Nat → Int32)) :=
    ob1 (d_X4_put 4 p1 0 x3 fS 2) fun fS_6 =>
    ob1 (d_X4_increase 4 p1 1 1 fS_6 2) fun fS_8 =>
    some fS_8
def d_X0_driftOn (p1 : Int32) (p2 : Int32) (fS : Nat → Int32) (fE : Nat → Int32) : Option ((Nat → Int32)) :=
    ob1 (d_X4_get 4 p1 0 fS 2) fun r1 =>
    ob1 (d_X4_get 12 1 0 fE 3) fun r3 =>
    if (if 0 ≤ (r1 + p2) then (r1 + p2) else 0 - (r1 + p2)) ≤ r3 then (j_X0_driftOn_45  fE p1 p2 (r1 + p2) fS)
    else (if (r1 + p2) ≤ 0 then (j_X0_driftOn_45  fE p1 p2 r3 fS)
    else (j_X0_driftOn_45  fE p1 p2 (-r3) fS))
set_option maxHeartbeats 4000000 in
set_option maxRecDepth 100000 in
theorem c_X0_driftOn (l : Launch) (D : va_G) (cI cC cE : ClassId) (h0 h1 h3 h5 h7 h9 h11 h8 h10 : Nat) (sz : Nat) (fS : Nat → Int32) (fE : Nat → Int32) (rnd : Int32) (p1 : Int32) (p2 : Int32) (o_fS : Nat → Int32) (h : d_X0_driftOn p1 p2 fS fE = some o_fS) : Met l yX0_driftOn wsX0_driftOn ({ frames := 1, cells := 0, slots := 0, locals := 24 } : Room) (kP D (kT cI cC cE) [.ref h0, .int p1, .int p2] (w_X0_driftOn cI cC h0 h1 h3 h5 h7 h9 h11 h8 h10 fS fE rnd) sz) (kQv D (kT cI cC cE) (w_X0_driftOn cI cC h0 h1 h3 h5 h7 h9 h11 h8 h10 fS fE rnd) (w_X0_driftOn cI cC h0 h1 h3 h5 h7 h9 h11 h8 h10 o_fS fE rnd) sz) 0 0 (va_A (w_X0_driftOn cI cC h0 h1 h3 h5 h7 h9 h11 h8 h10 fS fE rnd) sz) := by
  refine kMetV (cc := cX0_driftOn) (maxL := 5) (own := RX0) (by decide) rfl (Nat.le_of_ble_eq_true rfl) rfl ?_
  intro p e s m below meth c A Q hx hb hml hown hts hP hK hD hA hS hname fin ls hl
  have hl : lv_has ls 5 [(0, .ref h0), (1, .int p1), (2, .int p2)] := hl
  have hiX0 : ∀ w ∈ u_ws RX0 TX0 7, w ∈ wsX0_driftOn := by decide +kernel
  have hJ45 : ∀ (x3 : Int32) (fS : Nat → Int32) (H : Heap) (locs : List Loc), va_P D vwCl (w_X0_driftOn cI cC h0 h1 h3 h5 h7 h9 h11 h8 h10 fS fE rnd) H → va_D A (w_X0_driftOn cI cC h0 h1 h3 h5 h7 h9 h11 h8 h10 fS fE rnd) → va_S A s.heap H locs → ∀ (ls : Array Slot), lv_has ls 5 [(0, .ref h0), (1, .int p1), (3, .int x3)] → j_X0_driftOn_45  fE p1 p2 x3 fS = some o_fS → W p l e ({ frames := 1, cells := 0, slots := 0, locals := 24 } : Room) s m [.ref h0, .int p1, .int p2].toArray below meth c H locs 0 0 Q (F0 m 45 ls []) := by
    intro x3 fS H locs hP hD hS ls hl h
    dsimp only [j_X0_driftOn_45] at h
    refine lv_aload_n hx hb dX0_driftOn_45 rfl (lv_at hl 0 rfl) ?_
    refine va_get (ci := 0) (C := RX0) (T := TX0) (N := 7) hx hb hts hiX0 hown hK hP 0 rfl rfl 3 (by decide) (hts (.fieldLink RX0 26 "RiddleTrade$Exchange" "scales" "LRiddleTrade$Table;") (List.mem_of_getElem? (i := 1) rfl)) (fun _ h9 => h9) rfl dX0_driftOn_46 ?_
    refine lv_iload_n hx hb dX0_driftOn_49 rfl (lv_at hl 1 rfl) ?_
    refine lv_iconst (v := 0) hx hb dX0_driftOn_50 (by decide) ?_
    refine lv_iload_n hx hb dX0_driftOn_51 rfl (lv_at hl 2 rfl) ?_
    obtain ⟨fS_6, hu7, h⟩ := ob1_el h
    refine kcVv (ci := 4) (q := (RX4, TX4, 3)) (ws1 := (w_X0_driftOn cI cC h0 h1 h3 h5 h7 h9 h11 h8 h10 fS_6 fE rnd)) ⟨hx, hb, hml, hown, hts⟩ [1, 2] [0, 3, 4] (c_X4_put l D cI cC cE h7 h8 _ 4 fS 2 2 p1 0 x3 fS_6 hu7) (cwV 3 hts gX0_driftOn_X4_put rfl rfl rfl (by decide +kernel) ⟨Nat.le_of_ble_eq_true rfl, Nat.le_of_ble_eq_true rfl⟩) hK hP hD hS hA rfl rfl rfl rfl rfl rfl rfl rfl rfl hl.1 rfl (Nat.le_of_ble_eq_true rfl) dX0_driftOn_52 ⟨Nat.le_refl 0, Nat.le_refl 0⟩ (fun H locs hP hD hS => ?_)
    refine lv_aload_n hx hb dX0_driftOn_55 rfl (lv_at hl 0 rfl) ?_
    refine va_get (ci := 0) (C := RX0) (T := TX0) (N := 7) hx hb hts hiX0 hown hK hP 0 rfl rfl 3 (by decide) (hts (.fieldLink RX0 26 "RiddleTrade$Exchange" "scales" "LRiddleTrade$Table;") (List.mem_of_getElem? (i := 1) rfl)) (fun _ h9 => h9) rfl dX0_driftOn_56 ?_
    refine lv_iload_n hx hb dX0_driftOn_59 rfl (lv_at hl 1 rfl) ?_
    refine lv_iconst (v := 1) hx hb dX0_driftOn_60 (by decide) ?_
    refine lv_iconst (v := 1) hx hb dX0_driftOn_61 (by decide) ?_
    obtain ⟨fS_8, hu9, h⟩ := ob1_el h
    refine kcVv (ci := 4) (q := (RX4, TX4, 3)) (ws1 := (w_X0_driftOn cI cC h0 h1 h3 h5 h7 h9 h11 h8 h10 fS_8 fE rnd)) ⟨hx, hb, hml, hown, hts⟩ [1, 2] [0, 3, 4] (c_X4_increase l D cI cC cE h7 h8 _ 4 fS_6 2 2 p1 1 1 fS_8 hu9) (cwV 3 hts gX0_driftOn_X4_increase rfl rfl rfl (by decide +kernel) ⟨Nat.le_of_ble_eq_true rfl, Nat.le_of_ble_eq_true rfl⟩) hK hP hD hS hA rfl rfl rfl rfl rfl rfl rfl rfl rfl hl.1 rfl (Nat.le_of_ble_eq_true rfl) dX0_driftOn_62 ⟨Nat.le_refl 0, Nat.le_refl 0⟩ (fun H locs hP hD hS => ?_)
    obtain rfl := Option.some.inj h
    exact fin _ _ _ _ dX0_driftOn_65 hP hD hS
  dsimp only [d_X0_driftOn] at h
  refine lv_aload_n hx hb dX0_driftOn_0 rfl (lv_at hl 0 rfl) ?_
  refine va_get (ci := 0) (C := RX0) (T := TX0) (N := 7) hx hb hts hiX0 hown hK hP 0 rfl rfl 3 (by decide) (hts (.fieldLink RX0 26 "RiddleTrade$Exchange" "scales" "LRiddleTrade$Table;") (List.mem_of_getElem? (i := 1) rfl)) (fun _ h9 => h9) rfl dX0_driftOn_1 ?_
  refine lv_iload_n hx hb dX0_driftOn_4 rfl (lv_at hl 1 rfl) ?_
  refine lv_iconst (v := 0) hx hb dX0_driftOn_5 (by decide) ?_
  obtain ⟨r1, hu2, h⟩ := ob1_el h
  refine kcVi (ci := 4) (q := (RX4, TX4, 3)) (ws1 := (w_X0_driftOn cI cC h0 h1 h3 h5 h7 h9 h11 h8 h10 fS fE rnd)) ⟨hx, hb, hml, hown, hts⟩ [1, 2] [0, 3, 4] (c_X4_get l D cI cC cE h7 h8 _ 4 fS 2 2 p1 0 r1 hu2) (cwV 2 hts gX0_driftOn_X4_get rfl rfl rfl (by decide +kernel) ⟨Nat.le_of_ble_eq_true rfl, Nat.le_of_ble_eq_true rfl⟩) hK hP hD hS hA rfl rfl rfl rfl rfl rfl rfl rfl rfl hl.1 rfl (Nat.le_of_ble_eq_true rfl) dX0_driftOn_6 ⟨Nat.le_refl 0, Nat.le_refl 0⟩ (fun H locs hP hD hS => ?_)
  refine lv_iload_n hx hb dX0_driftOn_9 rfl (lv_at hl 2 rfl) ?_
  refine lv_iadd hx hb dX0_driftOn_10 ?_
  refine lv_istore_n (lv' := [(3, .int (r1 + p2)), (0, .ref h0), (1, .int p1), (2, .int p2)]) hx hb dX0_driftOn_11 rfl hl (by decide) rfl (fun ls hl => ?_)
  refine lv_aload_n hx hb dX0_driftOn_12 rfl (lv_at hl 1 rfl) ?_
  refine va_get (ci := 0) (C := RX0) (T := TX0) (N := 7) hx hb hts hiX0 hown hK hP 0 rfl rfl 4 (by decide) (hts (.fieldLink RX0 29 "RiddleTrade$Exchange" "settings" "LRiddleTrade$Table;") (List.mem_of_getElem? (i := 2) rfl)) (fun _ h9 => h9) rfl dX0_driftOn_13 ?_
  refine lv_iconst (v := 1) hx hb dX0_driftOn_16 (by decide) ?_
  refine lv_iconst (v := 0) hx hb dX0_driftOn_17 (by decide) ?_
  obtain ⟨r3, hu4, h⟩ := ob1_el h
  refine kcVi (ci := 4) (q := (RX4, TX4, 3)) (ws1 := (w_X0_driftOn cI cC h0 h1 h3 h5 h7 h9 h11 h8 h10 fS fE rnd)) ⟨hx, hb, hml, hown, hts⟩ [3, 4] [0, 1, 2] (c_X4_get l D cI cC cE h9 h10 _ 12 fE 3 4 1 0 r3 hu4) (cwV 2 hts gX0_driftOn_X4_get rfl rfl rfl (by decide +kernel) ⟨Nat.le_of_ble_eq_true rfl, Nat.le_of_ble_eq_true rfl⟩) hK hP hD hS hA rfl rfl rfl rfl rfl rfl rfl rfl rfl hl.1 rfl (Nat.le_of_ble_eq_true rfl) dX0_driftOn_18 ⟨Nat.le_refl 0, Nat.le_refl 0⟩ (fun H locs hP hD hS => ?_)
  refine lv_istore (lv' := [(4, .int r3), (3, .int (r1 + p2)), (0, .ref h0), (1, .int p1), (2, .int p2)]) hx hb dX0_driftOn_21 hl (by decide) rfl (fun ls hl => ?_)
  refine lv_iload_n hx hb dX0_driftOn_23 rfl (lv_at hl 1 rfl) ?_
  refine va_mabs hx hb (hml.trans hl.1.symm) hown (hts _ (List.mem_of_getElem? (i := 3) rfl)) (hts _ (List.mem_of_getElem? (i := 4) rfl)) (hts _ (List.mem_of_getElem? (i := 5) rfl)) (hts _ (List.mem_of_getElem? (i := 6) rfl)) (Nat.le_of_ble_eq_true rfl) (Nat.le_of_ble_eq_true rfl) (Nat.le_refl 0) (Nat.le_refl 0) dX0_driftOn_24 ?_
  refine lv_iload hx hb dX0_driftOn_27 (lv_at hl 0 rfl) ?_
  refine lv_icmp_le (tgt := 45) hx hb dX0_driftOn_29 (by decide) (fun c5 => ?_) (fun c5 => ?_)
  · have h := (k_iB h).1 c5
    exact hJ45   (r1 + p2) fS _ _ hP hD hS _ (lv_sub hl [2, 3, 1] rfl) h
  · have h := (k_iB h).2 c5
    refine lv_iload_n hx hb dX0_driftOn_32 rfl (lv_at hl 1 rfl) ?_
    refine lv_if_le (tgt := 42) hx hb dX0_driftOn_33 (by decide) (fun c10 => ?_) (fun c10 => ?_)
    · have h := (k_iB h).1 c10
      refine lv_iload hx hb dX0_driftOn_42 (lv_at hl 0 rfl) ?_
      refine lv_istore_n (lv' := [(3, .int r3), (4, .int r3), (0, .ref h0), (1, .int p1), (2, .int p2)]) hx hb dX0_driftOn_44 rfl hl (by decide) rfl (fun ls hl => ?_)
      exact hJ45   r3 fS _ _ hP hD hS _ (lv_sub hl [2, 3, 0] rfl) h
    · have h := (k_iB h).2 c10
      refine lv_iload hx hb dX0_driftOn_36 (lv_at hl 0 rfl) ?_
      refine lv_ineg hx hb dX0_driftOn_38 ?_
      refine lv_goto (tgt := 44) hx hb dX0_driftOn_39 (by decide) ?_
      refine lv_istore_n (lv' := [(3, .int (-r3)), (4, .int r3), (0, .ref h0), (1, .int p1), (2, .int p2)]) hx hb dX0_driftOn_44 rfl hl (by decide) rfl (fun ls hl => ?_)
      exact hJ45   (-r3) fS _ _ hP hD hS _ (lv_sub hl [2, 3, 0] rfl) h
abbrev w_X0_chargeFees (cI cC : ClassId) (h0 h1 h3 h5 h7 h9 h11 h2 : Nat) (fT : Nat → Int32) (rnd : Int32) : va_W := [(h0, .inr (0, [.ref h1, .ref h3, .ref h5, .ref h7, .ref h9, .ref h11, .int rnd])), (h1, .inr (4, [.ref h2, .int 2, .int 8])), (h2, .inl (cI, 16, .inl fT))]
def lp_X0_chargeFees_2 : Nat → Int32 → (Nat → Int32) → Option ((Nat → Int32))
  | 0 => fun _ _ => none
  | k + 1 => fun x1 fT =>
    if 8 ≤ x1 then (some fT)
    else (ob1 (d_X4_get 16 x1 0 fT 2) fun r2 =>
    if (-r2) ≤ 0 then ((lp_X0_chargeFees_2   k) (x1 + 1) fT)
    else (ob1 (d_X4_increase 16 x1 0 (-(if 5 < ((-r2) / 20) then 5 else ((-r2) / 20))) fT 2) fun fT_5 =>
    ob1 (d_X4_increase 16 x1 1 (if 5 < ((-r2) / 20) then 5 else ((-r2) / 20)) fT_5 2) fun fT_7 =>
    (lp_X0_chargeFees_2   k) (x1 + 1) fT_7))
def d_X0_chargeFees (fT : Nat → Int32) : Option ((Nat → Int32)) :=
    lp_X0_chargeFees_2   fuel 0 fT
set_option maxHeartbeats 4000000 in
set_option maxRecDepth 100000 in
theorem c_X0_chargeFees (l : Launch) (D : va_G) (cI cC cE : ClassId) (h0 h1 h3 h5 h7 h9 h11 h2 : Nat) (sz : Nat) (fT : Nat → Int32) (rnd : Int32) (o_fT : Nat → Int32) (h : d_X0_chargeFees fT = some o_fT) : Met l yX0_chargeFees wsX0_chargeFees ({ frames := 1, cells := 0, slots := 0, locals := 24 } : Room) (kP D (kT cI cC cE) [.ref h0] (w_X0_chargeFees cI cC h0 h1 h3 h5 h7 h9 h11 h2 fT rnd) sz) (kQv D (kT cI cC cE) (w_X0_chargeFees cI cC h0 h1 h3 h5 h7 h9 h11 h2 fT rnd) (w_X0_chargeFees cI cC h0 h1 h3 h5 h7 h9 h11 h2 o_fT rnd) sz) 0 0 (va_A (w_X0_chargeFees cI cC h0 h1 h3 h5 h7 h9 h11 h2 fT rnd) sz) := by
  refine kMetV (cc := cX0_chargeFees) (maxL := 4) (own := RX0) (by decide) rfl (Nat.le_of_ble_eq_true rfl) rfl ?_
  intro p e s m below meth c A Q hx hb hml hown hts hP hK hD hA hS hname fin ls hl
  have hl : lv_has ls 4 [(0, .ref h0)] := hl
  have hiX0 : ∀ w ∈ u_ws RX0 TX0 7, w ∈ wsX0_chargeFees := by decide +kernel
  have hL2 : ∀ (k : Nat), ∀ (x1 : Int32) (fT : Nat → Int32) (H : Heap) (locs : List Loc), va_P D vwCl (w_X0_chargeFees cI cC h0 h1 h3 h5 h7 h9 h11 h2 fT rnd) H → va_D A (w_X0_chargeFees cI cC h0 h1 h3 h5 h7 h9 h11 h2 fT rnd) → va_S A s.heap H locs → ∀ (ls : Array Slot), lv_has ls 4 [(0, .ref h0), (1, .int x1)] → lp_X0_chargeFees_2   k x1 fT = some o_fT → W p l e ({ frames := 1, cells := 0, slots := 0, locals := 24 } : Room) s m [.ref h0].toArray below meth c H locs 0 0 Q (F0 m 2 ls []) := by
    intro k
    induction k with
    | zero =>
      intro x1 fT H locs hP hD hS ls hl h
      exact k_none h
    | succ k ih =>
      intro x1 fT H locs hP hD hS ls hl h
      dsimp only [lp_X0_chargeFees_2] at h
      refine lv_iload_n hx hb dX0_chargeFees_2 rfl (lv_at hl 1 rfl) ?_
      refine lv_bipush (v := 8) hx hb dX0_chargeFees_3 (by decide) ?_
      refine lv_icmp_ge (tgt := 59) hx hb dX0_chargeFees_5 (by decide) (fun c1 => ?_) (fun c1 => ?_)
      · have h := (k_iB h).1 c1
        obtain rfl := Option.some.inj h
        exact fin _ _ _ _ dX0_chargeFees_59 hP hD hS
      · have h := (k_iB h).2 c1
        refine lv_aload_n hx hb dX0_chargeFees_8 rfl (lv_at hl 0 rfl) ?_
        refine va_get (ci := 0) (C := RX0) (T := TX0) (N := 7) hx hb hts hiX0 hown hK hP 0 rfl rfl 0 (by decide) (hts (.fieldLink RX0 16 "RiddleTrade$Exchange" "traders" "LRiddleTrade$Table;") (List.mem_of_getElem? (i := 1) rfl)) (fun _ h9 => h9) rfl dX0_chargeFees_9 ?_
        refine lv_iload_n hx hb dX0_chargeFees_12 rfl (lv_at hl 1 rfl) ?_
        refine lv_iconst (v := 0) hx hb dX0_chargeFees_13 (by decide) ?_
        obtain ⟨r2, hu3, h⟩ := ob1_el h
        refine kcVi (ci := 4) (q := (RX4, TX4, 3)) (ws1 := (w_X0_chargeFees cI cC h0 h1 h3 h5 h7 h9 h11 h2 fT rnd)) ⟨hx, hb, hml, hown, hts⟩ [1, 2] [0] (c_X4_get l D cI cC cE h1 h2 _ 16 fT 2 8 x1 0 r2 hu3) (cwV 2 hts gX0_chargeFees_X4_get rfl rfl rfl (by decide +kernel) ⟨Nat.le_of_ble_eq_true rfl, Nat.le_of_ble_eq_true rfl⟩) hK hP hD hS hA rfl rfl rfl rfl rfl rfl rfl rfl rfl hl.1 rfl (Nat.le_of_ble_eq_true rfl) dX0_chargeFees_14 ⟨Nat.le_refl 0, Nat.le_refl 0⟩ (fun H locs hP hD hS => ?_)
        refine lv_ineg hx hb dX0_chargeFees_17 ?_
        refine lv_istore_n (lv' := [(2, .int (-r2)), (0, .ref h0), (1, .int x1)]) hx hb dX0_chargeFees_18 rfl hl (by decide) rfl (fun ls hl => ?_)
        refine lv_iload_n hx hb dX0_chargeFees_19 rfl (lv_at hl 0 rfl) ?_
        refine lv_if_le (tgt := 53) hx hb dX0_chargeFees_20 (by decide) (fun c4 => ?_) (fun c4 => ?_)
        · have h := (k_iB h).1 c4
          refine lv_iinc (v := (x1 + 1)) (lv' := [(1, .int (x1 + 1)), (2, .int (-r2)), (0, .ref h0)]) hx hb dX0_chargeFees_53 hl (k := 2) rfl rfl (by decide) rfl (fun ls hl => ?_)
          refine lv_goto (tgt := 2) hx hb dX0_chargeFees_56 (by decide) ?_
          exact ih (x1 + 1) fT _ _ hP hD hS _ (lv_sub hl [2, 0] rfl) h
        · have h := (k_iB h).2 c4
          refine lv_iload_n hx hb dX0_chargeFees_23 rfl (lv_at hl 0 rfl) ?_
          refine lv_bipush (v := 20) hx hb dX0_chargeFees_24 (by decide) ?_
          refine lv_idiv hx hb dX0_chargeFees_26 (by decide) ?_
          refine lv_iconst (v := 5) hx hb dX0_chargeFees_27 (by decide) ?_
          refine va_mmin hx hb (hml.trans hl.1.symm) hown (hts _ (List.mem_of_getElem? (i := 2) rfl)) (hts _ (List.mem_of_getElem? (i := 3) rfl)) (hts _ (List.mem_of_getElem? (i := 4) rfl)) (hts _ (List.mem_of_getElem? (i := 5) rfl)) (Nat.le_of_ble_eq_true rfl) (Nat.le_of_ble_eq_true rfl) (Nat.le_refl 0) (Nat.le_refl 0) dX0_chargeFees_28 ?_
          refine lv_istore_n (lv' := [(3, .int (if 5 < ((-r2) / 20) then 5 else ((-r2) / 20))), (2, .int (-r2)), (0, .ref h0), (1, .int x1)]) hx hb dX0_chargeFees_31 rfl hl (by decide) rfl (fun ls hl => ?_)
          refine lv_aload_n hx hb dX0_chargeFees_32 rfl (lv_at hl 2 rfl) ?_
          refine va_get (ci := 0) (C := RX0) (T := TX0) (N := 7) hx hb hts hiX0 hown hK hP 0 rfl rfl 0 (by decide) (hts (.fieldLink RX0 16 "RiddleTrade$Exchange" "traders" "LRiddleTrade$Table;") (List.mem_of_getElem? (i := 1) rfl)) (fun _ h9 => h9) rfl dX0_chargeFees_33 ?_
          refine lv_iload_n hx hb dX0_chargeFees_36 rfl (lv_at hl 3 rfl) ?_
          refine lv_iconst (v := 0) hx hb dX0_chargeFees_37 (by decide) ?_
          refine lv_iload_n hx hb dX0_chargeFees_38 rfl (lv_at hl 0 rfl) ?_
          refine lv_ineg hx hb dX0_chargeFees_39 ?_
          obtain ⟨fT_5, hu6, h⟩ := ob1_el h
          refine kcVv (ci := 4) (q := (RX4, TX4, 3)) (ws1 := (w_X0_chargeFees cI cC h0 h1 h3 h5 h7 h9 h11 h2 fT_5 rnd)) ⟨hx, hb, hml, hown, hts⟩ [1, 2] [0] (c_X4_increase l D cI cC cE h1 h2 _ 16 fT 2 8 x1 0 (-(if 5 < ((-r2) / 20) then 5 else ((-r2) / 20))) fT_5 hu6) (cwV 3 hts gX0_chargeFees_X4_increase rfl rfl rfl (by decide +kernel) ⟨Nat.le_of_ble_eq_true rfl, Nat.le_of_ble_eq_true rfl⟩) hK hP hD hS hA rfl rfl rfl rfl rfl rfl rfl rfl rfl hl.1 rfl (Nat.le_of_ble_eq_true rfl) dX0_chargeFees_40 ⟨Nat.le_refl 0, Nat.le_refl 0⟩ (fun H locs hP hD hS => ?_)
          refine lv_aload_n hx hb dX0_chargeFees_43 rfl (lv_at hl 2 rfl) ?_
          refine va_get (ci := 0) (C := RX0) (T := TX0) (N := 7) hx hb hts hiX0 hown hK hP 0 rfl rfl 0 (by decide) (hts (.fieldLink RX0 16 "RiddleTrade$Exchange" "traders" "LRiddleTrade$Table;") (List.mem_of_getElem? (i := 1) rfl)) (fun _ h9 => h9) rfl dX0_chargeFees_44 ?_
          refine lv_iload_n hx hb dX0_chargeFees_47 rfl (lv_at hl 3 rfl) ?_
          refine lv_iconst (v := 1) hx hb dX0_chargeFees_48 (by decide) ?_
          refine lv_iload_n hx hb dX0_chargeFees_49 rfl (lv_at hl 0 rfl) ?_
          obtain ⟨fT_7, hu8, h⟩ := ob1_el h
          refine kcVv (ci := 4) (q := (RX4, TX4, 3)) (ws1 := (w_X0_chargeFees cI cC h0 h1 h3 h5 h7 h9 h11 h2 fT_7 rnd)) ⟨hx, hb, hml, hown, hts⟩ [1, 2] [0] (c_X4_increase l D cI cC cE h1 h2 _ 16 fT_5 2 8 x1 1 (if 5 < ((-r2) / 20) then 5 else ((-r2) / 20)) fT_7 hu8) (cwV 3 hts gX0_chargeFees_X4_increase rfl rfl rfl (by decide +kernel) ⟨Nat.le_of_ble_eq_true rfl, Nat.le_of_ble_eq_true rfl⟩) hK hP hD hS hA rfl rfl rfl rfl rfl rfl rfl rfl rfl hl.1 rfl (Nat.le_of_ble_eq_true rfl) dX0_chargeFees_50 ⟨Nat.le_refl 0, Nat.le_refl 0⟩ (fun H locs hP hD hS => ?_)
          refine lv_iinc (v := (x1 + 1)) (lv' := [(1, .int (x1 + 1)), (3, .int (if 5 < ((-r2) / 20) then 5 else ((-r2) / 20))), (2, .int (-r2)), (0, .ref h0)]) hx hb dX0_chargeFees_53 hl (k := 3) rfl rfl (by decide) rfl (fun ls hl => ?_)
          refine lv_goto (tgt := 2) hx hb dX0_chargeFees_56 (by decide) ?_
          exact ih (x1 + 1) fT_7 _ _ hP hD hS _ (lv_sub hl [3, 0] rfl) h
  dsimp only [d_X0_chargeFees] at h
  refine lv_iconst (v := 0) hx hb dX0_chargeFees_0 (by decide) ?_
  refine lv_istore_n (lv' := [(1, .int 0), (0, .ref h0)]) hx hb dX0_chargeFees_1 rfl hl (by decide) rfl (fun ls hl => ?_)
  exact hL2   fuel 0 fT _ _ hP hD hS _ (lv_sub hl [1, 0] rfl) h
abbrev w_X0_takeOne (cI cC : ClassId) (h0 h1 h3 h5 h7 h9 h11 h2 h4 h6 h8 h10 h12 : Nat) (fT : Nat → Int32) (fR : Nat → Int32) (rR : Int32) (fA : Nat → Int32) (rA : Int32) (fS : Nat → Int32) (fE : Nat → Int32) (ri : Nat → Int32) (hd : Int32) (ln : Int32) (rnd : Int32) : va_W := [(h0, .inr (0, [.ref h1, .ref h3, .ref h5, .ref h7, .ref h9, .ref h11, .int rnd])), (h1, .inr (4, [.ref h2, .int 2, .int 8])), (h2, .inl (cI, 16, .inl fT)), (h3, .inr (4, [.ref h4, .int 4, .int rR])), (h4, .inl (cI, 80, .inl fR)), (h5, .inr (4, [.ref h6, .int 8, .int rA])), (h6, .inl (cI, 320, .inl fA)), (h7, .inr (4, [.ref h8, .int 2, .int 2])), (h8, .inl (cI, 4, .inl fS)), (h9, .inr (4, [.ref h10, .int 3, .int 4])), (h10, .inl (cI, 12, .inl fE)), (h11, .inr (3, [.ref h12, .int hd, .int ln])), (h12, .inl (cI, 40, .inl ri))]
def j_X0_takeOne_23 (fE : Nat → Int32) (hd : Int32) (p1 : Int32) (x3 : Int32) (fT : Nat → Int32) (fR : Nat → Int32) (fA : Nat → Int32) (fS : Nat → Int32) (ri : Nat → Int32) (ln : Int32) : Option (Int32 × (Nat → Int32) × (Nat → Int32) × (Nat → Int32) × (Nat → Int32) × (Nat → Int32) × Int32) :=
    ob1 (d_X0_refuse p1 x3 fA) fun fA_6 =>
    some (0, fT, fR, fA_6, fS, ri, ln)
def d_X0_takeOne (p1 : Int32) (fT : Nat → Int32) (fR : Nat → Int32) (fA : Nat → Int32) (fS : Nat → Int32) (fE : Nat → Int32) (ri : Nat → Int32) (hd : Int32) (ln : Int32) : Option (Int32 × (Nat → Int32) × (Nat → Int32) × (Nat → Int32) × (Nat → Int32) × (Nat → Int32) × Int32) :=
    ob1 (d_X0_paymentFor p1 fR fA fS) fun r1 =>
    ob1 (d_X0_hindrance p1 r1 fT fR fA fS fE) fun r3 =>
    if r3 = 1 then (j_X0_takeOne_23  fE hd p1 r3 fT fR fA fS ri ln)
    else (if r3 = 2 then (j_X0_takeOne_23  fE hd p1 r3 fT fR fA fS ri ln)
    else (ob1 (d_X0_driftOn 0 1 fS fE) fun fS_9 =>
    ob1 (d_X0_driftOn 1 (-1) fS_9 fE) fun fS_11 =>
    if r3 = 3 then (ob3 (d_X0_doubt p1 fA ri hd ln) fun fA_15 ri_16 ln_17 =>
    some (0, fT, fR, fA_15, fS_11, ri_16, ln_17))
    else (if r3 = 4 then (ob2 (d_X3_addLast p1 ri hd ln) fun ri_20 ln_21 =>
    some (0, fT, fR, fA, fS_11, ri_20, ln_21))
    else (ob3 (d_X0_pay p1 r1 fT fR fA) fun fT_23 fR_24 fA_25 =>
    some (1, fT_23, fR_24, fA_25, fS_11, ri, ln)))))
set_option maxHeartbeats 4000000 in
set_option maxRecDepth 100000 in
theorem c_X0_takeOne (l : Launch) (D : va_G) (cI cC cE : ClassId) (h0 h1 h3 h5 h7 h9 h11 h2 h4 h6 h8 h10 h12 : Nat) (sz : Nat) (fT : Nat → Int32) (fR : Nat → Int32) (rR : Int32) (fA : Nat → Int32) (rA : Int32) (fS : Nat → Int32) (fE : Nat → Int32) (ri : Nat → Int32) (hd : Int32) (ln : Int32) (rnd : Int32) (p1 : Int32) (r0 : Int32) (o_fT : Nat → Int32) (o_fR : Nat → Int32) (o_fA : Nat → Int32) (o_fS : Nat → Int32) (o_ri : Nat → Int32) (o_ln : Int32) (h : d_X0_takeOne p1 fT fR fA fS fE ri hd ln = some (r0, o_fT, o_fR, o_fA, o_fS, o_ri, o_ln)) : Met l yX0_takeOne wsX0_takeOne ({ frames := 3, cells := 0, slots := 0, locals := 70 } : Room) (kP D (kT cI cC cE) [.ref h0, .int p1] (w_X0_takeOne cI cC h0 h1 h3 h5 h7 h9 h11 h2 h4 h6 h8 h10 h12 fT fR rR fA rA fS fE ri hd ln rnd) sz) (kQi D (kT cI cC cE) (w_X0_takeOne cI cC h0 h1 h3 h5 h7 h9 h11 h2 h4 h6 h8 h10 h12 fT fR rR fA rA fS fE ri hd ln rnd) (w_X0_takeOne cI cC h0 h1 h3 h5 h7 h9 h11 h2 h4 h6 h8 h10 h12 o_fT o_fR rR o_fA rA o_fS fE o_ri hd o_ln rnd) sz r0) 0 0 (va_A (w_X0_takeOne cI cC h0 h1 h3 h5 h7 h9 h11 h2 h4 h6 h8 h10 h12 fT fR rR fA rA fS fE ri hd ln rnd) sz) := by
  refine kMetZ (cc := cX0_takeOne) (maxL := 4) (own := RX0) (by decide) rfl (Nat.le_of_ble_eq_true rfl) rfl ?_
  intro p e s m below meth c A Q hx hb hml hown hts hP hK hD hA hS hname fin ls hl
  have hl : lv_has ls 4 [(0, .ref h0), (1, .int p1)] := hl
  have hiX0 : ∀ w ∈ u_ws RX0 TX0 7, w ∈ wsX0_takeOne := by decide +kernel
  have hJ23 : ∀ (x3 : Int32) (fT : Nat → Int32) (fR : Nat → Int32) (fA : Nat → Int32) (fS : Nat → Int32) (ri : Nat → Int32) (ln : Int32) (H : Heap) (locs : List Loc), va_P D vwCl (w_X0_takeOne cI cC h0 h1 h3 h5 h7 h9 h11 h2 h4 h6 h8 h10 h12 fT fR rR fA rA fS fE ri hd ln rnd) H → va_D A (w_X0_takeOne cI cC h0 h1 h3 h5 h7 h9 h11 h2 h4 h6 h8 h10 h12 fT fR rR fA rA fS fE ri hd ln rnd) → va_S A s.heap H locs → ∀ (ls : Array Slot), lv_has ls 4 [(0, .ref h0), (1, .int p1), (3, .int x3)] → j_X0_takeOne_23  fE hd p1 x3 fT fR fA fS ri ln = some (r0, o_fT, o_fR, o_fA, o_fS, o_ri, o_ln) → W p l e ({ frames := 3, cells := 0, slots := 0, locals := 70 } : Room) s m [.ref h0, .int p1].toArray below meth c H locs 0 0 Q (F0 m 23 ls []) := by
    intro x3 fT fR fA fS ri ln H locs hP hD hS ls hl h
    dsimp only [j_X0_takeOne_23] at h
    refine lv_aload_n hx hb dX0_takeOne_23 rfl (lv_at hl 0 rfl) ?_
    refine lv_iload_n hx hb dX0_takeOne_24 rfl (lv_at hl 1 rfl) ?_
    refine lv_iload_n hx hb dX0_takeOne_25 rfl (lv_at hl 2 rfl) ?_
    obtain ⟨fA_6, hu7, h⟩ := ob1_el h
    refine kcVv (ci := 0) (q := (RX0, TX0, 7)) (ws1 := (w_X0_takeOne cI cC h0 h1 h3 h5 h7 h9 h11 h2 h4 h6 h8 h10 h12 fT fR rR fA_6 rA fS fE ri hd ln rnd)) ⟨hx, hb, hml, hown, hts⟩ [0, 5, 6] [1, 2, 3, 4, 7, 8, 9, 10, 11, 12] (c_X0_refuse l D cI cC cE h0 h1 h3 h5 h7 h9 h11 h6 _ fA rA rnd p1 x3 fA_6 hu7) (cwV 2 hts gX0_takeOne_X0_refuse rfl rfl rfl (by decide +kernel) ⟨Nat.le_of_ble_eq_true rfl, Nat.le_of_ble_eq_true rfl⟩) hK hP hD hS hA rfl rfl rfl rfl rfl rfl rfl rfl rfl hl.1 rfl (Nat.le_of_ble_eq_true rfl) dX0_takeOne_26 ⟨Nat.le_refl 0, Nat.le_refl 0⟩ (fun H locs hP hD hS => ?_)
    refine lv_iconst (v := 0) hx hb dX0_takeOne_29 (by decide) ?_
    obtain ⟨rfl, rfl, rfl, rfl, rfl, rfl, rfl⟩ := inj7 (Option.some.inj h)
    exact fin _ _ _ _ rfl dX0_takeOne_30 hP hD hS
  dsimp only [d_X0_takeOne] at h
  refine lv_aload_n hx hb dX0_takeOne_0 rfl (lv_at hl 0 rfl) ?_
  refine lv_iload_n hx hb dX0_takeOne_1 rfl (lv_at hl 1 rfl) ?_
  obtain ⟨r1, hu2, h⟩ := ob1_el h
  refine kcVi (ci := 0) (q := (RX0, TX0, 7)) (ws1 := (w_X0_takeOne cI cC h0 h1 h3 h5 h7 h9 h11 h2 h4 h6 h8 h10 h12 fT fR rR fA rA fS fE ri hd ln rnd)) ⟨hx, hb, hml, hown, hts⟩ [0, 3, 4, 5, 6, 7, 8] [1, 2, 9, 10, 11, 12] (c_X0_paymentFor l D cI cC cE h0 h1 h3 h5 h7 h9 h11 h4 h6 h8 _ fR rR fA rA fS rnd p1 r1 hu2) (cwV 1 hts gX0_takeOne_X0_paymentFor rfl rfl rfl (by decide +kernel) ⟨Nat.le_of_ble_eq_true rfl, Nat.le_of_ble_eq_true rfl⟩) hK hP hD hS hA rfl rfl rfl rfl rfl rfl rfl rfl rfl hl.1 rfl (Nat.le_of_ble_eq_true rfl) dX0_takeOne_2 ⟨Nat.le_refl 0, Nat.le_refl 0⟩ (fun H locs hP hD hS => ?_)
  refine lv_istore_n (lv' := [(2, .int r1), (0, .ref h0), (1, .int p1)]) hx hb dX0_takeOne_5 rfl hl (by decide) rfl (fun ls hl => ?_)
  refine lv_aload_n hx hb dX0_takeOne_6 rfl (lv_at hl 1 rfl) ?_
  refine lv_iload_n hx hb dX0_takeOne_7 rfl (lv_at hl 2 rfl) ?_
  refine lv_iload_n hx hb dX0_takeOne_8 rfl (lv_at hl 0 rfl) ?_
  obtain ⟨r3, hu4, h⟩ := ob1_el h
  refine kcVi (ci := 0) (q := (RX0, TX0, 7)) (ws1 := (w_X0_takeOne cI cC h0 h1 h3 h5 h7 h9 h11 h2 h4 h6 h8 h10 h12 fT fR rR fA rA fS fE ri hd ln rnd)) ⟨hx, hb, hml, hown, hts⟩ [0, 1, 2, 3, 4, 5, 6, 7, 8, 9, 10] [11, 12] (c_X0_hindrance l D cI cC cE h0 h1 h3 h5 h7 h9 h11 h2 h4 h6 h8 h10 _ fT fR rR fA rA fS fE rnd p1 r1 r3 hu4) (cwV 2 hts gX0_takeOne_X0_hindrance rfl rfl rfl (by decide +kernel) ⟨Nat.le_of_ble_eq_true rfl, Nat.le_of_ble_eq_true rfl⟩) hK hP hD hS hA rfl rfl rfl rfl rfl rfl rfl rfl rfl hl.1 rfl (Nat.le_of_ble_eq_true rfl) dX0_takeOne_9 ⟨Nat.le_refl 0, Nat.le_refl 0⟩ (fun H locs hP hD hS => ?_)
  refine lv_istore_n (lv' := [(3, .int r3), (2, .int r1), (0, .ref h0), (1, .int p1)]) hx hb dX0_takeOne_12 rfl hl (by decide) rfl (fun ls hl => ?_)
  refine lv_iload_n hx hb dX0_takeOne_13 rfl (lv_at hl 0 rfl) ?_
  refine lv_iconst (v := 1) hx hb dX0_takeOne_14 (by decide) ?_
  refine lv_icmp_eq (tgt := 23) hx hb dX0_takeOne_15 (by decide) (fun c5 => ?_) (fun c5 => ?_)
  · have h := (k_iB h).1 c5
    exact hJ23   r3 fT fR fA fS ri ln _ _ hP hD hS _ (lv_sub hl [2, 3, 0] rfl) h
  · have h := (k_iB h).2 c5
    refine lv_iload_n hx hb dX0_takeOne_18 rfl (lv_at hl 0 rfl) ?_
    refine lv_iconst (v := 2) hx hb dX0_takeOne_19 (by decide) ?_
    refine lv_icmp_ne (tgt := 31) hx hb dX0_takeOne_20 (by decide) (fun c8 => ?_) (fun c8 => ?_)
    · have h := (k_iB h).2 c8
      refine lv_aload_n hx hb dX0_takeOne_31 rfl (lv_at hl 2 rfl) ?_
      refine lv_iconst (v := 0) hx hb dX0_takeOne_32 (by decide) ?_
      refine lv_iconst (v := 1) hx hb dX0_takeOne_33 (by decide) ?_
      obtain ⟨fS_9, hu10, h⟩ := ob1_el h
      refine kcVv (ci := 0) (q := (RX0, TX0, 7)) (ws1 := (w_X0_takeOne cI cC h0 h1 h3 h5 h7 h9 h11 h2 h4 h6 h8 h10 h12 fT fR rR fA rA fS_9 fE ri hd ln rnd)) ⟨hx, hb, hml, hown, hts⟩ [0, 7, 8, 9, 10] [1, 2, 3, 4, 5, 6, 11, 12] (c_X0_driftOn l D cI cC cE h0 h1 h3 h5 h7 h9 h11 h8 h10 _ fS fE rnd 0 1 fS_9 hu10) (cwV 2 hts gX0_takeOne_X0_driftOn rfl rfl rfl (by decide +kernel) ⟨Nat.le_of_ble_eq_true rfl, Nat.le_of_ble_eq_true rfl⟩) hK hP hD hS hA rfl rfl rfl rfl rfl rfl rfl rfl rfl hl.1 rfl (Nat.le_of_ble_eq_true rfl) dX0_takeOne_34 ⟨Nat.le_refl 0, Nat.le_refl 0⟩ (fun H locs hP hD hS => ?_)
      refine lv_aload_n hx hb dX0_takeOne_37 rfl (lv_at hl 2 rfl) ?_
      refine lv_iconst (v := 1) hx hb dX0_takeOne_38 (by decide) ?_
      refine lv_iconst (v := (-1)) hx hb dX0_takeOne_39 (by decide) ?_
      obtain ⟨fS_11, hu12, h⟩ := ob1_el h
      refine kcVv (ci := 0) (q := (RX0, TX0, 7)) (ws1 := (w_X0_takeOne cI cC h0 h1 h3 h5 h7 h9 h11 h2 h4 h6 h8 h10 h12 fT fR rR fA rA fS_11 fE ri hd ln rnd)) ⟨hx, hb, hml, hown, hts⟩ [0, 7, 8, 9, 10] [1, 2, 3, 4, 5, 6, 11, 12] (c_X0_driftOn l D cI cC cE h0 h1 h3 h5 h7 h9 h11 h8 h10 _ fS_9 fE rnd 1 (-1) fS_11 hu12) (cwV 2 hts gX0_takeOne_X0_driftOn rfl rfl rfl (by decide +kernel) ⟨Nat.le_of_ble_eq_true rfl, Nat.le_of_ble_eq_true rfl⟩) hK hP hD hS hA rfl rfl rfl rfl rfl rfl rfl rfl rfl hl.1 rfl (Nat.le_of_ble_eq_true rfl) dX0_takeOne_40 ⟨Nat.le_refl 0, Nat.le_refl 0⟩ (fun H locs hP hD hS => ?_)
      refine lv_iload_n hx hb dX0_takeOne_43 rfl (lv_at hl 0 rfl) ?_
      by_cases c14 : r3 = 3
      · have h := (k_iB h).1 c14
        refine lv_lookup (off := 28) (tgt := 72) hx hb dX0_takeOne_44 (by decide) (by show Op.lookupswitch.offset [(3, 28), (4, 35)] (45) _ = _; rw [c14]; rfl) (by decide) ?_
        refine lv_aload_n hx hb dX0_takeOne_72 rfl (lv_at hl 2 rfl) ?_
        refine lv_iload_n hx hb dX0_takeOne_73 rfl (lv_at hl 3 rfl) ?_
        obtain ⟨fA_15, ri_16, ln_17, hu18, h⟩ := ob3_el h
        refine kcVv (ci := 0) (q := (RX0, TX0, 7)) (ws1 := (w_X0_takeOne cI cC h0 h1 h3 h5 h7 h9 h11 h2 h4 h6 h8 h10 h12 fT fR rR fA_15 rA fS_11 fE ri_16 hd ln_17 rnd)) ⟨hx, hb, hml, hown, hts⟩ [0, 5, 6, 11, 12] [1, 2, 3, 4, 7, 8, 9, 10] (c_X0_doubt l D cI cC cE h0 h1 h3 h5 h7 h9 h11 h6 h12 _ fA rA ri hd ln rnd p1 fA_15 ri_16 ln_17 hu18) (cwV 1 hts gX0_takeOne_X0_doubt rfl rfl rfl (by decide +kernel) ⟨Nat.le_of_ble_eq_true rfl, Nat.le_of_ble_eq_true rfl⟩) hK hP hD hS hA rfl rfl rfl rfl rfl rfl rfl rfl rfl hl.1 rfl (Nat.le_of_ble_eq_true rfl) dX0_takeOne_74 ⟨Nat.le_refl 0, Nat.le_refl 0⟩ (fun H locs hP hD hS => ?_)
        refine lv_iconst (v := 0) hx hb dX0_takeOne_77 (by decide) ?_
        obtain ⟨rfl, rfl, rfl, rfl, rfl, rfl, rfl⟩ := inj7 (Option.some.inj h)
        exact fin _ _ _ _ rfl dX0_takeOne_78 hP hD hS
      · have h := (k_iB h).2 c14
        by_cases c19 : r3 = 4
        · have h := (k_iB h).1 c19
          refine lv_lookup (off := 35) (tgt := 79) hx hb dX0_takeOne_44 (by decide) (by show Op.lookupswitch.offset [(3, 28), (4, 35)] (45) _ = _; rw [lv_osw (a := 3) c14 rfl, c19]; rfl) (by decide) ?_
          refine lv_aload_n hx hb dX0_takeOne_79 rfl (lv_at hl 2 rfl) ?_
          refine va_get (ci := 0) (C := RX0) (T := TX0) (N := 7) hx hb hts hiX0 hown hK hP 0 rfl rfl 5 (by decide) (hts (.fieldLink RX0 35 "RiddleTrade$Exchange" "row" "LRiddleTrade$Row;") (List.mem_of_getElem? (i := 1) rfl)) (fun _ h9 => h9) rfl dX0_takeOne_80 ?_
          refine lv_iload_n hx hb dX0_takeOne_83 rfl (lv_at hl 3 rfl) ?_
          obtain ⟨ri_20, ln_21, hu22, h⟩ := ob2_el h
          refine kcVv (ci := 3) (q := (RX3, TX3, 3)) (ws1 := (w_X0_takeOne cI cC h0 h1 h3 h5 h7 h9 h11 h2 h4 h6 h8 h10 h12 fT fR rR fA rA fS_11 fE ri_20 hd ln_21 rnd)) ⟨hx, hb, hml, hown, hts⟩ [11, 12] [0, 1, 2, 3, 4, 5, 6, 7, 8, 9, 10] (c_X3_addLast l D cI cC cE h11 h12 _ ri hd ln p1 ri_20 ln_21 hu22) (cwV 1 hts gX0_takeOne_X3_addLast rfl rfl rfl (by decide +kernel) ⟨Nat.le_of_ble_eq_true rfl, Nat.le_of_ble_eq_true rfl⟩) hK hP hD hS hA rfl rfl rfl rfl rfl rfl rfl rfl rfl hl.1 rfl (Nat.le_of_ble_eq_true rfl) dX0_takeOne_84 ⟨Nat.le_refl 0, Nat.le_refl 0⟩ (fun H locs hP hD hS => ?_)
          refine lv_iconst (v := 0) hx hb dX0_takeOne_87 (by decide) ?_
          obtain ⟨rfl, rfl, rfl, rfl, rfl, rfl, rfl⟩ := inj7 (Option.some.inj h)
          exact fin _ _ _ _ rfl dX0_takeOne_88 hP hD hS
        · have h := (k_iB h).2 c19
          refine lv_lookup (off := 45) (tgt := 89) hx hb dX0_takeOne_44 (by decide) (by show Op.lookupswitch.offset [(3, 28), (4, 35)] (45) _ = _; rw [lv_osw (a := 3) c14 rfl, lv_osw (a := 4) c19 rfl]; rfl) (by decide) ?_
          refine lv_aload_n hx hb dX0_takeOne_89 rfl (lv_at hl 2 rfl) ?_
          refine lv_iload_n hx hb dX0_takeOne_90 rfl (lv_at hl 3 rfl) ?_
          refine lv_iload_n hx hb dX0_takeOne_91 rfl (lv_at hl 1 rfl) ?_
          obtain ⟨fT_23, fR_24, fA_25, hu26, h⟩ := ob3_el h
          refine kcVv (ci := 0) (q := (RX0, TX0, 7)) (ws1 := (w_X0_takeOne cI cC h0 h1 h3 h5 h7 h9 h11 h2 h4 h6 h8 h10 h12 fT_23 fR_24 rR fA_25 rA fS_11 fE ri hd ln rnd)) ⟨hx, hb, hml, hown, hts⟩ [0, 1, 2, 3, 4, 5, 6] [7, 8, 9, 10, 11, 12] (c_X0_pay l D cI cC cE h0 h1 h3 h5 h7 h9 h11 h2 h4 h6 _ fT fR rR fA rA rnd p1 r1 fT_23 fR_24 fA_25 hu26) (cwV 2 hts gX0_takeOne_X0_pay rfl rfl rfl (by decide +kernel) ⟨Nat.le_of_ble_eq_true rfl, Nat.le_of_ble_eq_true rfl⟩) hK hP hD hS hA rfl rfl rfl rfl rfl rfl rfl rfl rfl hl.1 rfl (Nat.le_of_ble_eq_true rfl) dX0_takeOne_92 ⟨Nat.le_refl 0, Nat.le_refl 0⟩ (fun H locs hP hD hS => ?_)
          refine lv_iconst (v := 1) hx hb dX0_takeOne_95 (by decide) ?_
          obtain ⟨rfl, rfl, rfl, rfl, rfl, rfl, rfl⟩ := inj7 (Option.some.inj h)
          exact fin _ _ _ _ rfl dX0_takeOne_96 hP hD hS
    · have h := (k_iB h).1 c8
      exact hJ23   r3 fT fR fA fS ri ln _ _ hP hD hS _ (lv_sub hl [2, 3, 0] rfl) h
abbrev w_X0_playRound (cI cC : ClassId) (h0 h1 h3 h5 h7 h9 h11 h2 h4 h6 h8 h10 h12 : Nat) (fT : Nat → Int32) (fR : Nat → Int32) (rR : Int32) (fA : Nat → Int32) (rA : Int32) (fS : Nat → Int32) (fE : Nat → Int32) (ri : Nat → Int32) (hd : Int32) (ln : Int32) (rnd : Int32) : va_W := [(h0, .inr (0, [.ref h1, .ref h3, .ref h5, .ref h7, .ref h9, .ref h11, .int rnd])), (h1, .inr (4, [.ref h2, .int 2, .int 8])), (h2, .inl (cI, 16, .inl fT)), (h3, .inr (4, [.ref h4, .int 4, .int rR])), (h4, .inl (cI, 80, .inl fR)), (h5, .inr (4, [.ref h6, .int 8, .int rA])), (h6, .inl (cI, 320, .inl fA)), (h7, .inr (4, [.ref h8, .int 2, .int 2])), (h8, .inl (cI, 4, .inl fS)), (h9, .inr (4, [.ref h10, .int 3, .int 4])), (h10, .inl (cI, 12, .inl fE)), (h11, .inr (3, [.ref h12, .int hd, .int ln])), (h12, .inl (cI, 40, .inl ri))]
def lp_X0_playRound_24 (fE : Nat → Int32) : Nat → Int32 → Int32 → Int32 → (Nat → Int32) → (Nat → Int32) → (Nat → Int32) → (Nat → Int32) → (Nat → Int32) → Int32 → Int32 → Int32 → Option (Int32 × (Nat → Int32) × (Nat → Int32) × (Nat → Int32) × (Nat → Int32) × (Nat → Int32) × Int32 × Int32 × Int32)
  | 0 => fun _ _ _ _ _ _ _ _ _ _ _ => none
  | k + 1 => fun x1 x2 x3 fT fR fA fS ri hd ln rnd =>
    if x1 ≤ x3 then (ob1 (d_X0_chargeFees fT) fun fT_4 =>
    some (x2, fT_4, fR, fA, fS, ri, hd, ln, (rnd + 1)))
    else (ob3 (d_X3_takeFirst ri hd ln) fun r6 hd_7 ln_8 =>
    ob7 (d_X0_takeOne r6 fT fR fA fS fE ri hd_7 ln_8) fun r10 fT_11 fR_12 fA_13 fS_14 ri_15 ln_16 =>
    if r10 = 0 then ((lp_X0_playRound_24  fE k) x1 x2 (x3 + 1) fT_11 fR_12 fA_13 fS_14 ri_15 hd_7 ln_16 rnd)
    else ((lp_X0_playRound_24  fE k) x1 (x2 + 1) (x3 + 1) fT_11 fR_12 fA_13 fS_14 ri_15 hd_7 ln_16 rnd))
def d_X0_playRound (fT : Nat → Int32) (fR : Nat → Int32) (fA : Nat → Int32) (fS : Nat → Int32) (fE : Nat → Int32) (ri : Nat → Int32) (hd : Int32) (ln : Int32) (rnd : Int32) : Option (Int32 × (Nat → Int32) × (Nat → Int32) × (Nat → Int32) × (Nat → Int32) × (Nat → Int32) × Int32 × Int32 × Int32) :=
    ob1 (d_X4_get 12 2 0 fE 3) fun r1 =>
    lp_X0_playRound_24  fE fuel (if (d_X3_length ln) < r1 then (d_X3_length ln) else r1) 0 0 fT fR fA fS ri hd ln rnd
set_option maxHeartbeats 4000000 in
set_option maxRecDepth 100000 in
theorem c_X0_playRound (l : Launch) (D : va_G) (cI cC cE : ClassId) (h0 h1 h3 h5 h7 h9 h11 h2 h4 h6 h8 h10 h12 : Nat) (sz : Nat) (fT : Nat → Int32) (fR : Nat → Int32) (rR : Int32) (fA : Nat → Int32) (rA : Int32) (fS : Nat → Int32) (fE : Nat → Int32) (ri : Nat → Int32) (hd : Int32) (ln : Int32) (rnd : Int32) (r0 : Int32) (o_fT : Nat → Int32) (o_fR : Nat → Int32) (o_fA : Nat → Int32) (o_fS : Nat → Int32) (o_ri : Nat → Int32) (o_hd : Int32) (o_ln : Int32) (o_rnd : Int32) (h : d_X0_playRound fT fR fA fS fE ri hd ln rnd = some (r0, o_fT, o_fR, o_fA, o_fS, o_ri, o_hd, o_ln, o_rnd)) : Met l yX0_playRound wsX0_playRound ({ frames := 4, cells := 0, slots := 0, locals := 93 } : Room) (kP D (kT cI cC cE) [.ref h0] (w_X0_playRound cI cC h0 h1 h3 h5 h7 h9 h11 h2 h4 h6 h8 h10 h12 fT fR rR fA rA fS fE ri hd ln rnd) sz) (kQi D (kT cI cC cE) (w_X0_playRound cI cC h0 h1 h3 h5 h7 h9 h11 h2 h4 h6 h8 h10 h12 fT fR rR fA rA fS fE ri hd ln rnd) (w_X0_playRound cI cC h0 h1 h3 h5 h7 h9 h11 h2 h4 h6 h8 h10 h12 o_fT o_fR rR o_fA rA o_fS fE o_ri o_hd o_ln o_rnd) sz r0) 0 0 (va_A (w_X0_playRound cI cC h0 h1 h3 h5 h7 h9 h11 h2 h4 h6 h8 h10 h12 fT fR rR fA rA fS fE ri hd ln rnd) sz) := by
  refine kMetI (cc := cX0_playRound) (maxL := 4) (own := RX0) (by decide) rfl (Nat.le_of_ble_eq_true rfl) rfl ?_
  intro p e s m below meth c A Q hx hb hml hown hts hP hK hD hA hS hname fin ls hl
  have hl : lv_has ls 4 [(0, .ref h0)] := hl
  have hiX0 : ∀ w ∈ u_ws RX0 TX0 7, w ∈ wsX0_playRound := by decide +kernel
  have hL24 : ∀ (k : Nat), ∀ (x1 : Int32) (x2 : Int32) (x3 : Int32) (fT : Nat → Int32) (fR : Nat → Int32) (fA : Nat → Int32) (fS : Nat → Int32) (ri : Nat → Int32) (hd : Int32) (ln : Int32) (rnd : Int32) (H : Heap) (locs : List Loc), va_P D vwCl (w_X0_playRound cI cC h0 h1 h3 h5 h7 h9 h11 h2 h4 h6 h8 h10 h12 fT fR rR fA rA fS fE ri hd ln rnd) H → va_D A (w_X0_playRound cI cC h0 h1 h3 h5 h7 h9 h11 h2 h4 h6 h8 h10 h12 fT fR rR fA rA fS fE ri hd ln rnd) → va_S A s.heap H locs → ∀ (ls : Array Slot), lv_has ls 4 [(0, .ref h0), (1, .int x1), (2, .int x2), (3, .int x3)] → lp_X0_playRound_24  fE k x1 x2 x3 fT fR fA fS ri hd ln rnd = some (r0, o_fT, o_fR, o_fA, o_fS, o_ri, o_hd, o_ln, o_rnd) → W p l e ({ frames := 4, cells := 0, slots := 0, locals := 93 } : Room) s m [.ref h0].toArray below meth c H locs 0 0 Q (F0 m 24 ls []) := by
    intro k
    induction k with
    | zero =>
      intro x1 x2 x3 fT fR fA fS ri hd ln rnd H locs hP hD hS ls hl h
      exact k_none h
    | succ k ih =>
      intro x1 x2 x3 fT fR fA fS ri hd ln rnd H locs hP hD hS ls hl h
      dsimp only [lp_X0_playRound_24] at h
      refine lv_iload_n hx hb dX0_playRound_24 rfl (lv_at hl 3 rfl) ?_
      refine lv_iload_n hx hb dX0_playRound_25 rfl (lv_at hl 1 rfl) ?_
      refine lv_icmp_ge (tgt := 52) hx hb dX0_playRound_26 (by decide) (fun c3 => ?_) (fun c3 => ?_)
      · have h := (k_iB h).1 c3
        refine lv_aload_n hx hb dX0_playRound_52 rfl (lv_at hl 0 rfl) ?_
        obtain ⟨fT_4, hu5, h⟩ := ob1_el h
        refine kcVv (ci := 0) (q := (RX0, TX0, 7)) (ws1 := (w_X0_playRound cI cC h0 h1 h3 h5 h7 h9 h11 h2 h4 h6 h8 h10 h12 fT_4 fR rR fA rA fS fE ri hd ln rnd)) ⟨hx, hb, hml, hown, hts⟩ [0, 1, 2] [3, 4, 5, 6, 7, 8, 9, 10, 11, 12] (c_X0_chargeFees l D cI cC cE h0 h1 h3 h5 h7 h9 h11 h2 _ fT rnd fT_4 hu5) (cwV 0 hts gX0_playRound_X0_chargeFees rfl rfl rfl (by decide +kernel) ⟨Nat.le_of_ble_eq_true rfl, Nat.le_of_ble_eq_true rfl⟩) hK hP hD hS hA rfl rfl rfl rfl rfl rfl rfl rfl rfl hl.1 rfl (Nat.le_of_ble_eq_true rfl) dX0_playRound_53 ⟨Nat.le_refl 0, Nat.le_refl 0⟩ (fun H locs hP hD hS => ?_)
        refine lv_aload_n hx hb dX0_playRound_56 rfl (lv_at hl 0 rfl) ?_
        refine lv_dup hx hb dX0_playRound_57 rfl ?_
        refine va_get (ci := 0) (C := RX0) (T := TX0) (N := 7) hx hb hts hiX0 hown hK hP 0 rfl rfl 6 (by decide) (hts (.fieldLink RX0 57 "RiddleTrade$Exchange" "round" "I") (List.mem_of_getElem? (i := 7) rfl)) (fun _ h9 => h9) rfl dX0_playRound_58 ?_
        refine lv_iconst (v := 1) hx hb dX0_playRound_61 (by decide) ?_
        refine lv_iadd hx hb dX0_playRound_62 ?_
        refine va_put (ci := 0) (ty := .int) (C := RX0) (T := TX0) (N := 7) hx hb hts hiX0 tyX0 tyX0_ok nmX0 hown hK hP hD hS 0 rfl rfl 6 (by decide) (hts (.fieldLink RX0 57 "RiddleTrade$Exchange" "round" "I") (List.mem_of_getElem? (i := 7) rfl)) (fun _ h9 => h9) rfl (by decide +kernel) rfl rfl (Nat.le_of_ble_eq_true rfl) dX0_playRound_63 (fun H locs hP hD hS => ?_)
        have hP : va_P D vwCl (w_X0_playRound cI cC h0 h1 h3 h5 h7 h9 h11 h2 h4 h6 h8 h10 h12 fT_4 fR rR fA rA fS fE ri hd ln (rnd + 1)) H := hP
        have hD : va_D A (w_X0_playRound cI cC h0 h1 h3 h5 h7 h9 h11 h2 h4 h6 h8 h10 h12 fT_4 fR rR fA rA fS fE ri hd ln (rnd + 1)) := hD
        refine lv_iload_n hx hb dX0_playRound_66 rfl (lv_at hl 2 rfl) ?_
        obtain ⟨rfl, rfl, rfl, rfl, rfl, rfl, rfl, rfl, rfl⟩ := inj9 (Option.some.inj h)
        exact fin _ _ _ _ dX0_playRound_67 hP hD hS
      · have h := (k_iB h).2 c3
        refine lv_aload_n hx hb dX0_playRound_29 rfl (lv_at hl 0 rfl) ?_
        refine lv_aload_n hx hb dX0_playRound_30 rfl (lv_at hl 0 rfl) ?_
        refine va_get (ci := 0) (C := RX0) (T := TX0) (N := 7) hx hb hts hiX0 hown hK hP 0 rfl rfl 5 (by decide) (hts (.fieldLink RX0 35 "RiddleTrade$Exchange" "row" "LRiddleTrade$Row;") (List.mem_of_getElem? (i := 2) rfl)) (fun _ h9 => h9) rfl dX0_playRound_31 ?_
        obtain ⟨r6, hd_7, ln_8, hu9, h⟩ := ob3_el h
        refine kcVi (ci := 3) (q := (RX3, TX3, 3)) (ws1 := (w_X0_playRound cI cC h0 h1 h3 h5 h7 h9 h11 h2 h4 h6 h8 h10 h12 fT fR rR fA rA fS fE ri hd_7 ln_8 rnd)) ⟨hx, hb, hml, hown, hts⟩ [11, 12] [0, 1, 2, 3, 4, 5, 6, 7, 8, 9, 10] (c_X3_takeFirst l D cI cC cE h11 h12 _ ri hd ln r6 hd_7 ln_8 hu9) (cwV 0 hts gX0_playRound_X3_takeFirst rfl rfl rfl (by decide +kernel) ⟨Nat.le_of_ble_eq_true rfl, Nat.le_of_ble_eq_true rfl⟩) hK hP hD hS hA rfl rfl rfl rfl rfl rfl rfl rfl rfl hl.1 rfl (Nat.le_of_ble_eq_true rfl) dX0_playRound_34 ⟨Nat.le_refl 0, Nat.le_refl 0⟩ (fun H locs hP hD hS => ?_)
        obtain ⟨r10, fT_11, fR_12, fA_13, fS_14, ri_15, ln_16, hu17, h⟩ := ob7_el h
        refine kcVi (ci := 0) (q := (RX0, TX0, 7)) (ws1 := (w_X0_playRound cI cC h0 h1 h3 h5 h7 h9 h11 h2 h4 h6 h8 h10 h12 fT_11 fR_12 rR fA_13 rA fS_14 fE ri_15 hd_7 ln_16 rnd)) ⟨hx, hb, hml, hown, hts⟩ [0, 1, 2, 3, 4, 5, 6, 7, 8, 9, 10, 11, 12] [] (c_X0_takeOne l D cI cC cE h0 h1 h3 h5 h7 h9 h11 h2 h4 h6 h8 h10 h12 _ fT fR rR fA rA fS fE ri hd_7 ln_8 rnd r6 r10 fT_11 fR_12 fA_13 fS_14 ri_15 ln_16 hu17) (cwV 1 hts gX0_playRound_X0_takeOne rfl rfl rfl (by decide +kernel) ⟨Nat.le_of_ble_eq_true rfl, Nat.le_of_ble_eq_true rfl⟩) hK hP hD hS hA rfl rfl rfl rfl rfl rfl rfl rfl rfl hl.1 rfl (Nat.le_of_ble_eq_true rfl) dX0_playRound_37 ⟨Nat.le_refl 0, Nat.le_refl 0⟩ (fun H locs hP hD hS => ?_)
        refine lv_if_eq (tgt := 46) hx hb dX0_playRound_40 (by decide) (fun c18 => ?_) (fun c18 => ?_)
        · have h := (k_iB h).1 c18
          refine lv_iinc (v := (x3 + 1)) (lv' := [(3, .int (x3 + 1)), (0, .ref h0), (1, .int x1), (2, .int x2)]) hx hb dX0_playRound_46 hl (k := 3) rfl rfl (by decide) rfl (fun ls hl => ?_)
          refine lv_goto (tgt := 24) hx hb dX0_playRound_49 (by decide) ?_
          exact ih x1 x2 (x3 + 1) fT_11 fR_12 fA_13 fS_14 ri_15 hd_7 ln_16 rnd _ _ hP hD hS _ (lv_sub hl [1, 2, 3, 0] rfl) h
        · have h := (k_iB h).2 c18
          refine lv_iinc (v := (x2 + 1)) (lv' := [(2, .int (x2 + 1)), (0, .ref h0), (1, .int x1), (3, .int x3)]) hx hb dX0_playRound_43 hl (k := 2) rfl rfl (by decide) rfl (fun ls hl => ?_)
          refine lv_iinc (v := (x3 + 1)) (lv' := [(3, .int (x3 + 1)), (2, .int (x2 + 1)), (0, .ref h0), (1, .int x1)]) hx hb dX0_playRound_46 hl (k := 3) rfl rfl (by decide) rfl (fun ls hl => ?_)
          refine lv_goto (tgt := 24) hx hb dX0_playRound_49 (by decide) ?_
          exact ih x1 (x2 + 1) (x3 + 1) fT_11 fR_12 fA_13 fS_14 ri_15 hd_7 ln_16 rnd _ _ hP hD hS _ (lv_sub hl [2, 3, 1, 0] rfl) h
  dsimp only [d_X0_playRound] at h
  refine lv_aload_n hx hb dX0_playRound_0 rfl (lv_at hl 0 rfl) ?_
  refine va_get (ci := 0) (C := RX0) (T := TX0) (N := 7) hx hb hts hiX0 hown hK hP 0 rfl rfl 4 (by decide) (hts (.fieldLink RX0 29 "RiddleTrade$Exchange" "settings" "LRiddleTrade$Table;") (List.mem_of_getElem? (i := 1) rfl)) (fun _ h9 => h9) rfl dX0_playRound_1 ?_
  refine lv_iconst (v := 2) hx hb dX0_playRound_4 (by decide) ?_
  refine lv_iconst (v := 0) hx hb dX0_playRound_5 (by decide) ?_
  obtain ⟨r1, hu2, h⟩ := ob1_el h
  refine kcVi (ci := 4) (q := (RX4, TX4, 3)) (ws1 := (w_X0_playRound cI cC h0 h1 h3 h5 h7 h9 h11 h2 h4 h6 h8 h10 h12 fT fR rR fA rA fS fE ri hd ln rnd)) ⟨hx, hb, hml, hown, hts⟩ [9, 10] [0, 1, 2, 3, 4, 5, 6, 7, 8, 11, 12] (c_X4_get l D cI cC cE h9 h10 _ 12 fE 3 4 2 0 r1 hu2) (cwV 2 hts gX0_playRound_X4_get rfl rfl rfl (by decide +kernel) ⟨Nat.le_of_ble_eq_true rfl, Nat.le_of_ble_eq_true rfl⟩) hK hP hD hS hA rfl rfl rfl rfl rfl rfl rfl rfl rfl hl.1 rfl (Nat.le_of_ble_eq_true rfl) dX0_playRound_6 ⟨Nat.le_refl 0, Nat.le_refl 0⟩ (fun H locs hP hD hS => ?_)
  refine lv_aload_n hx hb dX0_playRound_9 rfl (lv_at hl 0 rfl) ?_
  refine va_get (ci := 0) (C := RX0) (T := TX0) (N := 7) hx hb hts hiX0 hown hK hP 0 rfl rfl 5 (by decide) (hts (.fieldLink RX0 35 "RiddleTrade$Exchange" "row" "LRiddleTrade$Row;") (List.mem_of_getElem? (i := 2) rfl)) (fun _ h9 => h9) rfl dX0_playRound_10 ?_
  refine kcVi (ci := 3) (q := (RX3, TX3, 3)) (ws1 := (w_X0_playRound cI cC h0 h1 h3 h5 h7 h9 h11 h2 h4 h6 h8 h10 h12 fT fR rR fA rA fS fE ri hd ln rnd)) ⟨hx, hb, hml, hown, hts⟩ [11] [0, 1, 2, 3, 4, 5, 6, 7, 8, 9, 10, 12] (c_X3_length l D cI cC cE h11 h12 _ hd ln (d_X3_length ln) rfl) (cwV 0 hts gX0_playRound_X3_length rfl rfl rfl (by decide +kernel) ⟨Nat.le_of_ble_eq_true rfl, Nat.le_of_ble_eq_true rfl⟩) hK hP hD hS hA rfl rfl rfl rfl rfl rfl rfl rfl rfl hl.1 rfl (Nat.le_of_ble_eq_true rfl) dX0_playRound_13 ⟨Nat.le_refl 0, Nat.le_refl 0⟩ (fun H locs hP hD hS => ?_)
  refine va_mmin hx hb (hml.trans hl.1.symm) hown (hts _ (List.mem_of_getElem? (i := 3) rfl)) (hts _ (List.mem_of_getElem? (i := 4) rfl)) (hts _ (List.mem_of_getElem? (i := 5) rfl)) (hts _ (List.mem_of_getElem? (i := 6) rfl)) (Nat.le_of_ble_eq_true rfl) (Nat.le_of_ble_eq_true rfl) (Nat.le_refl 0) (Nat.le_refl 0) dX0_playRound_16 ?_
  refine lv_istore_n (lv' := [(1, .int (if (d_X3_length ln) < r1 then (d_X3_length ln) else r1)), (0, .ref h0)]) hx hb dX0_playRound_19 rfl hl (by decide) rfl (fun ls hl => ?_)
  refine lv_iconst (v := 0) hx hb dX0_playRound_20 (by decide) ?_
  refine lv_istore_n (lv' := [(2, .int 0), (1, .int (if (d_X3_length ln) < r1 then (d_X3_length ln) else r1)), (0, .ref h0)]) hx hb dX0_playRound_21 rfl hl (by decide) rfl (fun ls hl => ?_)
  refine lv_iconst (v := 0) hx hb dX0_playRound_22 (by decide) ?_
  refine lv_istore_n (lv' := [(3, .int 0), (2, .int 0), (1, .int (if (d_X3_length ln) < r1 then (d_X3_length ln) else r1)), (0, .ref h0)]) hx hb dX0_playRound_23 rfl hl (by decide) rfl (fun ls hl => ?_)
  exact hL24   fuel (if (d_X3_length ln) < r1 then (d_X3_length ln) else r1) 0 0 fT fR fA fS ri hd ln rnd _ _ hP hD hS _ (lv_sub hl [3, 2, 1, 0] rfl) h
abbrev w_X0_playRounds (cI cC : ClassId) (h0 h1 h3 h5 h7 h9 h11 h2 h4 h6 h8 h10 h12 : Nat) (fT : Nat → Int32) (fR : Nat → Int32) (rR : Int32) (fA : Nat → Int32) (rA : Int32) (fS : Nat → Int32) (fE : Nat → Int32) (ri : Nat → Int32) (hd : Int32) (ln : Int32) (rnd : Int32) : va_W := [(h0, .inr (0, [.ref h1, .ref h3, .ref h5, .ref h7, .ref h9, .ref h11, .int rnd])), (h1, .inr (4, [.ref h2, .int 2, .int 8])), (h2, .inl (cI, 16, .inl fT)), (h3, .inr (4, [.ref h4, .int 4, .int rR])), (h4, .inl (cI, 80, .inl fR)), (h5, .inr (4, [.ref h6, .int 8, .int rA])), (h6, .inl (cI, 320, .inl fA)), (h7, .inr (4, [.ref h8, .int 2, .int 2])), (h8, .inl (cI, 4, .inl fS)), (h9, .inr (4, [.ref h10, .int 3, .int 4])), (h10, .inl (cI, 12, .inl fE)), (h11, .inr (3, [.ref h12, .int hd, .int ln])), (h12, .inl (cI, 40, .inl ri))]
def lp_X0_playRounds_33 (fE : Nat → Int32) (p1 : Int32) : Nat → Int32 → Int32 → (Nat → Int32) → (Nat → Int32) → (Nat → Int32) → (Nat → Int32) → (Nat → Int32) → Int32 → Int32 → Int32 → Option (Int32 × (Nat → Int32) × (Nat → Int32) × (Nat → Int32) × (Nat → Int32) × (Nat → Int32) × Int32 × Int32 × Int32)
  | 0 => fun _ _ _ _ _ _ _ _ _ _ => none
  | k + 1 => fun x2 x3 fT fR fA fS ri hd ln rnd =>
    if p1 ≤ x3 then (some (x2, fT, fR, fA, fS, ri, hd, ln, rnd))
    else (ob9 (d_X0_playRound fT fR fA fS fE ri hd ln rnd) fun r5 fT_6 fR_7 fA_8 fS_9 ri_10 hd_11 ln_12 rnd_13 =>
    (lp_X0_playRounds_33  fE p1 k) (x2 + r5) (x3 + 1) fT_6 fR_7 fA_8 fS_9 ri_10 hd_11 ln_12 rnd_13)
def d_X0_playRounds (p1 : Int32) (fT : Nat → Int32) (fR : Nat → Int32) (fA : Nat → Int32) (fS : Nat → Int32) (fE : Nat → Int32) (ri : Nat → Int32) (hd : Int32) (ln : Int32) (rnd : Int32) : Option (Int32 × (Nat → Int32) × (Nat → Int32) × (Nat → Int32) × (Nat → Int32) × (Nat → Int32) × Int32 × Int32 × Int32) :=
    if p1 < 1 then (some ((-2), fT, fR, fA, fS, ri, hd, ln, rnd))
    else (if p1 ≤ 99 then (if (rnd + p1) ≤ 9999 then (lp_X0_playRounds_33  fE p1 fuel 0 0 fT fR fA fS ri hd ln rnd)
    else (some ((-3), fT, fR, fA, fS, ri, hd, ln, rnd)))
    else (some ((-2), fT, fR, fA, fS, ri, hd, ln, rnd)))
set_option maxHeartbeats 4000000 in
set_option maxRecDepth 100000 in
theorem c_X0_playRounds (l : Launch) (D : va_G) (cI cC cE : ClassId) (h0 h1 h3 h5 h7 h9 h11 h2 h4 h6 h8 h10 h12 : Nat) (sz : Nat) (fT : Nat → Int32) (fR : Nat → Int32) (rR : Int32) (fA : Nat → Int32) (rA : Int32) (fS : Nat → Int32) (fE : Nat → Int32) (ri : Nat → Int32) (hd : Int32) (ln : Int32) (rnd : Int32) (p1 : Int32) (r0 : Int32) (o_fT : Nat → Int32) (o_fR : Nat → Int32) (o_fA : Nat → Int32) (o_fS : Nat → Int32) (o_ri : Nat → Int32) (o_hd : Int32) (o_ln : Int32) (o_rnd : Int32) (h : d_X0_playRounds p1 fT fR fA fS fE ri hd ln rnd = some (r0, o_fT, o_fR, o_fA, o_fS, o_ri, o_hd, o_ln, o_rnd)) : Met l yX0_playRounds wsX0_playRounds ({ frames := 5, cells := 0, slots := 0, locals := 116 } : Room) (kP D (kT cI cC cE) [.ref h0, .int p1] (w_X0_playRounds cI cC h0 h1 h3 h5 h7 h9 h11 h2 h4 h6 h8 h10 h12 fT fR rR fA rA fS fE ri hd ln rnd) sz) (kQi D (kT cI cC cE) (w_X0_playRounds cI cC h0 h1 h3 h5 h7 h9 h11 h2 h4 h6 h8 h10 h12 fT fR rR fA rA fS fE ri hd ln rnd) (w_X0_playRounds cI cC h0 h1 h3 h5 h7 h9 h11 h2 h4 h6 h8 h10 h12 o_fT o_fR rR o_fA rA o_fS fE o_ri o_hd o_ln o_rnd) sz r0) 0 0 (va_A (w_X0_playRounds cI cC h0 h1 h3 h5 h7 h9 h11 h2 h4 h6 h8 h10 h12 fT fR rR fA rA fS fE ri hd ln rnd) sz) := by
  refine kMetI (cc := cX0_playRounds) (maxL := 4) (own := RX0) (by decide) rfl (Nat.le_of_ble_eq_true rfl) rfl ?_
  intro p e s m below meth c A Q hx hb hml hown hts hP hK hD hA hS hname fin ls hl
  have hl : lv_has ls 4 [(0, .ref h0), (1, .int p1)] := hl
  have hiX0 : ∀ w ∈ u_ws RX0 TX0 7, w ∈ wsX0_playRounds := by decide +kernel
  have hL33 : ∀ (k : Nat), ∀ (x2 : Int32) (x3 : Int32) (fT : Nat → Int32) (fR : Nat → Int32) (fA : Nat → Int32) (fS : Nat → Int32) (ri : Nat → Int32) (hd : Int32) (ln : Int32) (rnd : Int32) (H : Heap) (locs : List Loc), va_P D vwCl (w_X0_playRounds cI cC h0 h1 h3 h5 h7 h9 h11 h2 h4 h6 h8 h10 h12 fT fR rR fA rA fS fE ri hd ln rnd) H → va_D A (w_X0_playRounds cI cC h0 h1 h3 h5 h7 h9 h11 h2 h4 h6 h8 h10 h12 fT fR rR fA rA fS fE ri hd ln rnd) → va_S A s.heap H locs → ∀ (ls : Array Slot), lv_has ls 4 [(0, .ref h0), (1, .int p1), (2, .int x2), (3, .int x3)] → lp_X0_playRounds_33  fE p1 k x2 x3 fT fR fA fS ri hd ln rnd = some (r0, o_fT, o_fR, o_fA, o_fS, o_ri, o_hd, o_ln, o_rnd) → W p l e ({ frames := 5, cells := 0, slots := 0, locals := 116 } : Room) s m [.ref h0, .int p1].toArray below meth c H locs 0 0 Q (F0 m 33 ls []) := by
    intro k
    induction k with
    | zero =>
      intro x2 x3 fT fR fA fS ri hd ln rnd H locs hP hD hS ls hl h
      exact k_none h
    | succ k ih =>
      intro x2 x3 fT fR fA fS ri hd ln rnd H locs hP hD hS ls hl h
      dsimp only [lp_X0_playRounds_33] at h
      refine lv_iload_n hx hb dX0_playRounds_33 rfl (lv_at hl 3 rfl) ?_
      refine lv_iload_n hx hb dX0_playRounds_34 rfl (lv_at hl 1 rfl) ?_
      refine lv_icmp_ge (tgt := 51) hx hb dX0_playRounds_35 (by decide) (fun c4 => ?_) (fun c4 => ?_)
      · have h := (k_iB h).1 c4
        refine lv_iload_n hx hb dX0_playRounds_51 rfl (lv_at hl 2 rfl) ?_
        obtain ⟨rfl, rfl, rfl, rfl, rfl, rfl, rfl, rfl, rfl⟩ := inj9 (Option.some.inj h)
        exact fin _ _ _ _ dX0_playRounds_52 hP hD hS
      · have h := (k_iB h).2 c4
        refine lv_iload_n hx hb dX0_playRounds_38 rfl (lv_at hl 2 rfl) ?_
        refine lv_aload_n hx hb dX0_playRounds_39 rfl (lv_at hl 0 rfl) ?_
        obtain ⟨r5, fT_6, fR_7, fA_8, fS_9, ri_10, hd_11, ln_12, rnd_13, hu14, h⟩ := ob9_el h
        refine kcVi (ci := 0) (q := (RX0, TX0, 7)) (ws1 := (w_X0_playRounds cI cC h0 h1 h3 h5 h7 h9 h11 h2 h4 h6 h8 h10 h12 fT_6 fR_7 rR fA_8 rA fS_9 fE ri_10 hd_11 ln_12 rnd_13)) ⟨hx, hb, hml, hown, hts⟩ [0, 1, 2, 3, 4, 5, 6, 7, 8, 9, 10, 11, 12] [] (c_X0_playRound l D cI cC cE h0 h1 h3 h5 h7 h9 h11 h2 h4 h6 h8 h10 h12 _ fT fR rR fA rA fS fE ri hd ln rnd r5 fT_6 fR_7 fA_8 fS_9 ri_10 hd_11 ln_12 rnd_13 hu14) (cwV 0 hts gX0_playRounds_X0_playRound rfl rfl rfl (by decide +kernel) ⟨Nat.le_of_ble_eq_true rfl, Nat.le_of_ble_eq_true rfl⟩) hK hP hD hS hA rfl rfl rfl rfl rfl rfl rfl rfl rfl hl.1 rfl (Nat.le_of_ble_eq_true rfl) dX0_playRounds_40 ⟨Nat.le_refl 0, Nat.le_refl 0⟩ (fun H locs hP hD hS => ?_)
        refine lv_iadd hx hb dX0_playRounds_43 ?_
        refine lv_istore_n (lv' := [(2, .int (x2 + r5)), (0, .ref h0), (1, .int p1), (3, .int x3)]) hx hb dX0_playRounds_44 rfl hl (by decide) rfl (fun ls hl => ?_)
        refine lv_iinc (v := (x3 + 1)) (lv' := [(3, .int (x3 + 1)), (2, .int (x2 + r5)), (0, .ref h0), (1, .int p1)]) hx hb dX0_playRounds_45 hl (k := 3) rfl rfl (by decide) rfl (fun ls hl => ?_)
        refine lv_goto (tgt := 33) hx hb dX0_playRounds_48 (by decide) ?_
        exact ih (x2 + r5) (x3 + 1) fT_6 fR_7 fA_8 fS_9 ri_10 hd_11 ln_12 rnd_13 _ _ hP hD hS _ (lv_sub hl [2, 3, 1, 0] rfl) h
  dsimp only [d_X0_playRounds] at h
  refine lv_iload_n hx hb dX0_playRounds_0 rfl (lv_at hl 1 rfl) ?_
  refine lv_iconst (v := 1) hx hb dX0_playRounds_1 (by decide) ?_
  refine lv_icmp_lt (tgt := 11) hx hb dX0_playRounds_2 (by decide) (fun c1 => ?_) (fun c1 => ?_)
  · have h := (k_iB h).1 c1
    refine lv_bipush (v := (-2)) hx hb dX0_playRounds_11 (by decide) ?_
    obtain ⟨rfl, rfl, rfl, rfl, rfl, rfl, rfl, rfl, rfl⟩ := inj9 (Option.some.inj h)
    exact fin _ _ _ _ dX0_playRounds_13 hP hD hS
  · have h := (k_iB h).2 c1
    refine lv_iload_n hx hb dX0_playRounds_5 rfl (lv_at hl 1 rfl) ?_
    refine lv_bipush (v := 99) hx hb dX0_playRounds_6 (by decide) ?_
    refine lv_icmp_le (tgt := 14) hx hb dX0_playRounds_8 (by decide) (fun c2 => ?_) (fun c2 => ?_)
    · have h := (k_iB h).1 c2
      refine lv_aload_n hx hb dX0_playRounds_14 rfl (lv_at hl 0 rfl) ?_
      refine va_get (ci := 0) (C := RX0) (T := TX0) (N := 7) hx hb hts hiX0 hown hK hP 0 rfl rfl 6 (by decide) (hts (.fieldLink RX0 57 "RiddleTrade$Exchange" "round" "I") (List.mem_of_getElem? (i := 1) rfl)) (fun _ h9 => h9) rfl dX0_playRounds_15 ?_
      refine lv_iload_n hx hb dX0_playRounds_18 rfl (lv_at hl 1 rfl) ?_
      refine lv_iadd hx hb dX0_playRounds_19 ?_
      refine lv_sipush (v := 9999) hx hb dX0_playRounds_20 (by decide) ?_
      refine lv_icmp_le (tgt := 29) hx hb dX0_playRounds_23 (by decide) (fun c3 => ?_) (fun c3 => ?_)
      · have h := (k_iB h).1 c3
        refine lv_iconst (v := 0) hx hb dX0_playRounds_29 (by decide) ?_
        refine lv_istore_n (lv' := [(2, .int 0), (0, .ref h0), (1, .int p1)]) hx hb dX0_playRounds_30 rfl hl (by decide) rfl (fun ls hl => ?_)
        refine lv_iconst (v := 0) hx hb dX0_playRounds_31 (by decide) ?_
        refine lv_istore_n (lv' := [(3, .int 0), (2, .int 0), (0, .ref h0), (1, .int p1)]) hx hb dX0_playRounds_32 rfl hl (by decide) rfl (fun ls hl => ?_)
        exact hL33   fuel 0 0 fT fR fA fS ri hd ln rnd _ _ hP hD hS _ (lv_sub hl [2, 3, 1, 0] rfl) h
      · have h := (k_iB h).2 c3
        refine lv_bipush (v := (-3)) hx hb dX0_playRounds_26 (by decide) ?_
        obtain ⟨rfl, rfl, rfl, rfl, rfl, rfl, rfl, rfl, rfl⟩ := inj9 (Option.some.inj h)
        exact fin _ _ _ _ dX0_playRounds_28 hP hD hS
    · have h := (k_iB h).2 c2
      refine lv_bipush (v := (-2)) hx hb dX0_playRounds_11 (by decide) ?_
      obtain ⟨rfl, rfl, rfl, rfl, rfl, rfl, rfl, rfl, rfl⟩ := inj9 (Option.some.inj h)
      exact fin _ _ _ _ dX0_playRounds_13 hP hD hS
abbrev w_X0_addRiddle (cI cC : ClassId) (h0 h1 h3 h5 h7 h9 h11 h2 h4 : Nat) (fR : Nat → Int32) (rR : Int32) (rnd : Int32) : va_W := [(h0, .inr (0, [.ref h1, .ref h3, .ref h5, .ref h7, .ref h9, .ref h11, .int rnd])), (h1, .inr (4, [.ref h2, .int 2, .int 8])), (h3, .inr (4, [.ref h4, .int 4, .int rR])), (h4, .inl (cI, 80, .inl fR))]
def d_X0_addRiddle (p1 : Int32) (p2 : Int32) (p3 : Int32) (fR : Nat → Int32) (rR : Int32) : Option (Int32 × (Nat → Int32) × Int32) :=
    if (d_X4_has p1 8) = 0 then (some ((-1), fR, rR))
    else (if p2 < 1 then (some ((-2), fR, rR))
    else (if 50 < p2 then (some ((-2), fR, rR))
    else (if p3 < 0 then (some ((-2), fR, rR))
    else (if p3 ≤ 99 then (if (d_X4_rows rR) < 20 then (tb2 (d_X4_addRow rR) fun r7 rR_8 =>
    ob1 (d_X4_put 80 r7 0 p1 fR 4) fun fR_10 =>
    ob1 (d_X4_put 80 r7 1 p2 fR_10 4) fun fR_12 =>
    ob1 (d_X4_put 80 r7 2 p3 fR_12 4) fun fR_14 =>
    ob1 (d_X4_put 80 r7 3 0 fR_14 4) fun fR_16 =>
    some (r7, fR_16, rR_8))
    else (some ((-3), fR, rR)))
    else (some ((-2), fR, rR))))))
set_option maxHeartbeats 4000000 in
set_option maxRecDepth 100000 in
theorem c_X0_addRiddle (l : Launch) (D : va_G) (cI cC cE : ClassId) (h0 h1 h3 h5 h7 h9 h11 h2 h4 : Nat) (sz : Nat) (fR : Nat → Int32) (rR : Int32) (rnd : Int32) (p1 : Int32) (p2 : Int32) (p3 : Int32) (r0 : Int32) (o_fR : Nat → Int32) (o_rR : Int32) (h : d_X0_addRiddle p1 p2 p3 fR rR = some (r0, o_fR, o_rR)) : Met l yX0_addRiddle wsX0_addRiddle ({ frames := 1, cells := 0, slots := 0, locals := 24 } : Room) (kP D (kT cI cC cE) [.ref h0, .int p1, .int p2, .int p3] (w_X0_addRiddle cI cC h0 h1 h3 h5 h7 h9 h11 h2 h4 fR rR rnd) sz) (kQi D (kT cI cC cE) (w_X0_addRiddle cI cC h0 h1 h3 h5 h7 h9 h11 h2 h4 fR rR rnd) (w_X0_addRiddle cI cC h0 h1 h3 h5 h7 h9 h11 h2 h4 o_fR o_rR rnd) sz r0) 0 0 (va_A (w_X0_addRiddle cI cC h0 h1 h3 h5 h7 h9 h11 h2 h4 fR rR rnd) sz) := by
  refine kMetI (cc := cX0_addRiddle) (maxL := 5) (own := RX0) (by decide) rfl (Nat.le_of_ble_eq_true rfl) rfl ?_
  intro p e s m below meth c A Q hx hb hml hown hts hP hK hD hA hS hname fin ls hl
  have hl : lv_has ls 5 [(0, .ref h0), (1, .int p1), (2, .int p2), (3, .int p3)] := hl
  have hiX0 : ∀ w ∈ u_ws RX0 TX0 7, w ∈ wsX0_addRiddle := by decide +kernel
  dsimp only [d_X0_addRiddle] at h
  refine lv_aload_n hx hb dX0_addRiddle_0 rfl (lv_at hl 0 rfl) ?_
  refine va_get (ci := 0) (C := RX0) (T := TX0) (N := 7) hx hb hts hiX0 hown hK hP 0 rfl rfl 0 (by decide) (hts (.fieldLink RX0 16 "RiddleTrade$Exchange" "traders" "LRiddleTrade$Table;") (List.mem_of_getElem? (i := 1) rfl)) (fun _ h9 => h9) rfl dX0_addRiddle_1 ?_
  refine lv_iload_n hx hb dX0_addRiddle_4 rfl (lv_at hl 1 rfl) ?_
  refine kcVi (ci := 4) (q := (RX4, TX4, 3)) (ws1 := (w_X0_addRiddle cI cC h0 h1 h3 h5 h7 h9 h11 h2 h4 fR rR rnd)) ⟨hx, hb, hml, hown, hts⟩ [1] [0, 2, 3] (c_X4_has l D cI cC cE h1 h2 _ 2 8 p1 (d_X4_has p1 8) rfl) (cwV 1 hts gX0_addRiddle_X4_has rfl rfl rfl (by decide +kernel) ⟨Nat.le_of_ble_eq_true rfl, Nat.le_of_ble_eq_true rfl⟩) hK hP hD hS hA rfl rfl rfl rfl rfl rfl rfl rfl rfl hl.1 rfl (Nat.le_of_ble_eq_true rfl) dX0_addRiddle_5 ⟨Nat.le_refl 0, Nat.le_refl 0⟩ (fun H locs hP hD hS => ?_)
  refine lv_if_ne (tgt := 13) hx hb dX0_addRiddle_8 (by decide) (fun c1 => ?_) (fun c1 => ?_)
  · have h := (k_iB h).2 c1
    refine lv_iload_n hx hb dX0_addRiddle_13 rfl (lv_at hl 2 rfl) ?_
    refine lv_iconst (v := 1) hx hb dX0_addRiddle_14 (by decide) ?_
    refine lv_icmp_lt (tgt := 34) hx hb dX0_addRiddle_15 (by decide) (fun c2 => ?_) (fun c2 => ?_)
    · have h := (k_iB h).1 c2
      refine lv_bipush (v := (-2)) hx hb dX0_addRiddle_34 (by decide) ?_
      obtain ⟨rfl, rfl, rfl⟩ := inj3 (Option.some.inj h)
      exact fin _ _ _ _ dX0_addRiddle_36 hP hD hS
    · have h := (k_iB h).2 c2
      refine lv_iload_n hx hb dX0_addRiddle_18 rfl (lv_at hl 2 rfl) ?_
      refine lv_bipush (v := 50) hx hb dX0_addRiddle_19 (by decide) ?_
      refine lv_icmp_gt (tgt := 34) hx hb dX0_addRiddle_21 (by decide) (fun c3 => ?_) (fun c3 => ?_)
      · have h := (k_iB h).1 c3
        refine lv_bipush (v := (-2)) hx hb dX0_addRiddle_34 (by decide) ?_
        obtain ⟨rfl, rfl, rfl⟩ := inj3 (Option.some.inj h)
        exact fin _ _ _ _ dX0_addRiddle_36 hP hD hS
      · have h := (k_iB h).2 c3
        refine lv_iload_n hx hb dX0_addRiddle_24 rfl (lv_at hl 3 rfl) ?_
        refine lv_if_lt (tgt := 34) hx hb dX0_addRiddle_25 (by decide) (fun c4 => ?_) (fun c4 => ?_)
        · have h := (k_iB h).1 c4
          refine lv_bipush (v := (-2)) hx hb dX0_addRiddle_34 (by decide) ?_
          obtain ⟨rfl, rfl, rfl⟩ := inj3 (Option.some.inj h)
          exact fin _ _ _ _ dX0_addRiddle_36 hP hD hS
        · have h := (k_iB h).2 c4
          refine lv_iload_n hx hb dX0_addRiddle_28 rfl (lv_at hl 3 rfl) ?_
          refine lv_bipush (v := 99) hx hb dX0_addRiddle_29 (by decide) ?_
          refine lv_icmp_le (tgt := 37) hx hb dX0_addRiddle_31 (by decide) (fun c5 => ?_) (fun c5 => ?_)
          · have h := (k_iB h).1 c5
            refine lv_aload_n hx hb dX0_addRiddle_37 rfl (lv_at hl 0 rfl) ?_
            refine va_get (ci := 0) (C := RX0) (T := TX0) (N := 7) hx hb hts hiX0 hown hK hP 0 rfl rfl 1 (by decide) (hts (.fieldLink RX0 20 "RiddleTrade$Exchange" "riddles" "LRiddleTrade$Table;") (List.mem_of_getElem? (i := 2) rfl)) (fun _ h9 => h9) rfl dX0_addRiddle_38 ?_
            refine kcVi (ci := 4) (q := (RX4, TX4, 3)) (ws1 := (w_X0_addRiddle cI cC h0 h1 h3 h5 h7 h9 h11 h2 h4 fR rR rnd)) ⟨hx, hb, hml, hown, hts⟩ [2] [0, 1, 3] (c_X4_rows l D cI cC cE h3 h4 _ 4 rR (d_X4_rows rR) rfl) (cwV 0 hts gX0_addRiddle_X4_rows rfl rfl rfl (by decide +kernel) ⟨Nat.le_of_ble_eq_true rfl, Nat.le_of_ble_eq_true rfl⟩) hK hP hD hS hA rfl rfl rfl rfl rfl rfl rfl rfl rfl hl.1 rfl (Nat.le_of_ble_eq_true rfl) dX0_addRiddle_41 ⟨Nat.le_refl 0, Nat.le_refl 0⟩ (fun H locs hP hD hS => ?_)
            refine lv_bipush (v := 20) hx hb dX0_addRiddle_44 (by decide) ?_
            refine lv_icmp_lt (tgt := 52) hx hb dX0_addRiddle_46 (by decide) (fun c6 => ?_) (fun c6 => ?_)
            · have h := (k_iB h).1 c6
              refine lv_aload_n hx hb dX0_addRiddle_52 rfl (lv_at hl 0 rfl) ?_
              refine va_get (ci := 0) (C := RX0) (T := TX0) (N := 7) hx hb hts hiX0 hown hK hP 0 rfl rfl 1 (by decide) (hts (.fieldLink RX0 20 "RiddleTrade$Exchange" "riddles" "LRiddleTrade$Table;") (List.mem_of_getElem? (i := 2) rfl)) (fun _ h9 => h9) rfl dX0_addRiddle_53 ?_
              obtain ⟨r7, rR_8, hu9, h⟩ := tb2_el h
              refine kcVi (ci := 4) (q := (RX4, TX4, 3)) (ws1 := (w_X0_addRiddle cI cC h0 h1 h3 h5 h7 h9 h11 h2 h4 fR rR_8 rnd)) ⟨hx, hb, hml, hown, hts⟩ [2] [0, 1, 3] (c_X4_addRow l D cI cC cE h3 h4 _ 4 rR r7 rR_8 hu9) (cwV 0 hts gX0_addRiddle_X4_addRow rfl rfl rfl (by decide +kernel) ⟨Nat.le_of_ble_eq_true rfl, Nat.le_of_ble_eq_true rfl⟩) hK hP hD hS hA rfl rfl rfl rfl rfl rfl rfl rfl rfl hl.1 rfl (Nat.le_of_ble_eq_true rfl) dX0_addRiddle_56 ⟨Nat.le_refl 0, Nat.le_refl 0⟩ (fun H locs hP hD hS => ?_)
              refine lv_istore (lv' := [(4, .int r7), (0, .ref h0), (1, .int p1), (2, .int p2), (3, .int p3)]) hx hb dX0_addRiddle_59 hl (by decide) rfl (fun ls hl => ?_)
              refine lv_aload_n hx hb dX0_addRiddle_61 rfl (lv_at hl 1 rfl) ?_
              refine va_get (ci := 0) (C := RX0) (T := TX0) (N := 7) hx hb hts hiX0 hown hK hP 0 rfl rfl 1 (by decide) (hts (.fieldLink RX0 20 "RiddleTrade$Exchange" "riddles" "LRiddleTrade$Table;") (List.mem_of_getElem? (i := 2) rfl)) (fun _ h9 => h9) rfl dX0_addRiddle_62 ?_
              refine lv_iload hx hb dX0_addRiddle_65 (lv_at hl 0 rfl) ?_
              refine lv_iconst (v := 0) hx hb dX0_addRiddle_67 (by decide) ?_
              refine lv_iload_n hx hb dX0_addRiddle_68 rfl (lv_at hl 2 rfl) ?_
              obtain ⟨fR_10, hu11, h⟩ := ob1_el h
              refine kcVv (ci := 4) (q := (RX4, TX4, 3)) (ws1 := (w_X0_addRiddle cI cC h0 h1 h3 h5 h7 h9 h11 h2 h4 fR_10 rR_8 rnd)) ⟨hx, hb, hml, hown, hts⟩ [2, 3] [0, 1] (c_X4_put l D cI cC cE h3 h4 _ 80 fR 4 rR_8 r7 0 p1 fR_10 hu11) (cwV 3 hts gX0_addRiddle_X4_put rfl rfl rfl (by decide +kernel) ⟨Nat.le_of_ble_eq_true rfl, Nat.le_of_ble_eq_true rfl⟩) hK hP hD hS hA rfl rfl rfl rfl rfl rfl rfl rfl rfl hl.1 rfl (Nat.le_of_ble_eq_true rfl) dX0_addRiddle_69 ⟨Nat.le_refl 0, Nat.le_refl 0⟩ (fun H locs hP hD hS => ?_)
              refine lv_aload_n hx hb dX0_addRiddle_72 rfl (lv_at hl 1 rfl) ?_
              refine va_get (ci := 0) (C := RX0) (T := TX0) (N := 7) hx hb hts hiX0 hown hK hP 0 rfl rfl 1 (by decide) (hts (.fieldLink RX0 20 "RiddleTrade$Exchange" "riddles" "LRiddleTrade$Table;") (List.mem_of_getElem? (i := 2) rfl)) (fun _ h9 => h9) rfl dX0_addRiddle_73 ?_
              refine lv_iload hx hb dX0_addRiddle_76 (lv_at hl 0 rfl) ?_
              refine lv_iconst (v := 1) hx hb dX0_addRiddle_78 (by decide) ?_
              refine lv_iload_n hx hb dX0_addRiddle_79 rfl (lv_at hl 3 rfl) ?_
              obtain ⟨fR_12, hu13, h⟩ := ob1_el h
              refine kcVv (ci := 4) (q := (RX4, TX4, 3)) (ws1 := (w_X0_addRiddle cI cC h0 h1 h3 h5 h7 h9 h11 h2 h4 fR_12 rR_8 rnd)) ⟨hx, hb, hml, hown, hts⟩ [2, 3] [0, 1] (c_X4_put l D cI cC cE h3 h4 _ 80 fR_10 4 rR_8 r7 1 p2 fR_12 hu13) (cwV 3 hts gX0_addRiddle_X4_put rfl rfl rfl (by decide +kernel) ⟨Nat.le_of_ble_eq_true rfl, Nat.le_of_ble_eq_true rfl⟩) hK hP hD hS hA rfl rfl rfl rfl rfl rfl rfl rfl rfl hl.1 rfl (Nat.le_of_ble_eq_true rfl) dX0_addRiddle_80 ⟨Nat.le_refl 0, Nat.le_refl 0⟩ (fun H locs hP hD hS => ?_)
              refine lv_aload_n hx hb dX0_addRiddle_83 rfl (lv_at hl 1 rfl) ?_
              refine va_get (ci := 0) (C := RX0) (T := TX0) (N := 7) hx hb hts hiX0 hown hK hP 0 rfl rfl 1 (by decide) (hts (.fieldLink RX0 20 "RiddleTrade$Exchange" "riddles" "LRiddleTrade$Table;") (List.mem_of_getElem? (i := 2) rfl)) (fun _ h9 => h9) rfl dX0_addRiddle_84 ?_
              refine lv_iload hx hb dX0_addRiddle_87 (lv_at hl 0 rfl) ?_
              refine lv_iconst (v := 2) hx hb dX0_addRiddle_89 (by decide) ?_
              refine lv_iload_n hx hb dX0_addRiddle_90 rfl (lv_at hl 4 rfl) ?_
              obtain ⟨fR_14, hu15, h⟩ := ob1_el h
              refine kcVv (ci := 4) (q := (RX4, TX4, 3)) (ws1 := (w_X0_addRiddle cI cC h0 h1 h3 h5 h7 h9 h11 h2 h4 fR_14 rR_8 rnd)) ⟨hx, hb, hml, hown, hts⟩ [2, 3] [0, 1] (c_X4_put l D cI cC cE h3 h4 _ 80 fR_12 4 rR_8 r7 2 p3 fR_14 hu15) (cwV 3 hts gX0_addRiddle_X4_put rfl rfl rfl (by decide +kernel) ⟨Nat.le_of_ble_eq_true rfl, Nat.le_of_ble_eq_true rfl⟩) hK hP hD hS hA rfl rfl rfl rfl rfl rfl rfl rfl rfl hl.1 rfl (Nat.le_of_ble_eq_true rfl) dX0_addRiddle_91 ⟨Nat.le_refl 0, Nat.le_refl 0⟩ (fun H locs hP hD hS => ?_)
              refine lv_aload_n hx hb dX0_addRiddle_94 rfl (lv_at hl 1 rfl) ?_
              refine va_get (ci := 0) (C := RX0) (T := TX0) (N := 7) hx hb hts hiX0 hown hK hP 0 rfl rfl 1 (by decide) (hts (.fieldLink RX0 20 "RiddleTrade$Exchange" "riddles" "LRiddleTrade$Table;") (List.mem_of_getElem? (i := 2) rfl)) (fun _ h9 => h9) rfl dX0_addRiddle_95 ?_
              refine lv_iload hx hb dX0_addRiddle_98 (lv_at hl 0 rfl) ?_
              refine lv_iconst (v := 3) hx hb dX0_addRiddle_100 (by decide) ?_
              refine lv_iconst (v := 0) hx hb dX0_addRiddle_101 (by decide) ?_
              obtain ⟨fR_16, hu17, h⟩ := ob1_el h
              refine kcVv (ci := 4) (q := (RX4, TX4, 3)) (ws1 := (w_X0_addRiddle cI cC h0 h1 h3 h5 h7 h9 h11 h2 h4 fR_16 rR_8 rnd)) ⟨hx, hb, hml, hown, hts⟩ [2, 3] [0, 1] (c_X4_put l D cI cC cE h3 h4 _ 80 fR_14 4 rR_8 r7 3 0 fR_16 hu17) (cwV 3 hts gX0_addRiddle_X4_put rfl rfl rfl (by decide +kernel) ⟨Nat.le_of_ble_eq_true rfl, Nat.le_of_ble_eq_true rfl⟩) hK hP hD hS hA rfl rfl rfl rfl rfl rfl rfl rfl rfl hl.1 rfl (Nat.le_of_ble_eq_true rfl) dX0_addRiddle_102 ⟨Nat.le_refl 0, Nat.le_refl 0⟩ (fun H locs hP hD hS => ?_)
              refine lv_iload hx hb dX0_addRiddle_105 (lv_at hl 0 rfl) ?_
              obtain ⟨rfl, rfl, rfl⟩ := inj3 (Option.some.inj h)
              exact fin _ _ _ _ dX0_addRiddle_107 hP hD hS
            · have h := (k_iB h).2 c6
              refine lv_bipush (v := (-3)) hx hb dX0_addRiddle_49 (by decide) ?_
              obtain ⟨rfl, rfl, rfl⟩ := inj3 (Option.some.inj h)
              exact fin _ _ _ _ dX0_addRiddle_51 hP hD hS
          · have h := (k_iB h).2 c5
            refine lv_bipush (v := (-2)) hx hb dX0_addRiddle_34 (by decide) ?_
            obtain ⟨rfl, rfl, rfl⟩ := inj3 (Option.some.inj h)
            exact fin _ _ _ _ dX0_addRiddle_36 hP hD hS
  · have h := (k_iB h).1 c1
    refine lv_iconst (v := (-1)) hx hb dX0_addRiddle_11 (by decide) ?_
    obtain ⟨rfl, rfl, rfl⟩ := inj3 (Option.some.inj h)
    exact fin _ _ _ _ dX0_addRiddle_12 hP hD hS
abbrev w_X0_closeRiddle (cI cC : ClassId) (h0 h1 h3 h5 h7 h9 h11 h4 h6 : Nat) (fR : Nat → Int32) (rR : Int32) (fA : Nat → Int32) (rA : Int32) (rnd : Int32) : va_W := [(h0, .inr (0, [.ref h1, .ref h3, .ref h5, .ref h7, .ref h9, .ref h11, .int rnd])), (h3, .inr (4, [.ref h4, .int 4, .int rR])), (h4, .inl (cI, 80, .inl fR)), (h5, .inr (4, [.ref h6, .int 8, .int rA])), (h6, .inl (cI, 320, .inl fA))]
def d_X0_closeRiddle (p1 : Int32) (fR : Nat → Int32) (rR : Int32) (fA : Nat → Int32) (rA : Int32) : Option (Int32 × (Nat → Int32)) :=
    if (d_X4_has p1 rR) = 0 then (some ((-1), fR))
    else (ob1 (d_X4_get 80 p1 3 fR 4) fun r2 =>
    if r2 = 0 then (ob1 (d_X4_put 80 p1 3 2 fR 4) fun fR_5 =>
    ob1 (d_X4_countOfBoth 320 1 p1 4 0 fA 8 rA) fun r7 =>
    some (r7, fR_5))
    else (some ((-4), fR)))
set_option maxHeartbeats 4000000 in
set_option maxRecDepth 100000 in
theorem c_X0_closeRiddle (l : Launch) (D : va_G) (cI cC cE : ClassId) (h0 h1 h3 h5 h7 h9 h11 h4 h6 : Nat) (sz : Nat) (fR : Nat → Int32) (rR : Int32) (fA : Nat → Int32) (rA : Int32) (rnd : Int32) (p1 : Int32) (r0 : Int32) (o_fR : Nat → Int32) (h : d_X0_closeRiddle p1 fR rR fA rA = some (r0, o_fR)) : Met l yX0_closeRiddle wsX0_closeRiddle ({ frames := 2, cells := 0, slots := 0, locals := 49 } : Room) (kP D (kT cI cC cE) [.ref h0, .int p1] (w_X0_closeRiddle cI cC h0 h1 h3 h5 h7 h9 h11 h4 h6 fR rR fA rA rnd) sz) (kQi D (kT cI cC cE) (w_X0_closeRiddle cI cC h0 h1 h3 h5 h7 h9 h11 h4 h6 fR rR fA rA rnd) (w_X0_closeRiddle cI cC h0 h1 h3 h5 h7 h9 h11 h4 h6 o_fR rR fA rA rnd) sz r0) 0 0 (va_A (w_X0_closeRiddle cI cC h0 h1 h3 h5 h7 h9 h11 h4 h6 fR rR fA rA rnd) sz) := by
  refine kMetI (cc := cX0_closeRiddle) (maxL := 2) (own := RX0) (by decide) rfl (Nat.le_of_ble_eq_true rfl) rfl ?_
  intro p e s m below meth c A Q hx hb hml hown hts hP hK hD hA hS hname fin ls hl
  have hl : lv_has ls 2 [(0, .ref h0), (1, .int p1)] := hl
  have hiX0 : ∀ w ∈ u_ws RX0 TX0 7, w ∈ wsX0_closeRiddle := by decide +kernel
  dsimp only [d_X0_closeRiddle] at h
  refine lv_aload_n hx hb dX0_closeRiddle_0 rfl (lv_at hl 0 rfl) ?_
  refine va_get (ci := 0) (C := RX0) (T := TX0) (N := 7) hx hb hts hiX0 hown hK hP 0 rfl rfl 1 (by decide) (hts (.fieldLink RX0 20 "RiddleTrade$Exchange" "riddles" "LRiddleTrade$Table;") (List.mem_of_getElem? (i := 1) rfl)) (fun _ h9 => h9) rfl dX0_closeRiddle_1 ?_
  refine lv_iload_n hx hb dX0_closeRiddle_4 rfl (lv_at hl 1 rfl) ?_
  refine kcVi (ci := 4) (q := (RX4, TX4, 3)) (ws1 := (w_X0_closeRiddle cI cC h0 h1 h3 h5 h7 h9 h11 h4 h6 fR rR fA rA rnd)) ⟨hx, hb, hml, hown, hts⟩ [1] [0, 2, 3, 4] (c_X4_has l D cI cC cE h3 h4 _ 4 rR p1 (d_X4_has p1 rR) rfl) (cwV 1 hts gX0_closeRiddle_X4_has rfl rfl rfl (by decide +kernel) ⟨Nat.le_of_ble_eq_true rfl, Nat.le_of_ble_eq_true rfl⟩) hK hP hD hS hA rfl rfl rfl rfl rfl rfl rfl rfl rfl hl.1 rfl (Nat.le_of_ble_eq_true rfl) dX0_closeRiddle_5 ⟨Nat.le_refl 0, Nat.le_refl 0⟩ (fun H locs hP hD hS => ?_)
  refine lv_if_ne (tgt := 13) hx hb dX0_closeRiddle_8 (by decide) (fun c1 => ?_) (fun c1 => ?_)
  · have h := (k_iB h).2 c1
    refine lv_aload_n hx hb dX0_closeRiddle_13 rfl (lv_at hl 0 rfl) ?_
    refine va_get (ci := 0) (C := RX0) (T := TX0) (N := 7) hx hb hts hiX0 hown hK hP 0 rfl rfl 1 (by decide) (hts (.fieldLink RX0 20 "RiddleTrade$Exchange" "riddles" "LRiddleTrade$Table;") (List.mem_of_getElem? (i := 1) rfl)) (fun _ h9 => h9) rfl dX0_closeRiddle_14 ?_
    refine lv_iload_n hx hb dX0_closeRiddle_17 rfl (lv_at hl 1 rfl) ?_
    refine lv_iconst (v := 3) hx hb dX0_closeRiddle_18 (by decide) ?_
    obtain ⟨r2, hu3, h⟩ := ob1_el h
    refine kcVi (ci := 4) (q := (RX4, TX4, 3)) (ws1 := (w_X0_closeRiddle cI cC h0 h1 h3 h5 h7 h9 h11 h4 h6 fR rR fA rA rnd)) ⟨hx, hb, hml, hown, hts⟩ [1, 2] [0, 3, 4] (c_X4_get l D cI cC cE h3 h4 _ 80 fR 4 rR p1 3 r2 hu3) (cwV 2 hts gX0_closeRiddle_X4_get rfl rfl rfl (by decide +kernel) ⟨Nat.le_of_ble_eq_true rfl, Nat.le_of_ble_eq_true rfl⟩) hK hP hD hS hA rfl rfl rfl rfl rfl rfl rfl rfl rfl hl.1 rfl (Nat.le_of_ble_eq_true rfl) dX0_closeRiddle_19 ⟨Nat.le_refl 0, Nat.le_refl 0⟩ (fun H locs hP hD hS => ?_)
    refine lv_if_eq (tgt := 28) hx hb dX0_closeRiddle_22 (by decide) (fun c4 => ?_) (fun c4 => ?_)
    · have h := (k_iB h).1 c4
      refine lv_aload_n hx hb dX0_closeRiddle_28 rfl (lv_at hl 0 rfl) ?_
      refine va_get (ci := 0) (C := RX0) (T := TX0) (N := 7) hx hb hts hiX0 hown hK hP 0 rfl rfl 1 (by decide) (hts (.fieldLink RX0 20 "RiddleTrade$Exchange" "riddles" "LRiddleTrade$Table;") (List.mem_of_getElem? (i := 1) rfl)) (fun _ h9 => h9) rfl dX0_closeRiddle_29 ?_
      refine lv_iload_n hx hb dX0_closeRiddle_32 rfl (lv_at hl 1 rfl) ?_
      refine lv_iconst (v := 3) hx hb dX0_closeRiddle_33 (by decide) ?_
      refine lv_iconst (v := 2) hx hb dX0_closeRiddle_34 (by decide) ?_
      obtain ⟨fR_5, hu6, h⟩ := ob1_el h
      refine kcVv (ci := 4) (q := (RX4, TX4, 3)) (ws1 := (w_X0_closeRiddle cI cC h0 h1 h3 h5 h7 h9 h11 h4 h6 fR_5 rR fA rA rnd)) ⟨hx, hb, hml, hown, hts⟩ [1, 2] [0, 3, 4] (c_X4_put l D cI cC cE h3 h4 _ 80 fR 4 rR p1 3 2 fR_5 hu6) (cwV 3 hts gX0_closeRiddle_X4_put rfl rfl rfl (by decide +kernel) ⟨Nat.le_of_ble_eq_true rfl, Nat.le_of_ble_eq_true rfl⟩) hK hP hD hS hA rfl rfl rfl rfl rfl rfl rfl rfl rfl hl.1 rfl (Nat.le_of_ble_eq_true rfl) dX0_closeRiddle_35 ⟨Nat.le_refl 0, Nat.le_refl 0⟩ (fun H locs hP hD hS => ?_)
      refine lv_aload_n hx hb dX0_closeRiddle_38 rfl (lv_at hl 0 rfl) ?_
      refine va_get (ci := 0) (C := RX0) (T := TX0) (N := 7) hx hb hts hiX0 hown hK hP 0 rfl rfl 2 (by decide) (hts (.fieldLink RX0 23 "RiddleTrade$Exchange" "answers" "LRiddleTrade$Table;") (List.mem_of_getElem? (i := 2) rfl)) (fun _ h9 => h9) rfl dX0_closeRiddle_39 ?_
      refine lv_iconst (v := 1) hx hb dX0_closeRiddle_42 (by decide) ?_
      refine lv_iload_n hx hb dX0_closeRiddle_43 rfl (lv_at hl 1 rfl) ?_
      refine lv_iconst (v := 4) hx hb dX0_closeRiddle_44 (by decide) ?_
      refine lv_iconst (v := 0) hx hb dX0_closeRiddle_45 (by decide) ?_
      obtain ⟨r7, hu8, h⟩ := ob1_el h
      refine kcVi (ci := 4) (q := (RX4, TX4, 3)) (ws1 := (w_X0_closeRiddle cI cC h0 h1 h3 h5 h7 h9 h11 h4 h6 fR_5 rR fA rA rnd)) ⟨hx, hb, hml, hown, hts⟩ [3, 4] [0, 1, 2] (c_X4_countOfBoth l D cI cC cE h5 h6 _ 320 fA 8 rA 1 p1 4 0 r7 hu8) (cwV 4 hts gX0_closeRiddle_X4_countOfBoth rfl rfl rfl (by decide +kernel) ⟨Nat.le_of_ble_eq_true rfl, Nat.le_of_ble_eq_true rfl⟩) hK hP hD hS hA rfl rfl rfl rfl rfl rfl rfl rfl rfl hl.1 rfl (Nat.le_of_ble_eq_true rfl) dX0_closeRiddle_46 ⟨Nat.le_refl 0, Nat.le_refl 0⟩ (fun H locs hP hD hS => ?_)
      obtain ⟨rfl, rfl⟩ := inj2 (Option.some.inj h)
      exact fin _ _ _ _ dX0_closeRiddle_49 hP hD hS
    · have h := (k_iB h).2 c4
      refine lv_bipush (v := (-4)) hx hb dX0_closeRiddle_25 (by decide) ?_
      obtain ⟨rfl, rfl⟩ := inj2 (Option.some.inj h)
      exact fin _ _ _ _ dX0_closeRiddle_27 hP hD hS
  · have h := (k_iB h).1 c1
    refine lv_iconst (v := (-1)) hx hb dX0_closeRiddle_11 (by decide) ?_
    obtain ⟨rfl, rfl⟩ := inj2 (Option.some.inj h)
    exact fin _ _ _ _ dX0_closeRiddle_12 hP hD hS
abbrev w_X0_addAnswer (cI cC : ClassId) (h0 h1 h3 h5 h7 h9 h11 h2 h4 h6 h12 : Nat) (fR : Nat → Int32) (rR : Int32) (fA : Nat → Int32) (rA : Int32) (ri : Nat → Int32) (hd : Int32) (ln : Int32) (rnd : Int32) : va_W := [(h0, .inr (0, [.ref h1, .ref h3, .ref h5, .ref h7, .ref h9, .ref h11, .int rnd])), (h1, .inr (4, [.ref h2, .int 2, .int 8])), (h3, .inr (4, [.ref h4, .int 4, .int rR])), (h4, .inl (cI, 80, .inl fR)), (h5, .inr (4, [.ref h6, .int 8, .int rA])), (h6, .inl (cI, 320, .inl fA)), (h11, .inr (3, [.ref h12, .int hd, .int ln])), (h12, .inl (cI, 40, .inl ri))]
def d_X0_addAnswer (p1 : Int32) (p2 : Int32) (p3 : Int32) (p4 : Int32) (fR : Nat → Int32) (rR : Int32) (fA : Nat → Int32) (rA : Int32) (ri : Nat → Int32) (hd : Int32) (ln : Int32) : Option (Int32 × (Nat → Int32) × Int32 × (Nat → Int32) × Int32) :=
    if (d_X4_has p1 8) = 0 then (some ((-1), fA, rA, ri, ln))
    else (if (d_X4_has p2 rR) = 0 then (some ((-1), fA, rA, ri, ln))
    else (if p3 < 0 then (some ((-2), fA, rA, ri, ln))
    else (if 99 < p3 then (some ((-2), fA, rA, ri, ln))
    else (if p4 < 1 then (some ((-2), fA, rA, ri, ln))
    else (if p4 ≤ 99 then (ob1 (d_X4_get 80 p2 3 fR 4) fun r7 =>
    if r7 = 0 then (ob1 (d_X4_get 80 p2 0 fR 4) fun r10 =>
    if r10 = p1 then (some ((-4), fA, rA, ri, ln))
    else (if (d_X4_rows rA) < 40 then (tb2 (d_X4_addRow rA) fun r14 rA_15 =>
    ob1 (d_X4_put 320 r14 0 p1 fA 8) fun fA_17 =>
    ob1 (d_X4_put 320 r14 1 p2 fA_17 8) fun fA_19 =>
    ob1 (d_X4_put 320 r14 2 p3 fA_19 8) fun fA_21 =>
    ob1 (d_X4_put 320 r14 3 p4 fA_21 8) fun fA_23 =>
    ob1 (d_X4_put 320 r14 4 0 fA_23 8) fun fA_25 =>
    ob1 (d_X4_put 320 r14 5 0 fA_25 8) fun fA_27 =>
    ob1 (d_X4_put 320 r14 6 0 fA_27 8) fun fA_29 =>
    ob1 (d_X4_put 320 r14 7 0 fA_29 8) fun fA_31 =>
    ob2 (d_X3_addLast r14 ri hd ln) fun ri_33 ln_34 =>
    some (r14, fA_31, rA_15, ri_33, ln_34))
    else (some ((-3), fA, rA, ri, ln))))
    else (some ((-4), fA, rA, ri, ln)))
    else (some ((-2), fA, rA, ri, ln)))))))
set_option maxHeartbeats 4000000 in
set_option maxRecDepth 100000 in
theorem c_X0_addAnswer (l : Launch) (D : va_G) (cI cC cE : ClassId) (h0 h1 h3 h5 h7 h9 h11 h2 h4 h6 h12 : Nat) (sz : Nat) (fR : Nat → Int32) (rR : Int32) (fA : Nat → Int32) (rA : Int32) (ri : Nat → Int32) (hd : Int32) (ln : Int32) (rnd : Int32) (p1 : Int32) (p2 : Int32) (p3 : Int32) (p4 : Int32) (r0 : Int32) (o_fA : Nat → Int32) (o_rA : Int32) (o_ri : Nat → Int32) (o_ln : Int32) (h : d_X0_addAnswer p1 p2 p3 p4 fR rR fA rA ri hd ln = some (r0, o_fA, o_rA, o_ri, o_ln)) : Met l yX0_addAnswer wsX0_addAnswer ({ frames := 1, cells := 0, slots := 0, locals := 24 } : Room) (kP D (kT cI cC cE) [.ref h0, .int p1, .int p2, .int p3, .int p4] (w_X0_addAnswer cI cC h0 h1 h3 h5 h7 h9 h11 h2 h4 h6 h12 fR rR fA rA ri hd ln rnd) sz) (kQi D (kT cI cC cE) (w_X0_addAnswer cI cC h0 h1 h3 h5 h7 h9 h11 h2 h4 h6 h12 fR rR fA rA ri hd ln rnd) (w_X0_addAnswer cI cC h0 h1 h3 h5 h7 h9 h11 h2 h4 h6 h12 fR rR o_fA o_rA o_ri hd o_ln rnd) sz r0) 0 0 (va_A (w_X0_addAnswer cI cC h0 h1 h3 h5 h7 h9 h11 h2 h4 h6 h12 fR rR fA rA ri hd ln rnd) sz) := by
  refine kMetI (cc := cX0_addAnswer) (maxL := 6) (own := RX0) (by decide) rfl (Nat.le_of_ble_eq_true rfl) rfl ?_
  intro p e s m below meth c A Q hx hb hml hown hts hP hK hD hA hS hname fin ls hl
  have hl : lv_has ls 6 [(0, .ref h0), (1, .int p1), (2, .int p2), (3, .int p3), (4, .int p4)] := hl
  have hiX0 : ∀ w ∈ u_ws RX0 TX0 7, w ∈ wsX0_addAnswer := by decide +kernel
  dsimp only [d_X0_addAnswer] at h
  refine lv_aload_n hx hb dX0_addAnswer_0 rfl (lv_at hl 0 rfl) ?_
  refine va_get (ci := 0) (C := RX0) (T := TX0) (N := 7) hx hb hts hiX0 hown hK hP 0 rfl rfl 0 (by decide) (hts (.fieldLink RX0 16 "RiddleTrade$Exchange" "traders" "LRiddleTrade$Table;") (List.mem_of_getElem? (i := 1) rfl)) (fun _ h9 => h9) rfl dX0_addAnswer_1 ?_
  refine lv_iload_n hx hb dX0_addAnswer_4 rfl (lv_at hl 1 rfl) ?_
  refine kcVi (ci := 4) (q := (RX4, TX4, 3)) (ws1 := (w_X0_addAnswer cI cC h0 h1 h3 h5 h7 h9 h11 h2 h4 h6 h12 fR rR fA rA ri hd ln rnd)) ⟨hx, hb, hml, hown, hts⟩ [1] [0, 2, 3, 4, 5, 6, 7] (c_X4_has l D cI cC cE h1 h2 _ 2 8 p1 (d_X4_has p1 8) rfl) (cwV 1 hts gX0_addAnswer_X4_has rfl rfl rfl (by decide +kernel) ⟨Nat.le_of_ble_eq_true rfl, Nat.le_of_ble_eq_true rfl⟩) hK hP hD hS hA rfl rfl rfl rfl rfl rfl rfl rfl rfl hl.1 rfl (Nat.le_of_ble_eq_true rfl) dX0_addAnswer_5 ⟨Nat.le_refl 0, Nat.le_refl 0⟩ (fun H locs hP hD hS => ?_)
  refine lv_if_eq (tgt := 22) hx hb dX0_addAnswer_8 (by decide) (fun c1 => ?_) (fun c1 => ?_)
  · have h := (k_iB h).1 c1
    refine lv_iconst (v := (-1)) hx hb dX0_addAnswer_22 (by decide) ?_
    obtain ⟨rfl, rfl, rfl, rfl, rfl⟩ := inj5 (Option.some.inj h)
    exact fin _ _ _ _ dX0_addAnswer_23 hP hD hS
  · have h := (k_iB h).2 c1
    refine lv_aload_n hx hb dX0_addAnswer_11 rfl (lv_at hl 0 rfl) ?_
    refine va_get (ci := 0) (C := RX0) (T := TX0) (N := 7) hx hb hts hiX0 hown hK hP 0 rfl rfl 1 (by decide) (hts (.fieldLink RX0 20 "RiddleTrade$Exchange" "riddles" "LRiddleTrade$Table;") (List.mem_of_getElem? (i := 2) rfl)) (fun _ h9 => h9) rfl dX0_addAnswer_12 ?_
    refine lv_iload_n hx hb dX0_addAnswer_15 rfl (lv_at hl 2 rfl) ?_
    refine kcVi (ci := 4) (q := (RX4, TX4, 3)) (ws1 := (w_X0_addAnswer cI cC h0 h1 h3 h5 h7 h9 h11 h2 h4 h6 h12 fR rR fA rA ri hd ln rnd)) ⟨hx, hb, hml, hown, hts⟩ [2] [0, 1, 3, 4, 5, 6, 7] (c_X4_has l D cI cC cE h3 h4 _ 4 rR p2 (d_X4_has p2 rR) rfl) (cwV 1 hts gX0_addAnswer_X4_has rfl rfl rfl (by decide +kernel) ⟨Nat.le_of_ble_eq_true rfl, Nat.le_of_ble_eq_true rfl⟩) hK hP hD hS hA rfl rfl rfl rfl rfl rfl rfl rfl rfl hl.1 rfl (Nat.le_of_ble_eq_true rfl) dX0_addAnswer_16 ⟨Nat.le_refl 0, Nat.le_refl 0⟩ (fun H locs hP hD hS => ?_)
    refine lv_if_ne (tgt := 24) hx hb dX0_addAnswer_19 (by decide) (fun c2 => ?_) (fun c2 => ?_)
    · have h := (k_iB h).2 c2
      refine lv_iload_n hx hb dX0_addAnswer_24 rfl (lv_at hl 3 rfl) ?_
      refine lv_if_lt (tgt := 47) hx hb dX0_addAnswer_25 (by decide) (fun c3 => ?_) (fun c3 => ?_)
      · have h := (k_iB h).1 c3
        refine lv_bipush (v := (-2)) hx hb dX0_addAnswer_47 (by decide) ?_
        obtain ⟨rfl, rfl, rfl, rfl, rfl⟩ := inj5 (Option.some.inj h)
        exact fin _ _ _ _ dX0_addAnswer_49 hP hD hS
      · have h := (k_iB h).2 c3
        refine lv_iload_n hx hb dX0_addAnswer_28 rfl (lv_at hl 3 rfl) ?_
        refine lv_bipush (v := 99) hx hb dX0_addAnswer_29 (by decide) ?_
        refine lv_icmp_gt (tgt := 47) hx hb dX0_addAnswer_31 (by decide) (fun c4 => ?_) (fun c4 => ?_)
        · have h := (k_iB h).1 c4
          refine lv_bipush (v := (-2)) hx hb dX0_addAnswer_47 (by decide) ?_
          obtain ⟨rfl, rfl, rfl, rfl, rfl⟩ := inj5 (Option.some.inj h)
          exact fin _ _ _ _ dX0_addAnswer_49 hP hD hS
        · have h := (k_iB h).2 c4
          refine lv_iload hx hb dX0_addAnswer_34 (lv_at hl 4 rfl) ?_
          refine lv_iconst (v := 1) hx hb dX0_addAnswer_36 (by decide) ?_
          refine lv_icmp_lt (tgt := 47) hx hb dX0_addAnswer_37 (by decide) (fun c5 => ?_) (fun c5 => ?_)
          · have h := (k_iB h).1 c5
            refine lv_bipush (v := (-2)) hx hb dX0_addAnswer_47 (by decide) ?_
            obtain ⟨rfl, rfl, rfl, rfl, rfl⟩ := inj5 (Option.some.inj h)
            exact fin _ _ _ _ dX0_addAnswer_49 hP hD hS
          · have h := (k_iB h).2 c5
            refine lv_iload hx hb dX0_addAnswer_40 (lv_at hl 4 rfl) ?_
            refine lv_bipush (v := 99) hx hb dX0_addAnswer_42 (by decide) ?_
            refine lv_icmp_le (tgt := 50) hx hb dX0_addAnswer_44 (by decide) (fun c6 => ?_) (fun c6 => ?_)
            · have h := (k_iB h).1 c6
              refine lv_aload_n hx hb dX0_addAnswer_50 rfl (lv_at hl 0 rfl) ?_
              refine va_get (ci := 0) (C := RX0) (T := TX0) (N := 7) hx hb hts hiX0 hown hK hP 0 rfl rfl 1 (by decide) (hts (.fieldLink RX0 20 "RiddleTrade$Exchange" "riddles" "LRiddleTrade$Table;") (List.mem_of_getElem? (i := 2) rfl)) (fun _ h9 => h9) rfl dX0_addAnswer_51 ?_
              refine lv_iload_n hx hb dX0_addAnswer_54 rfl (lv_at hl 2 rfl) ?_
              refine lv_iconst (v := 3) hx hb dX0_addAnswer_55 (by decide) ?_
              obtain ⟨r7, hu8, h⟩ := ob1_el h
              refine kcVi (ci := 4) (q := (RX4, TX4, 3)) (ws1 := (w_X0_addAnswer cI cC h0 h1 h3 h5 h7 h9 h11 h2 h4 h6 h12 fR rR fA rA ri hd ln rnd)) ⟨hx, hb, hml, hown, hts⟩ [2, 3] [0, 1, 4, 5, 6, 7] (c_X4_get l D cI cC cE h3 h4 _ 80 fR 4 rR p2 3 r7 hu8) (cwV 2 hts gX0_addAnswer_X4_get rfl rfl rfl (by decide +kernel) ⟨Nat.le_of_ble_eq_true rfl, Nat.le_of_ble_eq_true rfl⟩) hK hP hD hS hA rfl rfl rfl rfl rfl rfl rfl rfl rfl hl.1 rfl (Nat.le_of_ble_eq_true rfl) dX0_addAnswer_56 ⟨Nat.le_refl 0, Nat.le_refl 0⟩ (fun H locs hP hD hS => ?_)
              refine lv_if_ne (tgt := 75) hx hb dX0_addAnswer_59 (by decide) (fun c9 => ?_) (fun c9 => ?_)
              · have h := (k_iB h).2 c9
                refine lv_bipush (v := (-4)) hx hb dX0_addAnswer_75 (by decide) ?_
                obtain ⟨rfl, rfl, rfl, rfl, rfl⟩ := inj5 (Option.some.inj h)
                exact fin _ _ _ _ dX0_addAnswer_77 hP hD hS
              · have h := (k_iB h).1 c9
                refine lv_aload_n hx hb dX0_addAnswer_62 rfl (lv_at hl 0 rfl) ?_
                refine va_get (ci := 0) (C := RX0) (T := TX0) (N := 7) hx hb hts hiX0 hown hK hP 0 rfl rfl 1 (by decide) (hts (.fieldLink RX0 20 "RiddleTrade$Exchange" "riddles" "LRiddleTrade$Table;") (List.mem_of_getElem? (i := 2) rfl)) (fun _ h9 => h9) rfl dX0_addAnswer_63 ?_
                refine lv_iload_n hx hb dX0_addAnswer_66 rfl (lv_at hl 2 rfl) ?_
                refine lv_iconst (v := 0) hx hb dX0_addAnswer_67 (by decide) ?_
                obtain ⟨r10, hu11, h⟩ := ob1_el h
                refine kcVi (ci := 4) (q := (RX4, TX4, 3)) (ws1 := (w_X0_addAnswer cI cC h0 h1 h3 h5 h7 h9 h11 h2 h4 h6 h12 fR rR fA rA ri hd ln rnd)) ⟨hx, hb, hml, hown, hts⟩ [2, 3] [0, 1, 4, 5, 6, 7] (c_X4_get l D cI cC cE h3 h4 _ 80 fR 4 rR p2 0 r10 hu11) (cwV 2 hts gX0_addAnswer_X4_get rfl rfl rfl (by decide +kernel) ⟨Nat.le_of_ble_eq_true rfl, Nat.le_of_ble_eq_true rfl⟩) hK hP hD hS hA rfl rfl rfl rfl rfl rfl rfl rfl rfl hl.1 rfl (Nat.le_of_ble_eq_true rfl) dX0_addAnswer_68 ⟨Nat.le_refl 0, Nat.le_refl 0⟩ (fun H locs hP hD hS => ?_)
                refine lv_iload_n hx hb dX0_addAnswer_71 rfl (lv_at hl 1 rfl) ?_
                refine lv_icmp_ne (tgt := 78) hx hb dX0_addAnswer_72 (by decide) (fun c12 => ?_) (fun c12 => ?_)
                · have h := (k_iB h).2 c12
                  refine lv_aload_n hx hb dX0_addAnswer_78 rfl (lv_at hl 0 rfl) ?_
                  refine va_get (ci := 0) (C := RX0) (T := TX0) (N := 7) hx hb hts hiX0 hown hK hP 0 rfl rfl 2 (by decide) (hts (.fieldLink RX0 23 "RiddleTrade$Exchange" "answers" "LRiddleTrade$Table;") (List.mem_of_getElem? (i := 3) rfl)) (fun _ h9 => h9) rfl dX0_addAnswer_79 ?_
                  refine kcVi (ci := 4) (q := (RX4, TX4, 3)) (ws1 := (w_X0_addAnswer cI cC h0 h1 h3 h5 h7 h9 h11 h2 h4 h6 h12 fR rR fA rA ri hd ln rnd)) ⟨hx, hb, hml, hown, hts⟩ [4] [0, 1, 2, 3, 5, 6, 7] (c_X4_rows l D cI cC cE h5 h6 _ 8 rA (d_X4_rows rA) rfl) (cwV 0 hts gX0_addAnswer_X4_rows rfl rfl rfl (by decide +kernel) ⟨Nat.le_of_ble_eq_true rfl, Nat.le_of_ble_eq_true rfl⟩) hK hP hD hS hA rfl rfl rfl rfl rfl rfl rfl rfl rfl hl.1 rfl (Nat.le_of_ble_eq_true rfl) dX0_addAnswer_82 ⟨Nat.le_refl 0, Nat.le_refl 0⟩ (fun H locs hP hD hS => ?_)
                  refine lv_bipush (v := 40) hx hb dX0_addAnswer_85 (by decide) ?_
                  refine lv_icmp_lt (tgt := 93) hx hb dX0_addAnswer_87 (by decide) (fun c13 => ?_) (fun c13 => ?_)
                  · have h := (k_iB h).1 c13
                    refine lv_aload_n hx hb dX0_addAnswer_93 rfl (lv_at hl 0 rfl) ?_
                    refine va_get (ci := 0) (C := RX0) (T := TX0) (N := 7) hx hb hts hiX0 hown hK hP 0 rfl rfl 2 (by decide) (hts (.fieldLink RX0 23 "RiddleTrade$Exchange" "answers" "LRiddleTrade$Table;") (List.mem_of_getElem? (i := 3) rfl)) (fun _ h9 => h9) rfl dX0_addAnswer_94 ?_
                    obtain ⟨r14, rA_15, hu16, h⟩ := tb2_el h
                    refine kcVi (ci := 4) (q := (RX4, TX4, 3)) (ws1 := (w_X0_addAnswer cI cC h0 h1 h3 h5 h7 h9 h11 h2 h4 h6 h12 fR rR fA rA_15 ri hd ln rnd)) ⟨hx, hb, hml, hown, hts⟩ [4] [0, 1, 2, 3, 5, 6, 7] (c_X4_addRow l D cI cC cE h5 h6 _ 8 rA r14 rA_15 hu16) (cwV 0 hts gX0_addAnswer_X4_addRow rfl rfl rfl (by decide +kernel) ⟨Nat.le_of_ble_eq_true rfl, Nat.le_of_ble_eq_true rfl⟩) hK hP hD hS hA rfl rfl rfl rfl rfl rfl rfl rfl rfl hl.1 rfl (Nat.le_of_ble_eq_true rfl) dX0_addAnswer_97 ⟨Nat.le_refl 0, Nat.le_refl 0⟩ (fun H locs hP hD hS => ?_)
                    refine lv_istore (lv' := [(5, .int r14), (0, .ref h0), (1, .int p1), (2, .int p2), (3, .int p3), (4, .int p4)]) hx hb dX0_addAnswer_100 hl (by decide) rfl (fun ls hl => ?_)
                    refine lv_aload_n hx hb dX0_addAnswer_102 rfl (lv_at hl 1 rfl) ?_
                    refine va_get (ci := 0) (C := RX0) (T := TX0) (N := 7) hx hb hts hiX0 hown hK hP 0 rfl rfl 2 (by decide) (hts (.fieldLink RX0 23 "RiddleTrade$Exchange" "answers" "LRiddleTrade$Table;") (List.mem_of_getElem? (i := 3) rfl)) (fun _ h9 => h9) rfl dX0_addAnswer_103 ?_
                    refine lv_iload hx hb dX0_addAnswer_106 (lv_at hl 0 rfl) ?_
                    refine lv_iconst (v := 0) hx hb dX0_addAnswer_108 (by decide) ?_
                    refine lv_iload_n hx hb dX0_addAnswer_109 rfl (lv_at hl 2 rfl) ?_
                    obtain ⟨fA_17, hu18, h⟩ := ob1_el h
                    refine kcVv (ci := 4) (q := (RX4, TX4, 3)) (ws1 := (w_X0_addAnswer cI cC h0 h1 h3 h5 h7 h9 h11 h2 h4 h6 h12 fR rR fA_17 rA_15 ri hd ln rnd)) ⟨hx, hb, hml, hown, hts⟩ [4, 5] [0, 1, 2, 3, 6, 7] (c_X4_put l D cI cC cE h5 h6 _ 320 fA 8 rA_15 r14 0 p1 fA_17 hu18) (cwV 3 hts gX0_addAnswer_X4_put rfl rfl rfl (by decide +kernel) ⟨Nat.le_of_ble_eq_true rfl, Nat.le_of_ble_eq_true rfl⟩) hK hP hD hS hA rfl rfl rfl rfl rfl rfl rfl rfl rfl hl.1 rfl (Nat.le_of_ble_eq_true rfl) dX0_addAnswer_110 ⟨Nat.le_refl 0, Nat.le_refl 0⟩ (fun H locs hP hD hS => ?_)
                    refine lv_aload_n hx hb dX0_addAnswer_113 rfl (lv_at hl 1 rfl) ?_
                    refine va_get (ci := 0) (C := RX0) (T := TX0) (N := 7) hx hb hts hiX0 hown hK hP 0 rfl rfl 2 (by decide) (hts (.fieldLink RX0 23 "RiddleTrade$Exchange" "answers" "LRiddleTrade$Table;") (List.mem_of_getElem? (i := 3) rfl)) (fun _ h9 => h9) rfl dX0_addAnswer_114 ?_
                    refine lv_iload hx hb dX0_addAnswer_117 (lv_at hl 0 rfl) ?_
                    refine lv_iconst (v := 1) hx hb dX0_addAnswer_119 (by decide) ?_
                    refine lv_iload_n hx hb dX0_addAnswer_120 rfl (lv_at hl 3 rfl) ?_
                    obtain ⟨fA_19, hu20, h⟩ := ob1_el h
                    refine kcVv (ci := 4) (q := (RX4, TX4, 3)) (ws1 := (w_X0_addAnswer cI cC h0 h1 h3 h5 h7 h9 h11 h2 h4 h6 h12 fR rR fA_19 rA_15 ri hd ln rnd)) ⟨hx, hb, hml, hown, hts⟩ [4, 5] [0, 1, 2, 3, 6, 7] (c_X4_put l D cI cC cE h5 h6 _ 320 fA_17 8 rA_15 r14 1 p2 fA_19 hu20) (cwV 3 hts gX0_addAnswer_X4_put rfl rfl rfl (by decide +kernel) ⟨Nat.le_of_ble_eq_true rfl, Nat.le_of_ble_eq_true rfl⟩) hK hP hD hS hA rfl rfl rfl rfl rfl rfl rfl rfl rfl hl.1 rfl (Nat.le_of_ble_eq_true rfl) dX0_addAnswer_121 ⟨Nat.le_refl 0, Nat.le_refl 0⟩ (fun H locs hP hD hS => ?_)
                    refine lv_aload_n hx hb dX0_addAnswer_124 rfl (lv_at hl 1 rfl) ?_
                    refine va_get (ci := 0) (C := RX0) (T := TX0) (N := 7) hx hb hts hiX0 hown hK hP 0 rfl rfl 2 (by decide) (hts (.fieldLink RX0 23 "RiddleTrade$Exchange" "answers" "LRiddleTrade$Table;") (List.mem_of_getElem? (i := 3) rfl)) (fun _ h9 => h9) rfl dX0_addAnswer_125 ?_
                    refine lv_iload hx hb dX0_addAnswer_128 (lv_at hl 0 rfl) ?_
                    refine lv_iconst (v := 2) hx hb dX0_addAnswer_130 (by decide) ?_
                    refine lv_iload_n hx hb dX0_addAnswer_131 rfl (lv_at hl 4 rfl) ?_
                    obtain ⟨fA_21, hu22, h⟩ := ob1_el h
                    refine kcVv (ci := 4) (q := (RX4, TX4, 3)) (ws1 := (w_X0_addAnswer cI cC h0 h1 h3 h5 h7 h9 h11 h2 h4 h6 h12 fR rR fA_21 rA_15 ri hd ln rnd)) ⟨hx, hb, hml, hown, hts⟩ [4, 5] [0, 1, 2, 3, 6, 7] (c_X4_put l D cI cC cE h5 h6 _ 320 fA_19 8 rA_15 r14 2 p3 fA_21 hu22) (cwV 3 hts gX0_addAnswer_X4_put rfl rfl rfl (by decide +kernel) ⟨Nat.le_of_ble_eq_true rfl, Nat.le_of_ble_eq_true rfl⟩) hK hP hD hS hA rfl rfl rfl rfl rfl rfl rfl rfl rfl hl.1 rfl (Nat.le_of_ble_eq_true rfl) dX0_addAnswer_132 ⟨Nat.le_refl 0, Nat.le_refl 0⟩ (fun H locs hP hD hS => ?_)
                    refine lv_aload_n hx hb dX0_addAnswer_135 rfl (lv_at hl 1 rfl) ?_
                    refine va_get (ci := 0) (C := RX0) (T := TX0) (N := 7) hx hb hts hiX0 hown hK hP 0 rfl rfl 2 (by decide) (hts (.fieldLink RX0 23 "RiddleTrade$Exchange" "answers" "LRiddleTrade$Table;") (List.mem_of_getElem? (i := 3) rfl)) (fun _ h9 => h9) rfl dX0_addAnswer_136 ?_
                    refine lv_iload hx hb dX0_addAnswer_139 (lv_at hl 0 rfl) ?_
                    refine lv_iconst (v := 3) hx hb dX0_addAnswer_141 (by decide) ?_
                    refine lv_iload hx hb dX0_addAnswer_142 (lv_at hl 5 rfl) ?_
                    obtain ⟨fA_23, hu24, h⟩ := ob1_el h
                    refine kcVv (ci := 4) (q := (RX4, TX4, 3)) (ws1 := (w_X0_addAnswer cI cC h0 h1 h3 h5 h7 h9 h11 h2 h4 h6 h12 fR rR fA_23 rA_15 ri hd ln rnd)) ⟨hx, hb, hml, hown, hts⟩ [4, 5] [0, 1, 2, 3, 6, 7] (c_X4_put l D cI cC cE h5 h6 _ 320 fA_21 8 rA_15 r14 3 p4 fA_23 hu24) (cwV 3 hts gX0_addAnswer_X4_put rfl rfl rfl (by decide +kernel) ⟨Nat.le_of_ble_eq_true rfl, Nat.le_of_ble_eq_true rfl⟩) hK hP hD hS hA rfl rfl rfl rfl rfl rfl rfl rfl rfl hl.1 rfl (Nat.le_of_ble_eq_true rfl) dX0_addAnswer_144 ⟨Nat.le_refl 0, Nat.le_refl 0⟩ (fun H locs hP hD hS => ?_)
                    refine lv_aload_n hx hb dX0_addAnswer_147 rfl (lv_at hl 1 rfl) ?_
                    refine va_get (ci := 0) (C := RX0) (T := TX0) (N := 7) hx hb hts hiX0 hown hK hP 0 rfl rfl 2 (by decide) (hts (.fieldLink RX0 23 "RiddleTrade$Exchange" "answers" "LRiddleTrade$Table;") (List.mem_of_getElem? (i := 3) rfl)) (fun _ h9 => h9) rfl dX0_addAnswer_148 ?_
                    refine lv_iload hx hb dX0_addAnswer_151 (lv_at hl 0 rfl) ?_
                    refine lv_iconst (v := 4) hx hb dX0_addAnswer_153 (by decide) ?_
                    refine lv_iconst (v := 0) hx hb dX0_addAnswer_154 (by decide) ?_
                    obtain ⟨fA_25, hu26, h⟩ := ob1_el h
                    refine kcVv (ci := 4) (q := (RX4, TX4, 3)) (ws1 := (w_X0_addAnswer cI cC h0 h1 h3 h5 h7 h9 h11 h2 h4 h6 h12 fR rR fA_25 rA_15 ri hd ln rnd)) ⟨hx, hb, hml, hown, hts⟩ [4, 5] [0, 1, 2, 3, 6, 7] (c_X4_put l D cI cC cE h5 h6 _ 320 fA_23 8 rA_15 r14 4 0 fA_25 hu26) (cwV 3 hts gX0_addAnswer_X4_put rfl rfl rfl (by decide +kernel) ⟨Nat.le_of_ble_eq_true rfl, Nat.le_of_ble_eq_true rfl⟩) hK hP hD hS hA rfl rfl rfl rfl rfl rfl rfl rfl rfl hl.1 rfl (Nat.le_of_ble_eq_true rfl) dX0_addAnswer_155 ⟨Nat.le_refl 0, Nat.le_refl 0⟩ (fun H locs hP hD hS => ?_)
                    refine lv_aload_n hx hb dX0_addAnswer_158 rfl (lv_at hl 1 rfl) ?_
                    refine va_get (ci := 0) (C := RX0) (T := TX0) (N := 7) hx hb hts hiX0 hown hK hP 0 rfl rfl 2 (by decide) (hts (.fieldLink RX0 23 "RiddleTrade$Exchange" "answers" "LRiddleTrade$Table;") (List.mem_of_getElem? (i := 3) rfl)) (fun _ h9 => h9) rfl dX0_addAnswer_159 ?_
                    refine lv_iload hx hb dX0_addAnswer_162 (lv_at hl 0 rfl) ?_
                    refine lv_iconst (v := 5) hx hb dX0_addAnswer_164 (by decide) ?_
                    refine lv_iconst (v := 0) hx hb dX0_addAnswer_165 (by decide) ?_
                    obtain ⟨fA_27, hu28, h⟩ := ob1_el h
                    refine kcVv (ci := 4) (q := (RX4, TX4, 3)) (ws1 := (w_X0_addAnswer cI cC h0 h1 h3 h5 h7 h9 h11 h2 h4 h6 h12 fR rR fA_27 rA_15 ri hd ln rnd)) ⟨hx, hb, hml, hown, hts⟩ [4, 5] [0, 1, 2, 3, 6, 7] (c_X4_put l D cI cC cE h5 h6 _ 320 fA_25 8 rA_15 r14 5 0 fA_27 hu28) (cwV 3 hts gX0_addAnswer_X4_put rfl rfl rfl (by decide +kernel) ⟨Nat.le_of_ble_eq_true rfl, Nat.le_of_ble_eq_true rfl⟩) hK hP hD hS hA rfl rfl rfl rfl rfl rfl rfl rfl rfl hl.1 rfl (Nat.le_of_ble_eq_true rfl) dX0_addAnswer_166 ⟨Nat.le_refl 0, Nat.le_refl 0⟩ (fun H locs hP hD hS => ?_)
                    refine lv_aload_n hx hb dX0_addAnswer_169 rfl (lv_at hl 1 rfl) ?_
                    refine va_get (ci := 0) (C := RX0) (T := TX0) (N := 7) hx hb hts hiX0 hown hK hP 0 rfl rfl 2 (by decide) (hts (.fieldLink RX0 23 "RiddleTrade$Exchange" "answers" "LRiddleTrade$Table;") (List.mem_of_getElem? (i := 3) rfl)) (fun _ h9 => h9) rfl dX0_addAnswer_170 ?_
                    refine lv_iload hx hb dX0_addAnswer_173 (lv_at hl 0 rfl) ?_
                    refine lv_bipush (v := 6) hx hb dX0_addAnswer_175 (by decide) ?_
                    refine lv_iconst (v := 0) hx hb dX0_addAnswer_177 (by decide) ?_
                    obtain ⟨fA_29, hu30, h⟩ := ob1_el h
                    refine kcVv (ci := 4) (q := (RX4, TX4, 3)) (ws1 := (w_X0_addAnswer cI cC h0 h1 h3 h5 h7 h9 h11 h2 h4 h6 h12 fR rR fA_29 rA_15 ri hd ln rnd)) ⟨hx, hb, hml, hown, hts⟩ [4, 5] [0, 1, 2, 3, 6, 7] (c_X4_put l D cI cC cE h5 h6 _ 320 fA_27 8 rA_15 r14 6 0 fA_29 hu30) (cwV 3 hts gX0_addAnswer_X4_put rfl rfl rfl (by decide +kernel) ⟨Nat.le_of_ble_eq_true rfl, Nat.le_of_ble_eq_true rfl⟩) hK hP hD hS hA rfl rfl rfl rfl rfl rfl rfl rfl rfl hl.1 rfl (Nat.le_of_ble_eq_true rfl) dX0_addAnswer_178 ⟨Nat.le_refl 0, Nat.le_refl 0⟩ (fun H locs hP hD hS => ?_)
                    refine lv_aload_n hx hb dX0_addAnswer_181 rfl (lv_at hl 1 rfl) ?_
                    refine va_get (ci := 0) (C := RX0) (T := TX0) (N := 7) hx hb hts hiX0 hown hK hP 0 rfl rfl 2 (by decide) (hts (.fieldLink RX0 23 "RiddleTrade$Exchange" "answers" "LRiddleTrade$Table;") (List.mem_of_getElem? (i := 3) rfl)) (fun _ h9 => h9) rfl dX0_addAnswer_182 ?_
                    refine lv_iload hx hb dX0_addAnswer_185 (lv_at hl 0 rfl) ?_
                    refine lv_bipush (v := 7) hx hb dX0_addAnswer_187 (by decide) ?_
                    refine lv_iconst (v := 0) hx hb dX0_addAnswer_189 (by decide) ?_
                    obtain ⟨fA_31, hu32, h⟩ := ob1_el h
                    refine kcVv (ci := 4) (q := (RX4, TX4, 3)) (ws1 := (w_X0_addAnswer cI cC h0 h1 h3 h5 h7 h9 h11 h2 h4 h6 h12 fR rR fA_31 rA_15 ri hd ln rnd)) ⟨hx, hb, hml, hown, hts⟩ [4, 5] [0, 1, 2, 3, 6, 7] (c_X4_put l D cI cC cE h5 h6 _ 320 fA_29 8 rA_15 r14 7 0 fA_31 hu32) (cwV 3 hts gX0_addAnswer_X4_put rfl rfl rfl (by decide +kernel) ⟨Nat.le_of_ble_eq_true rfl, Nat.le_of_ble_eq_true rfl⟩) hK hP hD hS hA rfl rfl rfl rfl rfl rfl rfl rfl rfl hl.1 rfl (Nat.le_of_ble_eq_true rfl) dX0_addAnswer_190 ⟨Nat.le_refl 0, Nat.le_refl 0⟩ (fun H locs hP hD hS => ?_)
                    refine lv_aload_n hx hb dX0_addAnswer_193 rfl (lv_at hl 1 rfl) ?_
                    refine va_get (ci := 0) (C := RX0) (T := TX0) (N := 7) hx hb hts hiX0 hown hK hP 0 rfl rfl 5 (by decide) (hts (.fieldLink RX0 35 "RiddleTrade$Exchange" "row" "LRiddleTrade$Row;") (List.mem_of_getElem? (i := 4) rfl)) (fun _ h9 => h9) rfl dX0_addAnswer_194 ?_
                    refine lv_iload hx hb dX0_addAnswer_197 (lv_at hl 0 rfl) ?_
                    obtain ⟨ri_33, ln_34, hu35, h⟩ := ob2_el h
                    refine kcVv (ci := 3) (q := (RX3, TX3, 3)) (ws1 := (w_X0_addAnswer cI cC h0 h1 h3 h5 h7 h9 h11 h2 h4 h6 h12 fR rR fA_31 rA_15 ri_33 hd ln_34 rnd)) ⟨hx, hb, hml, hown, hts⟩ [6, 7] [0, 1, 2, 3, 4, 5] (c_X3_addLast l D cI cC cE h11 h12 _ ri hd ln r14 ri_33 ln_34 hu35) (cwV 1 hts gX0_addAnswer_X3_addLast rfl rfl rfl (by decide +kernel) ⟨Nat.le_of_ble_eq_true rfl, Nat.le_of_ble_eq_true rfl⟩) hK hP hD hS hA rfl rfl rfl rfl rfl rfl rfl rfl rfl hl.1 rfl (Nat.le_of_ble_eq_true rfl) dX0_addAnswer_199 ⟨Nat.le_refl 0, Nat.le_refl 0⟩ (fun H locs hP hD hS => ?_)
                    refine lv_iload hx hb dX0_addAnswer_202 (lv_at hl 0 rfl) ?_
                    obtain ⟨rfl, rfl, rfl, rfl, rfl⟩ := inj5 (Option.some.inj h)
                    exact fin _ _ _ _ dX0_addAnswer_204 hP hD hS
                  · have h := (k_iB h).2 c13
                    refine lv_bipush (v := (-3)) hx hb dX0_addAnswer_90 (by decide) ?_
                    obtain ⟨rfl, rfl, rfl, rfl, rfl⟩ := inj5 (Option.some.inj h)
                    exact fin _ _ _ _ dX0_addAnswer_92 hP hD hS
                · have h := (k_iB h).1 c12
                  refine lv_bipush (v := (-4)) hx hb dX0_addAnswer_75 (by decide) ?_
                  obtain ⟨rfl, rfl, rfl, rfl, rfl⟩ := inj5 (Option.some.inj h)
                  exact fin _ _ _ _ dX0_addAnswer_77 hP hD hS
            · have h := (k_iB h).2 c6
              refine lv_bipush (v := (-2)) hx hb dX0_addAnswer_47 (by decide) ?_
              obtain ⟨rfl, rfl, rfl, rfl, rfl⟩ := inj5 (Option.some.inj h)
              exact fin _ _ _ _ dX0_addAnswer_49 hP hD hS
    · have h := (k_iB h).1 c2
      refine lv_iconst (v := (-1)) hx hb dX0_addAnswer_22 (by decide) ?_
      obtain ⟨rfl, rfl, rfl, rfl, rfl⟩ := inj5 (Option.some.inj h)
      exact fin _ _ _ _ dX0_addAnswer_23 hP hD hS
abbrev w_X0_setScalesRight (cI cC : ClassId) (h0 h1 h3 h5 h7 h9 h11 h8 : Nat) (fS : Nat → Int32) (rnd : Int32) : va_W := [(h0, .inr (0, [.ref h1, .ref h3, .ref h5, .ref h7, .ref h9, .ref h11, .int rnd])), (h7, .inr (4, [.ref h8, .int 2, .int 2])), (h8, .inl (cI, 4, .inl fS))]
def lp_X0_setScalesRight_4 : Nat → Int32 → Int32 → (Nat → Int32) → Option (Int32 × (Nat → Int32))
  | 0 => fun _ _ _ => none
  | k + 1 => fun x1 x2 fS =>
    if 2 ≤ x2 then (if x1 = 0 then (some ((-5), fS))
    else (some (x1, fS)))
    else (ob1 (d_X4_get 4 x2 0 fS 2) fun r3 =>
    ob1 (d_X4_put 4 x2 0 0 fS 2) fun fS_5 =>
    (lp_X0_setScalesRight_4   k) (x1 + (if 0 ≤ r3 then r3 else 0 - r3)) (x2 + 1) fS_5)
def d_X0_setScalesRight (fS : Nat → Int32) : Option (Int32 × (Nat → Int32)) :=
    lp_X0_setScalesRight_4   fuel 0 0 fS
set_option maxHeartbeats 4000000 in
set_option maxRecDepth 100000 in
theorem c_X0_setScalesRight (l : Launch) (D : va_G) (cI cC cE : ClassId) (h0 h1 h3 h5 h7 h9 h11 h8 : Nat) (sz : Nat) (fS : Nat → Int32) (rnd : Int32) (r0 : Int32) (o_fS : Nat → Int32) (h : d_X0_setScalesRight fS = some (r0, o_fS)) : Met l yX0_setScalesRight wsX0_setScalesRight ({ frames := 1, cells := 0, slots := 0, locals := 24 } : Room) (kP D (kT cI cC cE) [.ref h0] (w_X0_setScalesRight cI cC h0 h1 h3 h5 h7 h9 h11 h8 fS rnd) sz) (kQi D (kT cI cC cE) (w_X0_setScalesRight cI cC h0 h1 h3 h5 h7 h9 h11 h8 fS rnd) (w_X0_setScalesRight cI cC h0 h1 h3 h5 h7 h9 h11 h8 o_fS rnd) sz r0) 0 0 (va_A (w_X0_setScalesRight cI cC h0 h1 h3 h5 h7 h9 h11 h8 fS rnd) sz) := by
  refine kMetI (cc := cX0_setScalesRight) (maxL := 3) (own := RX0) (by decide) rfl (Nat.le_of_ble_eq_true rfl) rfl ?_
  intro p e s m below meth c A Q hx hb hml hown hts hP hK hD hA hS hname fin ls hl
  have hl : lv_has ls 3 [(0, .ref h0)] := hl
  have hiX0 : ∀ w ∈ u_ws RX0 TX0 7, w ∈ wsX0_setScalesRight := by decide +kernel
  have hL4 : ∀ (k : Nat), ∀ (x1 : Int32) (x2 : Int32) (fS : Nat → Int32) (H : Heap) (locs : List Loc), va_P D vwCl (w_X0_setScalesRight cI cC h0 h1 h3 h5 h7 h9 h11 h8 fS rnd) H → va_D A (w_X0_setScalesRight cI cC h0 h1 h3 h5 h7 h9 h11 h8 fS rnd) → va_S A s.heap H locs → ∀ (ls : Array Slot), lv_has ls 3 [(0, .ref h0), (1, .int x1), (2, .int x2)] → lp_X0_setScalesRight_4   k x1 x2 fS = some (r0, o_fS) → W p l e ({ frames := 1, cells := 0, slots := 0, locals := 24 } : Room) s m [.ref h0].toArray below meth c H locs 0 0 Q (F0 m 4 ls []) := by
    intro k
    induction k with
    | zero =>
      intro x1 x2 fS H locs hP hD hS ls hl h
      exact k_none h
    | succ k ih =>
      intro x1 x2 fS H locs hP hD hS ls hl h
      dsimp only [lp_X0_setScalesRight_4] at h
      refine lv_iload_n hx hb dX0_setScalesRight_4 rfl (lv_at hl 2 rfl) ?_
      refine lv_iconst (v := 2) hx hb dX0_setScalesRight_5 (by decide) ?_
      refine lv_icmp_ge (tgt := 40) hx hb dX0_setScalesRight_6 (by decide) (fun c1 => ?_) (fun c1 => ?_)
      · have h := (k_iB h).1 c1
        refine lv_iload_n hx hb dX0_setScalesRight_40 rfl (lv_at hl 1 rfl) ?_
        refine lv_if_ne (tgt := 49) hx hb dX0_setScalesRight_41 (by decide) (fun c2 => ?_) (fun c2 => ?_)
        · have h := (k_iB h).2 c2
          refine lv_iload_n hx hb dX0_setScalesRight_49 rfl (lv_at hl 1 rfl) ?_
          obtain ⟨rfl, rfl⟩ := inj2 (Option.some.inj h)
          exact fin _ _ _ _ dX0_setScalesRight_50 hP hD hS
        · have h := (k_iB h).1 c2
          refine lv_bipush (v := (-5)) hx hb dX0_setScalesRight_44 (by decide) ?_
          refine lv_goto (tgt := 50) hx hb dX0_setScalesRight_46 (by decide) ?_
          obtain ⟨rfl, rfl⟩ := inj2 (Option.some.inj h)
          exact fin _ _ _ _ dX0_setScalesRight_50 hP hD hS
      · have h := (k_iB h).2 c1
        refine lv_iload_n hx hb dX0_setScalesRight_9 rfl (lv_at hl 1 rfl) ?_
        refine lv_aload_n hx hb dX0_setScalesRight_10 rfl (lv_at hl 0 rfl) ?_
        refine va_get (ci := 0) (C := RX0) (T := TX0) (N := 7) hx hb hts hiX0 hown hK hP 0 rfl rfl 3 (by decide) (hts (.fieldLink RX0 26 "RiddleTrade$Exchange" "scales" "LRiddleTrade$Table;") (List.mem_of_getElem? (i := 1) rfl)) (fun _ h9 => h9) rfl dX0_setScalesRight_11 ?_
        refine lv_iload_n hx hb dX0_setScalesRight_14 rfl (lv_at hl 2 rfl) ?_
        refine lv_iconst (v := 0) hx hb dX0_setScalesRight_15 (by decide) ?_
        obtain ⟨r3, hu4, h⟩ := ob1_el h
        refine kcVi (ci := 4) (q := (RX4, TX4, 3)) (ws1 := (w_X0_setScalesRight cI cC h0 h1 h3 h5 h7 h9 h11 h8 fS rnd)) ⟨hx, hb, hml, hown, hts⟩ [1, 2] [0] (c_X4_get l D cI cC cE h7 h8 _ 4 fS 2 2 x2 0 r3 hu4) (cwV 2 hts gX0_setScalesRight_X4_get rfl rfl rfl (by decide +kernel) ⟨Nat.le_of_ble_eq_true rfl, Nat.le_of_ble_eq_true rfl⟩) hK hP hD hS hA rfl rfl rfl rfl rfl rfl rfl rfl rfl hl.1 rfl (Nat.le_of_ble_eq_true rfl) dX0_setScalesRight_16 ⟨Nat.le_refl 0, Nat.le_refl 0⟩ (fun H locs hP hD hS => ?_)
        refine va_mabs hx hb (hml.trans hl.1.symm) hown (hts _ (List.mem_of_getElem? (i := 2) rfl)) (hts _ (List.mem_of_getElem? (i := 3) rfl)) (hts _ (List.mem_of_getElem? (i := 4) rfl)) (hts _ (List.mem_of_getElem? (i := 5) rfl)) (Nat.le_of_ble_eq_true rfl) (Nat.le_of_ble_eq_true rfl) (Nat.le_refl 0) (Nat.le_refl 0) dX0_setScalesRight_19 ?_
        refine lv_iadd hx hb dX0_setScalesRight_22 ?_
        refine lv_istore_n (lv' := [(1, .int (x1 + (if 0 ≤ r3 then r3 else 0 - r3))), (0, .ref h0), (2, .int x2)]) hx hb dX0_setScalesRight_23 rfl hl (by decide) rfl (fun ls hl => ?_)
        refine lv_aload_n hx hb dX0_setScalesRight_24 rfl (lv_at hl 1 rfl) ?_
        refine va_get (ci := 0) (C := RX0) (T := TX0) (N := 7) hx hb hts hiX0 hown hK hP 0 rfl rfl 3 (by decide) (hts (.fieldLink RX0 26 "RiddleTrade$Exchange" "scales" "LRiddleTrade$Table;") (List.mem_of_getElem? (i := 1) rfl)) (fun _ h9 => h9) rfl dX0_setScalesRight_25 ?_
        refine lv_iload_n hx hb dX0_setScalesRight_28 rfl (lv_at hl 2 rfl) ?_
        refine lv_iconst (v := 0) hx hb dX0_setScalesRight_29 (by decide) ?_
        refine lv_iconst (v := 0) hx hb dX0_setScalesRight_30 (by decide) ?_
        obtain ⟨fS_5, hu6, h⟩ := ob1_el h
        refine kcVv (ci := 4) (q := (RX4, TX4, 3)) (ws1 := (w_X0_setScalesRight cI cC h0 h1 h3 h5 h7 h9 h11 h8 fS_5 rnd)) ⟨hx, hb, hml, hown, hts⟩ [1, 2] [0] (c_X4_put l D cI cC cE h7 h8 _ 4 fS 2 2 x2 0 0 fS_5 hu6) (cwV 3 hts gX0_setScalesRight_X4_put rfl rfl rfl (by decide +kernel) ⟨Nat.le_of_ble_eq_true rfl, Nat.le_of_ble_eq_true rfl⟩) hK hP hD hS hA rfl rfl rfl rfl rfl rfl rfl rfl rfl hl.1 rfl (Nat.le_of_ble_eq_true rfl) dX0_setScalesRight_31 ⟨Nat.le_refl 0, Nat.le_refl 0⟩ (fun H locs hP hD hS => ?_)
        refine lv_iinc (v := (x2 + 1)) (lv' := [(2, .int (x2 + 1)), (1, .int (x1 + (if 0 ≤ r3 then r3 else 0 - r3))), (0, .ref h0)]) hx hb dX0_setScalesRight_34 hl (k := 2) rfl rfl (by decide) rfl (fun ls hl => ?_)
        refine lv_goto (tgt := 4) hx hb dX0_setScalesRight_37 (by decide) ?_
        exact ih (x1 + (if 0 ≤ r3 then r3 else 0 - r3)) (x2 + 1) fS_5 _ _ hP hD hS _ (lv_sub hl [2, 1, 0] rfl) h
  dsimp only [d_X0_setScalesRight] at h
  refine lv_iconst (v := 0) hx hb dX0_setScalesRight_0 (by decide) ?_
  refine lv_istore_n (lv' := [(1, .int 0), (0, .ref h0)]) hx hb dX0_setScalesRight_1 rfl hl (by decide) rfl (fun ls hl => ?_)
  refine lv_iconst (v := 0) hx hb dX0_setScalesRight_2 (by decide) ?_
  refine lv_istore_n (lv' := [(2, .int 0), (1, .int 0), (0, .ref h0)]) hx hb dX0_setScalesRight_3 rfl hl (by decide) rfl (fun ls hl => ?_)
  exact hL4   fuel 0 0 fS _ _ hP hD hS _ (lv_sub hl [2, 1, 0] rfl) h
abbrev w_X0_changeSetting (cI cC : ClassId) (h0 h1 h3 h5 h7 h9 h11 h10 : Nat) (fE : Nat → Int32) (rnd : Int32) : va_W := [(h0, .inr (0, [.ref h1, .ref h3, .ref h5, .ref h7, .ref h9, .ref h11, .int rnd])), (h9, .inr (4, [.ref h10, .int 3, .int 4])), (h10, .inl (cI, 12, .inl fE))]
def d_X0_changeSetting (p1 : Int32) (p2 : Int32) (fE : Nat → Int32) : Option (Int32 × (Nat → Int32)) :=
    if (d_X4_has p1 4) = 0 then (some ((-1), fE))
    else (ob1 (d_X4_get 12 p1 1 fE 3) fun r2 =>
    if p2 < r2 then (some ((-2), fE))
    else (ob1 (d_X4_get 12 p1 2 fE 3) fun r5 =>
    if p2 ≤ r5 then (ob1 (d_X4_get 12 p1 0 fE 3) fun r8 =>
    if r8 = p2 then (some ((-5), fE))
    else (ob1 (d_X4_put 12 p1 0 p2 fE 3) fun fE_11 =>
    some (r8, fE_11)))
    else (some ((-2), fE))))
set_option maxHeartbeats 4000000 in
set_option maxRecDepth 100000 in
theorem c_X0_changeSetting (l : Launch) (D : va_G) (cI cC cE : ClassId) (h0 h1 h3 h5 h7 h9 h11 h10 : Nat) (sz : Nat) (fE : Nat → Int32) (rnd : Int32) (p1 : Int32) (p2 : Int32) (r0 : Int32) (o_fE : Nat → Int32) (h : d_X0_changeSetting p1 p2 fE = some (r0, o_fE)) : Met l yX0_changeSetting wsX0_changeSetting ({ frames := 1, cells := 0, slots := 0, locals := 24 } : Room) (kP D (kT cI cC cE) [.ref h0, .int p1, .int p2] (w_X0_changeSetting cI cC h0 h1 h3 h5 h7 h9 h11 h10 fE rnd) sz) (kQi D (kT cI cC cE) (w_X0_changeSetting cI cC h0 h1 h3 h5 h7 h9 h11 h10 fE rnd) (w_X0_changeSetting cI cC h0 h1 h3 h5 h7 h9 h11 h10 o_fE rnd) sz r0) 0 0 (va_A (w_X0_changeSetting cI cC h0 h1 h3 h5 h7 h9 h11 h10 fE rnd) sz) := by
  refine kMetI (cc := cX0_changeSetting) (maxL := 4) (own := RX0) (by decide) rfl (Nat.le_of_ble_eq_true rfl) rfl ?_
  intro p e s m below meth c A Q hx hb hml hown hts hP hK hD hA hS hname fin ls hl
  have hl : lv_has ls 4 [(0, .ref h0), (1, .int p1), (2, .int p2)] := hl
  have hiX0 : ∀ w ∈ u_ws RX0 TX0 7, w ∈ wsX0_changeSetting := by decide +kernel
  dsimp only [d_X0_changeSetting] at h
  refine lv_aload_n hx hb dX0_changeSetting_0 rfl (lv_at hl 0 rfl) ?_
  refine va_get (ci := 0) (C := RX0) (T := TX0) (N := 7) hx hb hts hiX0 hown hK hP 0 rfl rfl 4 (by decide) (hts (.fieldLink RX0 29 "RiddleTrade$Exchange" "settings" "LRiddleTrade$Table;") (List.mem_of_getElem? (i := 1) rfl)) (fun _ h9 => h9) rfl dX0_changeSetting_1 ?_
  refine lv_iload_n hx hb dX0_changeSetting_4 rfl (lv_at hl 1 rfl) ?_
  refine kcVi (ci := 4) (q := (RX4, TX4, 3)) (ws1 := (w_X0_changeSetting cI cC h0 h1 h3 h5 h7 h9 h11 h10 fE rnd)) ⟨hx, hb, hml, hown, hts⟩ [1] [0, 2] (c_X4_has l D cI cC cE h9 h10 _ 3 4 p1 (d_X4_has p1 4) rfl) (cwV 1 hts gX0_changeSetting_X4_has rfl rfl rfl (by decide +kernel) ⟨Nat.le_of_ble_eq_true rfl, Nat.le_of_ble_eq_true rfl⟩) hK hP hD hS hA rfl rfl rfl rfl rfl rfl rfl rfl rfl hl.1 rfl (Nat.le_of_ble_eq_true rfl) dX0_changeSetting_5 ⟨Nat.le_refl 0, Nat.le_refl 0⟩ (fun H locs hP hD hS => ?_)
  refine lv_if_ne (tgt := 13) hx hb dX0_changeSetting_8 (by decide) (fun c1 => ?_) (fun c1 => ?_)
  · have h := (k_iB h).2 c1
    refine lv_iload_n hx hb dX0_changeSetting_13 rfl (lv_at hl 2 rfl) ?_
    refine lv_aload_n hx hb dX0_changeSetting_14 rfl (lv_at hl 0 rfl) ?_
    refine va_get (ci := 0) (C := RX0) (T := TX0) (N := 7) hx hb hts hiX0 hown hK hP 0 rfl rfl 4 (by decide) (hts (.fieldLink RX0 29 "RiddleTrade$Exchange" "settings" "LRiddleTrade$Table;") (List.mem_of_getElem? (i := 1) rfl)) (fun _ h9 => h9) rfl dX0_changeSetting_15 ?_
    refine lv_iload_n hx hb dX0_changeSetting_18 rfl (lv_at hl 1 rfl) ?_
    refine lv_iconst (v := 1) hx hb dX0_changeSetting_19 (by decide) ?_
    obtain ⟨r2, hu3, h⟩ := ob1_el h
    refine kcVi (ci := 4) (q := (RX4, TX4, 3)) (ws1 := (w_X0_changeSetting cI cC h0 h1 h3 h5 h7 h9 h11 h10 fE rnd)) ⟨hx, hb, hml, hown, hts⟩ [1, 2] [0] (c_X4_get l D cI cC cE h9 h10 _ 12 fE 3 4 p1 1 r2 hu3) (cwV 2 hts gX0_changeSetting_X4_get rfl rfl rfl (by decide +kernel) ⟨Nat.le_of_ble_eq_true rfl, Nat.le_of_ble_eq_true rfl⟩) hK hP hD hS hA rfl rfl rfl rfl rfl rfl rfl rfl rfl hl.1 rfl (Nat.le_of_ble_eq_true rfl) dX0_changeSetting_20 ⟨Nat.le_refl 0, Nat.le_refl 0⟩ (fun H locs hP hD hS => ?_)
    refine lv_icmp_lt (tgt := 39) hx hb dX0_changeSetting_23 (by decide) (fun c4 => ?_) (fun c4 => ?_)
    · have h := (k_iB h).1 c4
      refine lv_bipush (v := (-2)) hx hb dX0_changeSetting_39 (by decide) ?_
      obtain ⟨rfl, rfl⟩ := inj2 (Option.some.inj h)
      exact fin _ _ _ _ dX0_changeSetting_41 hP hD hS
    · have h := (k_iB h).2 c4
      refine lv_iload_n hx hb dX0_changeSetting_26 rfl (lv_at hl 2 rfl) ?_
      refine lv_aload_n hx hb dX0_changeSetting_27 rfl (lv_at hl 0 rfl) ?_
      refine va_get (ci := 0) (C := RX0) (T := TX0) (N := 7) hx hb hts hiX0 hown hK hP 0 rfl rfl 4 (by decide) (hts (.fieldLink RX0 29 "RiddleTrade$Exchange" "settings" "LRiddleTrade$Table;") (List.mem_of_getElem? (i := 1) rfl)) (fun _ h9 => h9) rfl dX0_changeSetting_28 ?_
      refine lv_iload_n hx hb dX0_changeSetting_31 rfl (lv_at hl 1 rfl) ?_
      refine lv_iconst (v := 2) hx hb dX0_changeSetting_32 (by decide) ?_
      obtain ⟨r5, hu6, h⟩ := ob1_el h
      refine kcVi (ci := 4) (q := (RX4, TX4, 3)) (ws1 := (w_X0_changeSetting cI cC h0 h1 h3 h5 h7 h9 h11 h10 fE rnd)) ⟨hx, hb, hml, hown, hts⟩ [1, 2] [0] (c_X4_get l D cI cC cE h9 h10 _ 12 fE 3 4 p1 2 r5 hu6) (cwV 2 hts gX0_changeSetting_X4_get rfl rfl rfl (by decide +kernel) ⟨Nat.le_of_ble_eq_true rfl, Nat.le_of_ble_eq_true rfl⟩) hK hP hD hS hA rfl rfl rfl rfl rfl rfl rfl rfl rfl hl.1 rfl (Nat.le_of_ble_eq_true rfl) dX0_changeSetting_33 ⟨Nat.le_refl 0, Nat.le_refl 0⟩ (fun H locs hP hD hS => ?_)
      refine lv_icmp_le (tgt := 42) hx hb dX0_changeSetting_36 (by decide) (fun c7 => ?_) (fun c7 => ?_)
      · have h := (k_iB h).1 c7
        refine lv_aload_n hx hb dX0_changeSetting_42 rfl (lv_at hl 0 rfl) ?_
        refine va_get (ci := 0) (C := RX0) (T := TX0) (N := 7) hx hb hts hiX0 hown hK hP 0 rfl rfl 4 (by decide) (hts (.fieldLink RX0 29 "RiddleTrade$Exchange" "settings" "LRiddleTrade$Table;") (List.mem_of_getElem? (i := 1) rfl)) (fun _ h9 => h9) rfl dX0_changeSetting_43 ?_
        refine lv_iload_n hx hb dX0_changeSetting_46 rfl (lv_at hl 1 rfl) ?_
        refine lv_iconst (v := 0) hx hb dX0_changeSetting_47 (by decide) ?_
        obtain ⟨r8, hu9, h⟩ := ob1_el h
        refine kcVi (ci := 4) (q := (RX4, TX4, 3)) (ws1 := (w_X0_changeSetting cI cC h0 h1 h3 h5 h7 h9 h11 h10 fE rnd)) ⟨hx, hb, hml, hown, hts⟩ [1, 2] [0] (c_X4_get l D cI cC cE h9 h10 _ 12 fE 3 4 p1 0 r8 hu9) (cwV 2 hts gX0_changeSetting_X4_get rfl rfl rfl (by decide +kernel) ⟨Nat.le_of_ble_eq_true rfl, Nat.le_of_ble_eq_true rfl⟩) hK hP hD hS hA rfl rfl rfl rfl rfl rfl rfl rfl rfl hl.1 rfl (Nat.le_of_ble_eq_true rfl) dX0_changeSetting_48 ⟨Nat.le_refl 0, Nat.le_refl 0⟩ (fun H locs hP hD hS => ?_)
        refine lv_istore_n (lv' := [(3, .int r8), (0, .ref h0), (1, .int p1), (2, .int p2)]) hx hb dX0_changeSetting_51 rfl hl (by decide) rfl (fun ls hl => ?_)
        refine lv_iload_n hx hb dX0_changeSetting_52 rfl (lv_at hl 0 rfl) ?_
        refine lv_iload_n hx hb dX0_changeSetting_53 rfl (lv_at hl 3 rfl) ?_
        refine lv_icmp_ne (tgt := 60) hx hb dX0_changeSetting_54 (by decide) (fun c10 => ?_) (fun c10 => ?_)
        · have h := (k_iB h).2 c10
          refine lv_aload_n hx hb dX0_changeSetting_60 rfl (lv_at hl 1 rfl) ?_
          refine va_get (ci := 0) (C := RX0) (T := TX0) (N := 7) hx hb hts hiX0 hown hK hP 0 rfl rfl 4 (by decide) (hts (.fieldLink RX0 29 "RiddleTrade$Exchange" "settings" "LRiddleTrade$Table;") (List.mem_of_getElem? (i := 1) rfl)) (fun _ h9 => h9) rfl dX0_changeSetting_61 ?_
          refine lv_iload_n hx hb dX0_changeSetting_64 rfl (lv_at hl 2 rfl) ?_
          refine lv_iconst (v := 0) hx hb dX0_changeSetting_65 (by decide) ?_
          refine lv_iload_n hx hb dX0_changeSetting_66 rfl (lv_at hl 3 rfl) ?_
          obtain ⟨fE_11, hu12, h⟩ := ob1_el h
          refine kcVv (ci := 4) (q := (RX4, TX4, 3)) (ws1 := (w_X0_changeSetting cI cC h0 h1 h3 h5 h7 h9 h11 h10 fE_11 rnd)) ⟨hx, hb, hml, hown, hts⟩ [1, 2] [0] (c_X4_put l D cI cC cE h9 h10 _ 12 fE 3 4 p1 0 p2 fE_11 hu12) (cwV 3 hts gX0_changeSetting_X4_put rfl rfl rfl (by decide +kernel) ⟨Nat.le_of_ble_eq_true rfl, Nat.le_of_ble_eq_true rfl⟩) hK hP hD hS hA rfl rfl rfl rfl rfl rfl rfl rfl rfl hl.1 rfl (Nat.le_of_ble_eq_true rfl) dX0_changeSetting_67 ⟨Nat.le_refl 0, Nat.le_refl 0⟩ (fun H locs hP hD hS => ?_)
          refine lv_iload_n hx hb dX0_changeSetting_70 rfl (lv_at hl 0 rfl) ?_
          obtain ⟨rfl, rfl⟩ := inj2 (Option.some.inj h)
          exact fin _ _ _ _ dX0_changeSetting_71 hP hD hS
        · have h := (k_iB h).1 c10
          refine lv_bipush (v := (-5)) hx hb dX0_changeSetting_57 (by decide) ?_
          obtain ⟨rfl, rfl⟩ := inj2 (Option.some.inj h)
          exact fin _ _ _ _ dX0_changeSetting_59 hP hD hS
      · have h := (k_iB h).2 c7
        refine lv_bipush (v := (-2)) hx hb dX0_changeSetting_39 (by decide) ?_
        obtain ⟨rfl, rfl⟩ := inj2 (Option.some.inj h)
        exact fin _ _ _ _ dX0_changeSetting_41 hP hD hS
  · have h := (k_iB h).1 c1
    refine lv_iconst (v := (-1)) hx hb dX0_changeSetting_11 (by decide) ?_
    obtain ⟨rfl, rfl⟩ := inj2 (Option.some.inj h)
    exact fin _ _ _ _ dX0_changeSetting_12 hP hD hS
abbrev w_X0_tellTrader (cI cC : ClassId) (h0 h1 h3 h5 h7 h9 h11 h2 h4 h6 : Nat) (fT : Nat → Int32) (fR : Nat → Int32) (rR : Int32) (fA : Nat → Int32) (rA : Int32) (rnd : Int32) : va_W := [(h0, .inr (0, [.ref h1, .ref h3, .ref h5, .ref h7, .ref h9, .ref h11, .int rnd])), (h1, .inr (4, [.ref h2, .int 2, .int 8])), (h2, .inl (cI, 16, .inl fT)), (h3, .inr (4, [.ref h4, .int 4, .int rR])), (h4, .inl (cI, 80, .inl fR)), (h5, .inr (4, [.ref h6, .int 8, .int rA])), (h6, .inl (cI, 320, .inl fA))]
def d_X0_tellTrader (p1 : Int32) (p2 : Int32) (fT : Nat → Int32) (fR : Nat → Int32) (rR : Int32) (fA : Nat → Int32) (rA : Int32) : Option (Int32) :=
    if (d_X4_has p1 8) = 0 then (some (-1))
    else (if p2 = 0 then (ob1 (d_X4_get 16 p1 0 fT 2) fun r4 =>
    some (if 0 < (-r4) then (-r4) else 0))
    else (if p2 = 1 then (ob1 (d_X4_get 16 p1 0 fT 2) fun r7 =>
    some (if 0 < r7 then r7 else 0))
    else (if p2 = 2 then (ob1 (d_X4_countOf 80 0 p1 fR 4 rR) fun r10 =>
    some r10)
    else (if p2 = 3 then (ob1 (d_X4_countOfBoth 80 0 p1 3 1 fR 4 rR) fun r13 =>
    some r13)
    else (if p2 = 4 then (ob1 (d_X4_countOf 320 0 p1 fA 8 rA) fun r16 =>
    some r16)
    else (if p2 = 5 then (ob1 (d_X4_countOfBoth 320 0 p1 4 1 fA 8 rA) fun r19 =>
    some r19)
    else (if p2 = 6 then (ob1 (d_X4_countOfBoth 320 0 p1 4 2 fA 8 rA) fun r22 =>
    some r22)
    else (if p2 = 7 then (ob1 (d_X4_get 16 p1 1 fT 2) fun r25 =>
    some r25)
    else (some (-2))))))))))
set_option maxHeartbeats 4000000 in
set_option maxRecDepth 100000 in
theorem c_X0_tellTrader (l : Launch) (D : va_G) (cI cC cE : ClassId) (h0 h1 h3 h5 h7 h9 h11 h2 h4 h6 : Nat) (sz : Nat) (fT : Nat → Int32) (fR : Nat → Int32) (rR : Int32) (fA : Nat → Int32) (rA : Int32) (rnd : Int32) (p1 : Int32) (p2 : Int32) (r0 : Int32) (h : d_X0_tellTrader p1 p2 fT fR rR fA rA = some r0) : Met l yX0_tellTrader wsX0_tellTrader ({ frames := 2, cells := 0, slots := 0, locals := 49 } : Room) (kP D (kT cI cC cE) [.ref h0, .int p1, .int p2] (w_X0_tellTrader cI cC h0 h1 h3 h5 h7 h9 h11 h2 h4 h6 fT fR rR fA rA rnd) sz) (kQi D (kT cI cC cE) (w_X0_tellTrader cI cC h0 h1 h3 h5 h7 h9 h11 h2 h4 h6 fT fR rR fA rA rnd) (w_X0_tellTrader cI cC h0 h1 h3 h5 h7 h9 h11 h2 h4 h6 fT fR rR fA rA rnd) sz r0) 0 0 (va_A (w_X0_tellTrader cI cC h0 h1 h3 h5 h7 h9 h11 h2 h4 h6 fT fR rR fA rA rnd) sz) := by
  refine kMetI (cc := cX0_tellTrader) (maxL := 3) (own := RX0) (by decide) rfl (Nat.le_of_ble_eq_true rfl) rfl ?_
  intro p e s m below meth c A Q hx hb hml hown hts hP hK hD hA hS hname fin ls hl
  have hl : lv_has ls 3 [(0, .ref h0), (1, .int p1), (2, .int p2)] := hl
  have hiX0 : ∀ w ∈ u_ws RX0 TX0 7, w ∈ wsX0_tellTrader := by decide +kernel
  dsimp only [d_X0_tellTrader] at h
  refine lv_aload_n hx hb dX0_tellTrader_0 rfl (lv_at hl 0 rfl) ?_
  refine va_get (ci := 0) (C := RX0) (T := TX0) (N := 7) hx hb hts hiX0 hown hK hP 0 rfl rfl 0 (by decide) (hts (.fieldLink RX0 16 "RiddleTrade$Exchange" "traders" "LRiddleTrade$Table;") (List.mem_of_getElem? (i := 1) rfl)) (fun _ h9 => h9) rfl dX0_tellTrader_1 ?_
  refine lv_iload_n hx hb dX0_tellTrader_4 rfl (lv_at hl 1 rfl) ?_
  refine kcVi (ci := 4) (q := (RX4, TX4, 3)) (ws1 := (w_X0_tellTrader cI cC h0 h1 h3 h5 h7 h9 h11 h2 h4 h6 fT fR rR fA rA rnd)) ⟨hx, hb, hml, hown, hts⟩ [1] [0, 2, 3, 4, 5, 6] (c_X4_has l D cI cC cE h1 h2 _ 2 8 p1 (d_X4_has p1 8) rfl) (cwV 1 hts gX0_tellTrader_X4_has rfl rfl rfl (by decide +kernel) ⟨Nat.le_of_ble_eq_true rfl, Nat.le_of_ble_eq_true rfl⟩) hK hP hD hS hA rfl rfl rfl rfl rfl rfl rfl rfl rfl hl.1 rfl (Nat.le_of_ble_eq_true rfl) dX0_tellTrader_5 ⟨Nat.le_refl 0, Nat.le_refl 0⟩ (fun H locs hP hD hS => ?_)
  refine lv_if_ne (tgt := 13) hx hb dX0_tellTrader_8 (by decide) (fun c1 => ?_) (fun c1 => ?_)
  · have h := (k_iB h).2 c1
    refine lv_iload_n hx hb dX0_tellTrader_13 rfl (lv_at hl 2 rfl) ?_
    by_cases c3 : p2 = 0
    · have h := (k_iB h).1 c3
      refine lv_tableIn (off := 46) (tgt := 60) hx hb dX0_tellTrader_14 (by rw [c3]; decide) (by rw [c3]; decide) (by rw [c3]; rfl) (by decide) ?_
      refine lv_iconst (v := 0) hx hb dX0_tellTrader_60 (by decide) ?_
      refine lv_aload_n hx hb dX0_tellTrader_61 rfl (lv_at hl 0 rfl) ?_
      refine va_get (ci := 0) (C := RX0) (T := TX0) (N := 7) hx hb hts hiX0 hown hK hP 0 rfl rfl 0 (by decide) (hts (.fieldLink RX0 16 "RiddleTrade$Exchange" "traders" "LRiddleTrade$Table;") (List.mem_of_getElem? (i := 1) rfl)) (fun _ h9 => h9) rfl dX0_tellTrader_62 ?_
      refine lv_iload_n hx hb dX0_tellTrader_65 rfl (lv_at hl 1 rfl) ?_
      refine lv_iconst (v := 0) hx hb dX0_tellTrader_66 (by decide) ?_
      obtain ⟨r4, hu5, h⟩ := ob1_el h
      refine kcVi (ci := 4) (q := (RX4, TX4, 3)) (ws1 := (w_X0_tellTrader cI cC h0 h1 h3 h5 h7 h9 h11 h2 h4 h6 fT fR rR fA rA rnd)) ⟨hx, hb, hml, hown, hts⟩ [1, 2] [0, 3, 4, 5, 6] (c_X4_get l D cI cC cE h1 h2 _ 16 fT 2 8 p1 0 r4 hu5) (cwV 2 hts gX0_tellTrader_X4_get rfl rfl rfl (by decide +kernel) ⟨Nat.le_of_ble_eq_true rfl, Nat.le_of_ble_eq_true rfl⟩) hK hP hD hS hA rfl rfl rfl rfl rfl rfl rfl rfl rfl hl.1 rfl (Nat.le_of_ble_eq_true rfl) dX0_tellTrader_67 ⟨Nat.le_refl 0, Nat.le_refl 0⟩ (fun H locs hP hD hS => ?_)
      refine lv_ineg hx hb dX0_tellTrader_70 ?_
      refine va_mmax hx hb (hml.trans hl.1.symm) hown (hts _ (List.mem_of_getElem? (i := 2) rfl)) (hts _ (List.mem_of_getElem? (i := 3) rfl)) (hts _ (List.mem_of_getElem? (i := 4) rfl)) (hts _ (List.mem_of_getElem? (i := 5) rfl)) (Nat.le_of_ble_eq_true rfl) (Nat.le_of_ble_eq_true rfl) (Nat.le_refl 0) (Nat.le_refl 0) dX0_tellTrader_71 ?_
      obtain rfl := Option.some.inj h
      exact fin _ _ _ _ dX0_tellTrader_74 hP hD hS
    · have h := (k_iB h).2 c3
      by_cases c6 : p2 = 1
      · have h := (k_iB h).1 c6
        refine lv_tableIn (off := 61) (tgt := 75) hx hb dX0_tellTrader_14 (by rw [c6]; decide) (by rw [c6]; decide) (by rw [c6]; rfl) (by decide) ?_
        refine lv_iconst (v := 0) hx hb dX0_tellTrader_75 (by decide) ?_
        refine lv_aload_n hx hb dX0_tellTrader_76 rfl (lv_at hl 0 rfl) ?_
        refine va_get (ci := 0) (C := RX0) (T := TX0) (N := 7) hx hb hts hiX0 hown hK hP 0 rfl rfl 0 (by decide) (hts (.fieldLink RX0 16 "RiddleTrade$Exchange" "traders" "LRiddleTrade$Table;") (List.mem_of_getElem? (i := 1) rfl)) (fun _ h9 => h9) rfl dX0_tellTrader_77 ?_
        refine lv_iload_n hx hb dX0_tellTrader_80 rfl (lv_at hl 1 rfl) ?_
        refine lv_iconst (v := 0) hx hb dX0_tellTrader_81 (by decide) ?_
        obtain ⟨r7, hu8, h⟩ := ob1_el h
        refine kcVi (ci := 4) (q := (RX4, TX4, 3)) (ws1 := (w_X0_tellTrader cI cC h0 h1 h3 h5 h7 h9 h11 h2 h4 h6 fT fR rR fA rA rnd)) ⟨hx, hb, hml, hown, hts⟩ [1, 2] [0, 3, 4, 5, 6] (c_X4_get l D cI cC cE h1 h2 _ 16 fT 2 8 p1 0 r7 hu8) (cwV 2 hts gX0_tellTrader_X4_get rfl rfl rfl (by decide +kernel) ⟨Nat.le_of_ble_eq_true rfl, Nat.le_of_ble_eq_true rfl⟩) hK hP hD hS hA rfl rfl rfl rfl rfl rfl rfl rfl rfl hl.1 rfl (Nat.le_of_ble_eq_true rfl) dX0_tellTrader_82 ⟨Nat.le_refl 0, Nat.le_refl 0⟩ (fun H locs hP hD hS => ?_)
        refine va_mmax hx hb (hml.trans hl.1.symm) hown (hts _ (List.mem_of_getElem? (i := 2) rfl)) (hts _ (List.mem_of_getElem? (i := 3) rfl)) (hts _ (List.mem_of_getElem? (i := 4) rfl)) (hts _ (List.mem_of_getElem? (i := 5) rfl)) (Nat.le_of_ble_eq_true rfl) (Nat.le_of_ble_eq_true rfl) (Nat.le_refl 0) (Nat.le_refl 0) dX0_tellTrader_85 ?_
        obtain rfl := Option.some.inj h
        exact fin _ _ _ _ dX0_tellTrader_88 hP hD hS
      · have h := (k_iB h).2 c6
        by_cases c9 : p2 = 2
        · have h := (k_iB h).1 c9
          refine lv_tableIn (off := 75) (tgt := 89) hx hb dX0_tellTrader_14 (by rw [c9]; decide) (by rw [c9]; decide) (by rw [c9]; rfl) (by decide) ?_
          refine lv_aload_n hx hb dX0_tellTrader_89 rfl (lv_at hl 0 rfl) ?_
          refine va_get (ci := 0) (C := RX0) (T := TX0) (N := 7) hx hb hts hiX0 hown hK hP 0 rfl rfl 1 (by decide) (hts (.fieldLink RX0 20 "RiddleTrade$Exchange" "riddles" "LRiddleTrade$Table;") (List.mem_of_getElem? (i := 6) rfl)) (fun _ h9 => h9) rfl dX0_tellTrader_90 ?_
          refine lv_iconst (v := 0) hx hb dX0_tellTrader_93 (by decide) ?_
          refine lv_iload_n hx hb dX0_tellTrader_94 rfl (lv_at hl 1 rfl) ?_
          obtain ⟨r10, hu11, h⟩ := ob1_el h
          refine kcVi (ci := 4) (q := (RX4, TX4, 3)) (ws1 := (w_X0_tellTrader cI cC h0 h1 h3 h5 h7 h9 h11 h2 h4 h6 fT fR rR fA rA rnd)) ⟨hx, hb, hml, hown, hts⟩ [3, 4] [0, 1, 2, 5, 6] (c_X4_countOf l D cI cC cE h3 h4 _ 80 fR 4 rR 0 p1 r10 hu11) (cwV 2 hts gX0_tellTrader_X4_countOf rfl rfl rfl (by decide +kernel) ⟨Nat.le_of_ble_eq_true rfl, Nat.le_of_ble_eq_true rfl⟩) hK hP hD hS hA rfl rfl rfl rfl rfl rfl rfl rfl rfl hl.1 rfl (Nat.le_of_ble_eq_true rfl) dX0_tellTrader_95 ⟨Nat.le_refl 0, Nat.le_refl 0⟩ (fun H locs hP hD hS => ?_)
          obtain rfl := Option.some.inj h
          exact fin _ _ _ _ dX0_tellTrader_98 hP hD hS
        · have h := (k_iB h).2 c9
          by_cases c12 : p2 = 3
          · have h := (k_iB h).1 c12
            refine lv_tableIn (off := 85) (tgt := 99) hx hb dX0_tellTrader_14 (by rw [c12]; decide) (by rw [c12]; decide) (by rw [c12]; rfl) (by decide) ?_
            refine lv_aload_n hx hb dX0_tellTrader_99 rfl (lv_at hl 0 rfl) ?_
            refine va_get (ci := 0) (C := RX0) (T := TX0) (N := 7) hx hb hts hiX0 hown hK hP 0 rfl rfl 1 (by decide) (hts (.fieldLink RX0 20 "RiddleTrade$Exchange" "riddles" "LRiddleTrade$Table;") (List.mem_of_getElem? (i := 6) rfl)) (fun _ h9 => h9) rfl dX0_tellTrader_100 ?_
            refine lv_iconst (v := 0) hx hb dX0_tellTrader_103 (by decide) ?_
            refine lv_iload_n hx hb dX0_tellTrader_104 rfl (lv_at hl 1 rfl) ?_
            refine lv_iconst (v := 3) hx hb dX0_tellTrader_105 (by decide) ?_
            refine lv_iconst (v := 1) hx hb dX0_tellTrader_106 (by decide) ?_
            obtain ⟨r13, hu14, h⟩ := ob1_el h
            refine kcVi (ci := 4) (q := (RX4, TX4, 3)) (ws1 := (w_X0_tellTrader cI cC h0 h1 h3 h5 h7 h9 h11 h2 h4 h6 fT fR rR fA rA rnd)) ⟨hx, hb, hml, hown, hts⟩ [3, 4] [0, 1, 2, 5, 6] (c_X4_countOfBoth l D cI cC cE h3 h4 _ 80 fR 4 rR 0 p1 3 1 r13 hu14) (cwV 4 hts gX0_tellTrader_X4_countOfBoth rfl rfl rfl (by decide +kernel) ⟨Nat.le_of_ble_eq_true rfl, Nat.le_of_ble_eq_true rfl⟩) hK hP hD hS hA rfl rfl rfl rfl rfl rfl rfl rfl rfl hl.1 rfl (Nat.le_of_ble_eq_true rfl) dX0_tellTrader_107 ⟨Nat.le_refl 0, Nat.le_refl 0⟩ (fun H locs hP hD hS => ?_)
            obtain rfl := Option.some.inj h
            exact fin _ _ _ _ dX0_tellTrader_110 hP hD hS
          · have h := (k_iB h).2 c12
            by_cases c15 : p2 = 4
            · have h := (k_iB h).1 c15
              refine lv_tableIn (off := 97) (tgt := 111) hx hb dX0_tellTrader_14 (by rw [c15]; decide) (by rw [c15]; decide) (by rw [c15]; rfl) (by decide) ?_
              refine lv_aload_n hx hb dX0_tellTrader_111 rfl (lv_at hl 0 rfl) ?_
              refine va_get (ci := 0) (C := RX0) (T := TX0) (N := 7) hx hb hts hiX0 hown hK hP 0 rfl rfl 2 (by decide) (hts (.fieldLink RX0 23 "RiddleTrade$Exchange" "answers" "LRiddleTrade$Table;") (List.mem_of_getElem? (i := 7) rfl)) (fun _ h9 => h9) rfl dX0_tellTrader_112 ?_
              refine lv_iconst (v := 0) hx hb dX0_tellTrader_115 (by decide) ?_
              refine lv_iload_n hx hb dX0_tellTrader_116 rfl (lv_at hl 1 rfl) ?_
              obtain ⟨r16, hu17, h⟩ := ob1_el h
              refine kcVi (ci := 4) (q := (RX4, TX4, 3)) (ws1 := (w_X0_tellTrader cI cC h0 h1 h3 h5 h7 h9 h11 h2 h4 h6 fT fR rR fA rA rnd)) ⟨hx, hb, hml, hown, hts⟩ [5, 6] [0, 1, 2, 3, 4] (c_X4_countOf l D cI cC cE h5 h6 _ 320 fA 8 rA 0 p1 r16 hu17) (cwV 2 hts gX0_tellTrader_X4_countOf rfl rfl rfl (by decide +kernel) ⟨Nat.le_of_ble_eq_true rfl, Nat.le_of_ble_eq_true rfl⟩) hK hP hD hS hA rfl rfl rfl rfl rfl rfl rfl rfl rfl hl.1 rfl (Nat.le_of_ble_eq_true rfl) dX0_tellTrader_117 ⟨Nat.le_refl 0, Nat.le_refl 0⟩ (fun H locs hP hD hS => ?_)
              obtain rfl := Option.some.inj h
              exact fin _ _ _ _ dX0_tellTrader_120 hP hD hS
            · have h := (k_iB h).2 c15
              by_cases c18 : p2 = 5
              · have h := (k_iB h).1 c18
                refine lv_tableIn (off := 107) (tgt := 121) hx hb dX0_tellTrader_14 (by rw [c18]; decide) (by rw [c18]; decide) (by rw [c18]; rfl) (by decide) ?_
                refine lv_aload_n hx hb dX0_tellTrader_121 rfl (lv_at hl 0 rfl) ?_
                refine va_get (ci := 0) (C := RX0) (T := TX0) (N := 7) hx hb hts hiX0 hown hK hP 0 rfl rfl 2 (by decide) (hts (.fieldLink RX0 23 "RiddleTrade$Exchange" "answers" "LRiddleTrade$Table;") (List.mem_of_getElem? (i := 7) rfl)) (fun _ h9 => h9) rfl dX0_tellTrader_122 ?_
                refine lv_iconst (v := 0) hx hb dX0_tellTrader_125 (by decide) ?_
                refine lv_iload_n hx hb dX0_tellTrader_126 rfl (lv_at hl 1 rfl) ?_
                refine lv_iconst (v := 4) hx hb dX0_tellTrader_127 (by decide) ?_
                refine lv_iconst (v := 1) hx hb dX0_tellTrader_128 (by decide) ?_
                obtain ⟨r19, hu20, h⟩ := ob1_el h
                refine kcVi (ci := 4) (q := (RX4, TX4, 3)) (ws1 := (w_X0_tellTrader cI cC h0 h1 h3 h5 h7 h9 h11 h2 h4 h6 fT fR rR fA rA rnd)) ⟨hx, hb, hml, hown, hts⟩ [5, 6] [0, 1, 2, 3, 4] (c_X4_countOfBoth l D cI cC cE h5 h6 _ 320 fA 8 rA 0 p1 4 1 r19 hu20) (cwV 4 hts gX0_tellTrader_X4_countOfBoth rfl rfl rfl (by decide +kernel) ⟨Nat.le_of_ble_eq_true rfl, Nat.le_of_ble_eq_true rfl⟩) hK hP hD hS hA rfl rfl rfl rfl rfl rfl rfl rfl rfl hl.1 rfl (Nat.le_of_ble_eq_true rfl) dX0_tellTrader_129 ⟨Nat.le_refl 0, Nat.le_refl 0⟩ (fun H locs hP hD hS => ?_)
                obtain rfl := Option.some.inj h
                exact fin _ _ _ _ dX0_tellTrader_132 hP hD hS
              · have h := (k_iB h).2 c18
                by_cases c21 : p2 = 6
                · have h := (k_iB h).1 c21
                  refine lv_tableIn (off := 119) (tgt := 133) hx hb dX0_tellTrader_14 (by rw [c21]; decide) (by rw [c21]; decide) (by rw [c21]; rfl) (by decide) ?_
                  refine lv_aload_n hx hb dX0_tellTrader_133 rfl (lv_at hl 0 rfl) ?_
                  refine va_get (ci := 0) (C := RX0) (T := TX0) (N := 7) hx hb hts hiX0 hown hK hP 0 rfl rfl 2 (by decide) (hts (.fieldLink RX0 23 "RiddleTrade$Exchange" "answers" "LRiddleTrade$Table;") (List.mem_of_getElem? (i := 7) rfl)) (fun _ h9 => h9) rfl dX0_tellTrader_134 ?_
                  refine lv_iconst (v := 0) hx hb dX0_tellTrader_137 (by decide) ?_
                  refine lv_iload_n hx hb dX0_tellTrader_138 rfl (lv_at hl 1 rfl) ?_
                  refine lv_iconst (v := 4) hx hb dX0_tellTrader_139 (by decide) ?_
                  refine lv_iconst (v := 2) hx hb dX0_tellTrader_140 (by decide) ?_
                  obtain ⟨r22, hu23, h⟩ := ob1_el h
                  refine kcVi (ci := 4) (q := (RX4, TX4, 3)) (ws1 := (w_X0_tellTrader cI cC h0 h1 h3 h5 h7 h9 h11 h2 h4 h6 fT fR rR fA rA rnd)) ⟨hx, hb, hml, hown, hts⟩ [5, 6] [0, 1, 2, 3, 4] (c_X4_countOfBoth l D cI cC cE h5 h6 _ 320 fA 8 rA 0 p1 4 2 r22 hu23) (cwV 4 hts gX0_tellTrader_X4_countOfBoth rfl rfl rfl (by decide +kernel) ⟨Nat.le_of_ble_eq_true rfl, Nat.le_of_ble_eq_true rfl⟩) hK hP hD hS hA rfl rfl rfl rfl rfl rfl rfl rfl rfl hl.1 rfl (Nat.le_of_ble_eq_true rfl) dX0_tellTrader_141 ⟨Nat.le_refl 0, Nat.le_refl 0⟩ (fun H locs hP hD hS => ?_)
                  obtain rfl := Option.some.inj h
                  exact fin _ _ _ _ dX0_tellTrader_144 hP hD hS
                · have h := (k_iB h).2 c21
                  by_cases c24 : p2 = 7
                  · have h := (k_iB h).1 c24
                    refine lv_tableIn (off := 131) (tgt := 145) hx hb dX0_tellTrader_14 (by rw [c24]; decide) (by rw [c24]; decide) (by rw [c24]; rfl) (by decide) ?_
                    refine lv_aload_n hx hb dX0_tellTrader_145 rfl (lv_at hl 0 rfl) ?_
                    refine va_get (ci := 0) (C := RX0) (T := TX0) (N := 7) hx hb hts hiX0 hown hK hP 0 rfl rfl 0 (by decide) (hts (.fieldLink RX0 16 "RiddleTrade$Exchange" "traders" "LRiddleTrade$Table;") (List.mem_of_getElem? (i := 1) rfl)) (fun _ h9 => h9) rfl dX0_tellTrader_146 ?_
                    refine lv_iload_n hx hb dX0_tellTrader_149 rfl (lv_at hl 1 rfl) ?_
                    refine lv_iconst (v := 1) hx hb dX0_tellTrader_150 (by decide) ?_
                    obtain ⟨r25, hu26, h⟩ := ob1_el h
                    refine kcVi (ci := 4) (q := (RX4, TX4, 3)) (ws1 := (w_X0_tellTrader cI cC h0 h1 h3 h5 h7 h9 h11 h2 h4 h6 fT fR rR fA rA rnd)) ⟨hx, hb, hml, hown, hts⟩ [1, 2] [0, 3, 4, 5, 6] (c_X4_get l D cI cC cE h1 h2 _ 16 fT 2 8 p1 1 r25 hu26) (cwV 2 hts gX0_tellTrader_X4_get rfl rfl rfl (by decide +kernel) ⟨Nat.le_of_ble_eq_true rfl, Nat.le_of_ble_eq_true rfl⟩) hK hP hD hS hA rfl rfl rfl rfl rfl rfl rfl rfl rfl hl.1 rfl (Nat.le_of_ble_eq_true rfl) dX0_tellTrader_151 ⟨Nat.le_refl 0, Nat.le_refl 0⟩ (fun H locs hP hD hS => ?_)
                    obtain rfl := Option.some.inj h
                    exact fin _ _ _ _ dX0_tellTrader_154 hP hD hS
                  · have h := (k_iB h).2 c24
                    refine lv_tableOut (tgt := 155) hx hb dX0_tellTrader_14 (by have zc3 := lv_neT c3 (show ((0 : Int32)).toInt = 0 from rfl); have zc6 := lv_neT c6 (show ((1 : Int32)).toInt = 1 from rfl); have zc9 := lv_neT c9 (show ((2 : Int32)).toInt = 2 from rfl); have zc12 := lv_neT c12 (show ((3 : Int32)).toInt = 3 from rfl); have zc15 := lv_neT c15 (show ((4 : Int32)).toInt = 4 from rfl); have zc18 := lv_neT c18 (show ((5 : Int32)).toInt = 5 from rfl); have zc21 := lv_neT c21 (show ((6 : Int32)).toInt = 6 from rfl); have zc24 := lv_neT c24 (show ((7 : Int32)).toInt = 7 from rfl); omega) (by decide) ?_
                    refine lv_bipush (v := (-2)) hx hb dX0_tellTrader_155 (by decide) ?_
                    obtain rfl := Option.some.inj h
                    exact fin _ _ _ _ dX0_tellTrader_157 hP hD hS
  · have h := (k_iB h).1 c1
    refine lv_iconst (v := (-1)) hx hb dX0_tellTrader_11 (by decide) ?_
    obtain rfl := Option.some.inj h
    exact fin _ _ _ _ dX0_tellTrader_12 hP hD hS
abbrev w_X0_tellRiddle (cI cC : ClassId) (h0 h1 h3 h5 h7 h9 h11 h4 h6 : Nat) (fR : Nat → Int32) (rR : Int32) (fA : Nat → Int32) (rA : Int32) (rnd : Int32) : va_W := [(h0, .inr (0, [.ref h1, .ref h3, .ref h5, .ref h7, .ref h9, .ref h11, .int rnd])), (h3, .inr (4, [.ref h4, .int 4, .int rR])), (h4, .inl (cI, 80, .inl fR)), (h5, .inr (4, [.ref h6, .int 8, .int rA])), (h6, .inl (cI, 320, .inl fA))]
def d_X0_tellRiddle (p1 : Int32) (p2 : Int32) (fR : Nat → Int32) (rR : Int32) (fA : Nat → Int32) (rA : Int32) : Option (Int32) :=
    if (d_X4_has p1 rR) = 0 then (some (-1))
    else (if p2 = 0 then (ob1 (d_X4_get 80 p1 p2 fR 4) fun r4 =>
    some r4)
    else (if p2 = 1 then (ob1 (d_X4_get 80 p1 p2 fR 4) fun r7 =>
    some r7)
    else (if p2 = 2 then (ob1 (d_X4_get 80 p1 p2 fR 4) fun r10 =>
    some r10)
    else (if p2 = 3 then (ob1 (d_X4_get 80 p1 p2 fR 4) fun r13 =>
    some r13)
    else (if p2 = 4 then (ob1 (d_X4_countOf 320 1 p1 fA 8 rA) fun r16 =>
    some r16)
    else (if p2 = 5 then (ob1 (d_X4_countOfBoth 320 1 p1 4 0 fA 8 rA) fun r19 =>
    some r19)
    else (if p2 = 6 then (ob1 (d_X4_rowOfBoth 320 1 p1 4 1 fA 8 rA) fun r22 =>
    some r22)
    else (some (-2)))))))))
set_option maxHeartbeats 4000000 in
set_option maxRecDepth 100000 in
theorem c_X0_tellRiddle (l : Launch) (D : va_G) (cI cC cE : ClassId) (h0 h1 h3 h5 h7 h9 h11 h4 h6 : Nat) (sz : Nat) (fR : Nat → Int32) (rR : Int32) (fA : Nat → Int32) (rA : Int32) (rnd : Int32) (p1 : Int32) (p2 : Int32) (r0 : Int32) (h : d_X0_tellRiddle p1 p2 fR rR fA rA = some r0) : Met l yX0_tellRiddle wsX0_tellRiddle ({ frames := 2, cells := 0, slots := 0, locals := 49 } : Room) (kP D (kT cI cC cE) [.ref h0, .int p1, .int p2] (w_X0_tellRiddle cI cC h0 h1 h3 h5 h7 h9 h11 h4 h6 fR rR fA rA rnd) sz) (kQi D (kT cI cC cE) (w_X0_tellRiddle cI cC h0 h1 h3 h5 h7 h9 h11 h4 h6 fR rR fA rA rnd) (w_X0_tellRiddle cI cC h0 h1 h3 h5 h7 h9 h11 h4 h6 fR rR fA rA rnd) sz r0) 0 0 (va_A (w_X0_tellRiddle cI cC h0 h1 h3 h5 h7 h9 h11 h4 h6 fR rR fA rA rnd) sz) := by
  refine kMetI (cc := cX0_tellRiddle) (maxL := 3) (own := RX0) (by decide) rfl (Nat.le_of_ble_eq_true rfl) rfl ?_
  intro p e s m below meth c A Q hx hb hml hown hts hP hK hD hA hS hname fin ls hl
  have hl : lv_has ls 3 [(0, .ref h0), (1, .int p1), (2, .int p2)] := hl
  have hiX0 : ∀ w ∈ u_ws RX0 TX0 7, w ∈ wsX0_tellRiddle := by decide +kernel
  dsimp only [d_X0_tellRiddle] at h
  refine lv_aload_n hx hb dX0_tellRiddle_0 rfl (lv_at hl 0 rfl) ?_
  refine va_get (ci := 0) (C := RX0) (T := TX0) (N := 7) hx hb hts hiX0 hown hK hP 0 rfl rfl 1 (by decide) (hts (.fieldLink RX0 20 "RiddleTrade$Exchange" "riddles" "LRiddleTrade$Table;") (List.mem_of_getElem? (i := 1) rfl)) (fun _ h9 => h9) rfl dX0_tellRiddle_1 ?_
  refine lv_iload_n hx hb dX0_tellRiddle_4 rfl (lv_at hl 1 rfl) ?_
  refine kcVi (ci := 4) (q := (RX4, TX4, 3)) (ws1 := (w_X0_tellRiddle cI cC h0 h1 h3 h5 h7 h9 h11 h4 h6 fR rR fA rA rnd)) ⟨hx, hb, hml, hown, hts⟩ [1] [0, 2, 3, 4] (c_X4_has l D cI cC cE h3 h4 _ 4 rR p1 (d_X4_has p1 rR) rfl) (cwV 1 hts gX0_tellRiddle_X4_has rfl rfl rfl (by decide +kernel) ⟨Nat.le_of_ble_eq_true rfl, Nat.le_of_ble_eq_true rfl⟩) hK hP hD hS hA rfl rfl rfl rfl rfl rfl rfl rfl rfl hl.1 rfl (Nat.le_of_ble_eq_true rfl) dX0_tellRiddle_5 ⟨Nat.le_refl 0, Nat.le_refl 0⟩ (fun H locs hP hD hS => ?_)
  refine lv_if_ne (tgt := 13) hx hb dX0_tellRiddle_8 (by decide) (fun c1 => ?_) (fun c1 => ?_)
  · have h := (k_iB h).2 c1
    refine lv_iload_n hx hb dX0_tellRiddle_13 rfl (lv_at hl 2 rfl) ?_
    by_cases c3 : p2 = 0
    · have h := (k_iB h).1 c3
      refine lv_tableIn (off := 42) (tgt := 56) hx hb dX0_tellRiddle_14 (by rw [c3]; decide) (by rw [c3]; decide) (by rw [c3]; rfl) (by decide) ?_
      refine lv_aload_n hx hb dX0_tellRiddle_56 rfl (lv_at hl 0 rfl) ?_
      refine va_get (ci := 0) (C := RX0) (T := TX0) (N := 7) hx hb hts hiX0 hown hK hP 0 rfl rfl 1 (by decide) (hts (.fieldLink RX0 20 "RiddleTrade$Exchange" "riddles" "LRiddleTrade$Table;") (List.mem_of_getElem? (i := 1) rfl)) (fun _ h9 => h9) rfl dX0_tellRiddle_57 ?_
      refine lv_iload_n hx hb dX0_tellRiddle_60 rfl (lv_at hl 1 rfl) ?_
      refine lv_iload_n hx hb dX0_tellRiddle_61 rfl (lv_at hl 2 rfl) ?_
      obtain ⟨r4, hu5, h⟩ := ob1_el h
      refine kcVi (ci := 4) (q := (RX4, TX4, 3)) (ws1 := (w_X0_tellRiddle cI cC h0 h1 h3 h5 h7 h9 h11 h4 h6 fR rR fA rA rnd)) ⟨hx, hb, hml, hown, hts⟩ [1, 2] [0, 3, 4] (c_X4_get l D cI cC cE h3 h4 _ 80 fR 4 rR p1 p2 r4 hu5) (cwV 2 hts gX0_tellRiddle_X4_get rfl rfl rfl (by decide +kernel) ⟨Nat.le_of_ble_eq_true rfl, Nat.le_of_ble_eq_true rfl⟩) hK hP hD hS hA rfl rfl rfl rfl rfl rfl rfl rfl rfl hl.1 rfl (Nat.le_of_ble_eq_true rfl) dX0_tellRiddle_62 ⟨Nat.le_refl 0, Nat.le_refl 0⟩ (fun H locs hP hD hS => ?_)
      obtain rfl := Option.some.inj h
      exact fin _ _ _ _ dX0_tellRiddle_65 hP hD hS
    · have h := (k_iB h).2 c3
      by_cases c6 : p2 = 1
      · have h := (k_iB h).1 c6
        refine lv_tableIn (off := 42) (tgt := 56) hx hb dX0_tellRiddle_14 (by rw [c6]; decide) (by rw [c6]; decide) (by rw [c6]; rfl) (by decide) ?_
        refine lv_aload_n hx hb dX0_tellRiddle_56 rfl (lv_at hl 0 rfl) ?_
        refine va_get (ci := 0) (C := RX0) (T := TX0) (N := 7) hx hb hts hiX0 hown hK hP 0 rfl rfl 1 (by decide) (hts (.fieldLink RX0 20 "RiddleTrade$Exchange" "riddles" "LRiddleTrade$Table;") (List.mem_of_getElem? (i := 1) rfl)) (fun _ h9 => h9) rfl dX0_tellRiddle_57 ?_
        refine lv_iload_n hx hb dX0_tellRiddle_60 rfl (lv_at hl 1 rfl) ?_
        refine lv_iload_n hx hb dX0_tellRiddle_61 rfl (lv_at hl 2 rfl) ?_
        obtain ⟨r7, hu8, h⟩ := ob1_el h
        refine kcVi (ci := 4) (q := (RX4, TX4, 3)) (ws1 := (w_X0_tellRiddle cI cC h0 h1 h3 h5 h7 h9 h11 h4 h6 fR rR fA rA rnd)) ⟨hx, hb, hml, hown, hts⟩ [1, 2] [0, 3, 4] (c_X4_get l D cI cC cE h3 h4 _ 80 fR 4 rR p1 p2 r7 hu8) (cwV 2 hts gX0_tellRiddle_X4_get rfl rfl rfl (by decide +kernel) ⟨Nat.le_of_ble_eq_true rfl, Nat.le_of_ble_eq_true rfl⟩) hK hP hD hS hA rfl rfl rfl rfl rfl rfl rfl rfl rfl hl.1 rfl (Nat.le_of_ble_eq_true rfl) dX0_tellRiddle_62 ⟨Nat.le_refl 0, Nat.le_refl 0⟩ (fun H locs hP hD hS => ?_)
        obtain rfl := Option.some.inj h
        exact fin _ _ _ _ dX0_tellRiddle_65 hP hD hS
      · have h := (k_iB h).2 c6
        by_cases c9 : p2 = 2
        · have h := (k_iB h).1 c9
          refine lv_tableIn (off := 42) (tgt := 56) hx hb dX0_tellRiddle_14 (by rw [c9]; decide) (by rw [c9]; decide) (by rw [c9]; rfl) (by decide) ?_
          refine lv_aload_n hx hb dX0_tellRiddle_56 rfl (lv_at hl 0 rfl) ?_
          refine va_get (ci := 0) (C := RX0) (T := TX0) (N := 7) hx hb hts hiX0 hown hK hP 0 rfl rfl 1 (by decide) (hts (.fieldLink RX0 20 "RiddleTrade$Exchange" "riddles" "LRiddleTrade$Table;") (List.mem_of_getElem? (i := 1) rfl)) (fun _ h9 => h9) rfl dX0_tellRiddle_57 ?_
          refine lv_iload_n hx hb dX0_tellRiddle_60 rfl (lv_at hl 1 rfl) ?_
          refine lv_iload_n hx hb dX0_tellRiddle_61 rfl (lv_at hl 2 rfl) ?_
          obtain ⟨r10, hu11, h⟩ := ob1_el h
          refine kcVi (ci := 4) (q := (RX4, TX4, 3)) (ws1 := (w_X0_tellRiddle cI cC h0 h1 h3 h5 h7 h9 h11 h4 h6 fR rR fA rA rnd)) ⟨hx, hb, hml, hown, hts⟩ [1, 2] [0, 3, 4] (c_X4_get l D cI cC cE h3 h4 _ 80 fR 4 rR p1 p2 r10 hu11) (cwV 2 hts gX0_tellRiddle_X4_get rfl rfl rfl (by decide +kernel) ⟨Nat.le_of_ble_eq_true rfl, Nat.le_of_ble_eq_true rfl⟩) hK hP hD hS hA rfl rfl rfl rfl rfl rfl rfl rfl rfl hl.1 rfl (Nat.le_of_ble_eq_true rfl) dX0_tellRiddle_62 ⟨Nat.le_refl 0, Nat.le_refl 0⟩ (fun H locs hP hD hS => ?_)
          obtain rfl := Option.some.inj h
          exact fin _ _ _ _ dX0_tellRiddle_65 hP hD hS
        · have h := (k_iB h).2 c9
          by_cases c12 : p2 = 3
          · have h := (k_iB h).1 c12
            refine lv_tableIn (off := 42) (tgt := 56) hx hb dX0_tellRiddle_14 (by rw [c12]; decide) (by rw [c12]; decide) (by rw [c12]; rfl) (by decide) ?_
            refine lv_aload_n hx hb dX0_tellRiddle_56 rfl (lv_at hl 0 rfl) ?_
            refine va_get (ci := 0) (C := RX0) (T := TX0) (N := 7) hx hb hts hiX0 hown hK hP 0 rfl rfl 1 (by decide) (hts (.fieldLink RX0 20 "RiddleTrade$Exchange" "riddles" "LRiddleTrade$Table;") (List.mem_of_getElem? (i := 1) rfl)) (fun _ h9 => h9) rfl dX0_tellRiddle_57 ?_
            refine lv_iload_n hx hb dX0_tellRiddle_60 rfl (lv_at hl 1 rfl) ?_
            refine lv_iload_n hx hb dX0_tellRiddle_61 rfl (lv_at hl 2 rfl) ?_
            obtain ⟨r13, hu14, h⟩ := ob1_el h
            refine kcVi (ci := 4) (q := (RX4, TX4, 3)) (ws1 := (w_X0_tellRiddle cI cC h0 h1 h3 h5 h7 h9 h11 h4 h6 fR rR fA rA rnd)) ⟨hx, hb, hml, hown, hts⟩ [1, 2] [0, 3, 4] (c_X4_get l D cI cC cE h3 h4 _ 80 fR 4 rR p1 p2 r13 hu14) (cwV 2 hts gX0_tellRiddle_X4_get rfl rfl rfl (by decide +kernel) ⟨Nat.le_of_ble_eq_true rfl, Nat.le_of_ble_eq_true rfl⟩) hK hP hD hS hA rfl rfl rfl rfl rfl rfl rfl rfl rfl hl.1 rfl (Nat.le_of_ble_eq_true rfl) dX0_tellRiddle_62 ⟨Nat.le_refl 0, Nat.le_refl 0⟩ (fun H locs hP hD hS => ?_)
            obtain rfl := Option.some.inj h
            exact fin _ _ _ _ dX0_tellRiddle_65 hP hD hS
          · have h := (k_iB h).2 c12
            by_cases c15 : p2 = 4
            · have h := (k_iB h).1 c15
              refine lv_tableIn (off := 52) (tgt := 66) hx hb dX0_tellRiddle_14 (by rw [c15]; decide) (by rw [c15]; decide) (by rw [c15]; rfl) (by decide) ?_
              refine lv_aload_n hx hb dX0_tellRiddle_66 rfl (lv_at hl 0 rfl) ?_
              refine va_get (ci := 0) (C := RX0) (T := TX0) (N := 7) hx hb hts hiX0 hown hK hP 0 rfl rfl 2 (by decide) (hts (.fieldLink RX0 23 "RiddleTrade$Exchange" "answers" "LRiddleTrade$Table;") (List.mem_of_getElem? (i := 2) rfl)) (fun _ h9 => h9) rfl dX0_tellRiddle_67 ?_
              refine lv_iconst (v := 1) hx hb dX0_tellRiddle_70 (by decide) ?_
              refine lv_iload_n hx hb dX0_tellRiddle_71 rfl (lv_at hl 1 rfl) ?_
              obtain ⟨r16, hu17, h⟩ := ob1_el h
              refine kcVi (ci := 4) (q := (RX4, TX4, 3)) (ws1 := (w_X0_tellRiddle cI cC h0 h1 h3 h5 h7 h9 h11 h4 h6 fR rR fA rA rnd)) ⟨hx, hb, hml, hown, hts⟩ [3, 4] [0, 1, 2] (c_X4_countOf l D cI cC cE h5 h6 _ 320 fA 8 rA 1 p1 r16 hu17) (cwV 2 hts gX0_tellRiddle_X4_countOf rfl rfl rfl (by decide +kernel) ⟨Nat.le_of_ble_eq_true rfl, Nat.le_of_ble_eq_true rfl⟩) hK hP hD hS hA rfl rfl rfl rfl rfl rfl rfl rfl rfl hl.1 rfl (Nat.le_of_ble_eq_true rfl) dX0_tellRiddle_72 ⟨Nat.le_refl 0, Nat.le_refl 0⟩ (fun H locs hP hD hS => ?_)
              obtain rfl := Option.some.inj h
              exact fin _ _ _ _ dX0_tellRiddle_75 hP hD hS
            · have h := (k_iB h).2 c15
              by_cases c18 : p2 = 5
              · have h := (k_iB h).1 c18
                refine lv_tableIn (off := 62) (tgt := 76) hx hb dX0_tellRiddle_14 (by rw [c18]; decide) (by rw [c18]; decide) (by rw [c18]; rfl) (by decide) ?_
                refine lv_aload_n hx hb dX0_tellRiddle_76 rfl (lv_at hl 0 rfl) ?_
                refine va_get (ci := 0) (C := RX0) (T := TX0) (N := 7) hx hb hts hiX0 hown hK hP 0 rfl rfl 2 (by decide) (hts (.fieldLink RX0 23 "RiddleTrade$Exchange" "answers" "LRiddleTrade$Table;") (List.mem_of_getElem? (i := 2) rfl)) (fun _ h9 => h9) rfl dX0_tellRiddle_77 ?_
                refine lv_iconst (v := 1) hx hb dX0_tellRiddle_80 (by decide) ?_
                refine lv_iload_n hx hb dX0_tellRiddle_81 rfl (lv_at hl 1 rfl) ?_
                refine lv_iconst (v := 4) hx hb dX0_tellRiddle_82 (by decide) ?_
                refine lv_iconst (v := 0) hx hb dX0_tellRiddle_83 (by decide) ?_
                obtain ⟨r19, hu20, h⟩ := ob1_el h
                refine kcVi (ci := 4) (q := (RX4, TX4, 3)) (ws1 := (w_X0_tellRiddle cI cC h0 h1 h3 h5 h7 h9 h11 h4 h6 fR rR fA rA rnd)) ⟨hx, hb, hml, hown, hts⟩ [3, 4] [0, 1, 2] (c_X4_countOfBoth l D cI cC cE h5 h6 _ 320 fA 8 rA 1 p1 4 0 r19 hu20) (cwV 4 hts gX0_tellRiddle_X4_countOfBoth rfl rfl rfl (by decide +kernel) ⟨Nat.le_of_ble_eq_true rfl, Nat.le_of_ble_eq_true rfl⟩) hK hP hD hS hA rfl rfl rfl rfl rfl rfl rfl rfl rfl hl.1 rfl (Nat.le_of_ble_eq_true rfl) dX0_tellRiddle_84 ⟨Nat.le_refl 0, Nat.le_refl 0⟩ (fun H locs hP hD hS => ?_)
                obtain rfl := Option.some.inj h
                exact fin _ _ _ _ dX0_tellRiddle_87 hP hD hS
              · have h := (k_iB h).2 c18
                by_cases c21 : p2 = 6
                · have h := (k_iB h).1 c21
                  refine lv_tableIn (off := 74) (tgt := 88) hx hb dX0_tellRiddle_14 (by rw [c21]; decide) (by rw [c21]; decide) (by rw [c21]; rfl) (by decide) ?_
                  refine lv_aload_n hx hb dX0_tellRiddle_88 rfl (lv_at hl 0 rfl) ?_
                  refine va_get (ci := 0) (C := RX0) (T := TX0) (N := 7) hx hb hts hiX0 hown hK hP 0 rfl rfl 2 (by decide) (hts (.fieldLink RX0 23 "RiddleTrade$Exchange" "answers" "LRiddleTrade$Table;") (List.mem_of_getElem? (i := 2) rfl)) (fun _ h9 => h9) rfl dX0_tellRiddle_89 ?_
                  refine lv_iconst (v := 1) hx hb dX0_tellRiddle_92 (by decide) ?_
                  refine lv_iload_n hx hb dX0_tellRiddle_93 rfl (lv_at hl 1 rfl) ?_
                  refine lv_iconst (v := 4) hx hb dX0_tellRiddle_94 (by decide) ?_
                  refine lv_iconst (v := 1) hx hb dX0_tellRiddle_95 (by decide) ?_
                  obtain ⟨r22, hu23, h⟩ := ob1_el h
                  refine kcVi (ci := 4) (q := (RX4, TX4, 3)) (ws1 := (w_X0_tellRiddle cI cC h0 h1 h3 h5 h7 h9 h11 h4 h6 fR rR fA rA rnd)) ⟨hx, hb, hml, hown, hts⟩ [3, 4] [0, 1, 2] (c_X4_rowOfBoth l D cI cC cE h5 h6 _ 320 fA 8 rA 1 p1 4 1 r22 hu23) (cwV 4 hts gX0_tellRiddle_X4_rowOfBoth rfl rfl rfl (by decide +kernel) ⟨Nat.le_of_ble_eq_true rfl, Nat.le_of_ble_eq_true rfl⟩) hK hP hD hS hA rfl rfl rfl rfl rfl rfl rfl rfl rfl hl.1 rfl (Nat.le_of_ble_eq_true rfl) dX0_tellRiddle_96 ⟨Nat.le_refl 0, Nat.le_refl 0⟩ (fun H locs hP hD hS => ?_)
                  obtain rfl := Option.some.inj h
                  exact fin _ _ _ _ dX0_tellRiddle_99 hP hD hS
                · have h := (k_iB h).2 c21
                  refine lv_tableOut (tgt := 100) hx hb dX0_tellRiddle_14 (by have zc3 := lv_neT c3 (show ((0 : Int32)).toInt = 0 from rfl); have zc6 := lv_neT c6 (show ((1 : Int32)).toInt = 1 from rfl); have zc9 := lv_neT c9 (show ((2 : Int32)).toInt = 2 from rfl); have zc12 := lv_neT c12 (show ((3 : Int32)).toInt = 3 from rfl); have zc15 := lv_neT c15 (show ((4 : Int32)).toInt = 4 from rfl); have zc18 := lv_neT c18 (show ((5 : Int32)).toInt = 5 from rfl); have zc21 := lv_neT c21 (show ((6 : Int32)).toInt = 6 from rfl); omega) (by decide) ?_
                  refine lv_bipush (v := (-2)) hx hb dX0_tellRiddle_100 (by decide) ?_
                  obtain rfl := Option.some.inj h
                  exact fin _ _ _ _ dX0_tellRiddle_102 hP hD hS
  · have h := (k_iB h).1 c1
    refine lv_iconst (v := (-1)) hx hb dX0_tellRiddle_11 (by decide) ?_
    obtain rfl := Option.some.inj h
    exact fin _ _ _ _ dX0_tellRiddle_12 hP hD hS
abbrev w_X0_tellAnswer (cI cC : ClassId) (h0 h1 h3 h5 h7 h9 h11 h6 h12 : Nat) (fA : Nat → Int32) (rA : Int32) (ri : Nat → Int32) (hd : Int32) (ln : Int32) (rnd : Int32) : va_W := [(h0, .inr (0, [.ref h1, .ref h3, .ref h5, .ref h7, .ref h9, .ref h11, .int rnd])), (h5, .inr (4, [.ref h6, .int 8, .int rA])), (h6, .inl (cI, 320, .inl fA)), (h11, .inr (3, [.ref h12, .int hd, .int ln])), (h12, .inl (cI, 40, .inl ri))]
def d_X0_tellAnswer (p1 : Int32) (p2 : Int32) (fA : Nat → Int32) (rA : Int32) (ri : Nat → Int32) (hd : Int32) (ln : Int32) : Option (Int32) :=
    if (d_X4_has p1 rA) = 0 then (some (-1))
    else (if p2 = 8 then (ob1 (d_X3_placeOf p1 ri hd ln) fun r7 =>
    some r7)
    else (if p2 < 0 then (some (-2))
    else (if p2 ≤ 8 then (ob1 (d_X4_get 320 p1 p2 fA 8) fun r5 =>
    some r5)
    else (some (-2)))))
set_option maxHeartbeats 4000000 in
set_option maxRecDepth 100000 in
theorem c_X0_tellAnswer (l : Launch) (D : va_G) (cI cC cE : ClassId) (h0 h1 h3 h5 h7 h9 h11 h6 h12 : Nat) (sz : Nat) (fA : Nat → Int32) (rA : Int32) (ri : Nat → Int32) (hd : Int32) (ln : Int32) (rnd : Int32) (p1 : Int32) (p2 : Int32) (r0 : Int32) (h : d_X0_tellAnswer p1 p2 fA rA ri hd ln = some r0) : Met l yX0_tellAnswer wsX0_tellAnswer ({ frames := 2, cells := 0, slots := 0, locals := 44 } : Room) (kP D (kT cI cC cE) [.ref h0, .int p1, .int p2] (w_X0_tellAnswer cI cC h0 h1 h3 h5 h7 h9 h11 h6 h12 fA rA ri hd ln rnd) sz) (kQi D (kT cI cC cE) (w_X0_tellAnswer cI cC h0 h1 h3 h5 h7 h9 h11 h6 h12 fA rA ri hd ln rnd) (w_X0_tellAnswer cI cC h0 h1 h3 h5 h7 h9 h11 h6 h12 fA rA ri hd ln rnd) sz r0) 0 0 (va_A (w_X0_tellAnswer cI cC h0 h1 h3 h5 h7 h9 h11 h6 h12 fA rA ri hd ln rnd) sz) := by
  refine kMetI (cc := cX0_tellAnswer) (maxL := 3) (own := RX0) (by decide) rfl (Nat.le_of_ble_eq_true rfl) rfl ?_
  intro p e s m below meth c A Q hx hb hml hown hts hP hK hD hA hS hname fin ls hl
  have hl : lv_has ls 3 [(0, .ref h0), (1, .int p1), (2, .int p2)] := hl
  have hiX0 : ∀ w ∈ u_ws RX0 TX0 7, w ∈ wsX0_tellAnswer := by decide +kernel
  dsimp only [d_X0_tellAnswer] at h
  refine lv_aload_n hx hb dX0_tellAnswer_0 rfl (lv_at hl 0 rfl) ?_
  refine va_get (ci := 0) (C := RX0) (T := TX0) (N := 7) hx hb hts hiX0 hown hK hP 0 rfl rfl 2 (by decide) (hts (.fieldLink RX0 23 "RiddleTrade$Exchange" "answers" "LRiddleTrade$Table;") (List.mem_of_getElem? (i := 1) rfl)) (fun _ h9 => h9) rfl dX0_tellAnswer_1 ?_
  refine lv_iload_n hx hb dX0_tellAnswer_4 rfl (lv_at hl 1 rfl) ?_
  refine kcVi (ci := 4) (q := (RX4, TX4, 3)) (ws1 := (w_X0_tellAnswer cI cC h0 h1 h3 h5 h7 h9 h11 h6 h12 fA rA ri hd ln rnd)) ⟨hx, hb, hml, hown, hts⟩ [1] [0, 2, 3, 4] (c_X4_has l D cI cC cE h5 h6 _ 8 rA p1 (d_X4_has p1 rA) rfl) (cwV 1 hts gX0_tellAnswer_X4_has rfl rfl rfl (by decide +kernel) ⟨Nat.le_of_ble_eq_true rfl, Nat.le_of_ble_eq_true rfl⟩) hK hP hD hS hA rfl rfl rfl rfl rfl rfl rfl rfl rfl hl.1 rfl (Nat.le_of_ble_eq_true rfl) dX0_tellAnswer_5 ⟨Nat.le_refl 0, Nat.le_refl 0⟩ (fun H locs hP hD hS => ?_)
  refine lv_if_ne (tgt := 13) hx hb dX0_tellAnswer_8 (by decide) (fun c1 => ?_) (fun c1 => ?_)
  · have h := (k_iB h).2 c1
    refine lv_iload_n hx hb dX0_tellAnswer_13 rfl (lv_at hl 2 rfl) ?_
    refine lv_bipush (v := 8) hx hb dX0_tellAnswer_14 (by decide) ?_
    refine lv_icmp_ne (tgt := 28) hx hb dX0_tellAnswer_16 (by decide) (fun c2 => ?_) (fun c2 => ?_)
    · have h := (k_iB h).2 c2
      refine lv_iload_n hx hb dX0_tellAnswer_28 rfl (lv_at hl 2 rfl) ?_
      refine lv_if_lt (tgt := 38) hx hb dX0_tellAnswer_29 (by decide) (fun c3 => ?_) (fun c3 => ?_)
      · have h := (k_iB h).1 c3
        refine lv_bipush (v := (-2)) hx hb dX0_tellAnswer_38 (by decide) ?_
        refine lv_goto (tgt := 52) hx hb dX0_tellAnswer_40 (by decide) ?_
        obtain rfl := Option.some.inj h
        exact fin _ _ _ _ dX0_tellAnswer_52 hP hD hS
      · have h := (k_iB h).2 c3
        refine lv_iload_n hx hb dX0_tellAnswer_32 rfl (lv_at hl 2 rfl) ?_
        refine lv_bipush (v := 8) hx hb dX0_tellAnswer_33 (by decide) ?_
        refine lv_icmp_le (tgt := 43) hx hb dX0_tellAnswer_35 (by decide) (fun c4 => ?_) (fun c4 => ?_)
        · have h := (k_iB h).1 c4
          refine lv_aload_n hx hb dX0_tellAnswer_43 rfl (lv_at hl 0 rfl) ?_
          refine va_get (ci := 0) (C := RX0) (T := TX0) (N := 7) hx hb hts hiX0 hown hK hP 0 rfl rfl 2 (by decide) (hts (.fieldLink RX0 23 "RiddleTrade$Exchange" "answers" "LRiddleTrade$Table;") (List.mem_of_getElem? (i := 1) rfl)) (fun _ h9 => h9) rfl dX0_tellAnswer_44 ?_
          refine lv_iload_n hx hb dX0_tellAnswer_47 rfl (lv_at hl 1 rfl) ?_
          refine lv_iload_n hx hb dX0_tellAnswer_48 rfl (lv_at hl 2 rfl) ?_
          obtain ⟨r5, hu6, h⟩ := ob1_el h
          refine kcVi (ci := 4) (q := (RX4, TX4, 3)) (ws1 := (w_X0_tellAnswer cI cC h0 h1 h3 h5 h7 h9 h11 h6 h12 fA rA ri hd ln rnd)) ⟨hx, hb, hml, hown, hts⟩ [1, 2] [0, 3, 4] (c_X4_get l D cI cC cE h5 h6 _ 320 fA 8 rA p1 p2 r5 hu6) (cwV 2 hts gX0_tellAnswer_X4_get rfl rfl rfl (by decide +kernel) ⟨Nat.le_of_ble_eq_true rfl, Nat.le_of_ble_eq_true rfl⟩) hK hP hD hS hA rfl rfl rfl rfl rfl rfl rfl rfl rfl hl.1 rfl (Nat.le_of_ble_eq_true rfl) dX0_tellAnswer_49 ⟨Nat.le_refl 0, Nat.le_refl 0⟩ (fun H locs hP hD hS => ?_)
          obtain rfl := Option.some.inj h
          exact fin _ _ _ _ dX0_tellAnswer_52 hP hD hS
        · have h := (k_iB h).2 c4
          refine lv_bipush (v := (-2)) hx hb dX0_tellAnswer_38 (by decide) ?_
          refine lv_goto (tgt := 52) hx hb dX0_tellAnswer_40 (by decide) ?_
          obtain rfl := Option.some.inj h
          exact fin _ _ _ _ dX0_tellAnswer_52 hP hD hS
    · have h := (k_iB h).1 c2
      refine lv_aload_n hx hb dX0_tellAnswer_19 rfl (lv_at hl 0 rfl) ?_
      refine va_get (ci := 0) (C := RX0) (T := TX0) (N := 7) hx hb hts hiX0 hown hK hP 0 rfl rfl 5 (by decide) (hts (.fieldLink RX0 35 "RiddleTrade$Exchange" "row" "LRiddleTrade$Row;") (List.mem_of_getElem? (i := 2) rfl)) (fun _ h9 => h9) rfl dX0_tellAnswer_20 ?_
      refine lv_iload_n hx hb dX0_tellAnswer_23 rfl (lv_at hl 1 rfl) ?_
      obtain ⟨r7, hu8, h⟩ := ob1_el h
      refine kcVi (ci := 3) (q := (RX3, TX3, 3)) (ws1 := (w_X0_tellAnswer cI cC h0 h1 h3 h5 h7 h9 h11 h6 h12 fA rA ri hd ln rnd)) ⟨hx, hb, hml, hown, hts⟩ [3, 4] [0, 1, 2] (c_X3_placeOf l D cI cC cE h11 h12 _ ri hd ln p1 r7 hu8) (cwV 1 hts gX0_tellAnswer_X3_placeOf rfl rfl rfl (by decide +kernel) ⟨Nat.le_of_ble_eq_true rfl, Nat.le_of_ble_eq_true rfl⟩) hK hP hD hS hA rfl rfl rfl rfl rfl rfl rfl rfl rfl hl.1 rfl (Nat.le_of_ble_eq_true rfl) dX0_tellAnswer_24 ⟨Nat.le_refl 0, Nat.le_refl 0⟩ (fun H locs hP hD hS => ?_)
      obtain rfl := Option.some.inj h
      exact fin _ _ _ _ dX0_tellAnswer_27 hP hD hS
  · have h := (k_iB h).1 c1
    refine lv_iconst (v := (-1)) hx hb dX0_tellAnswer_11 (by decide) ?_
    obtain rfl := Option.some.inj h
    exact fin _ _ _ _ dX0_tellAnswer_12 hP hD hS
abbrev w_X0_richestTrader (cI cC : ClassId) (h0 h1 h3 h5 h7 h9 h11 h2 : Nat) (fT : Nat → Int32) (rnd : Int32) : va_W := [(h0, .inr (0, [.ref h1, .ref h3, .ref h5, .ref h7, .ref h9, .ref h11, .int rnd])), (h1, .inr (4, [.ref h2, .int 2, .int 8])), (h2, .inl (cI, 16, .inl fT))]
def lp_X0_richestTrader_4 (fT : Nat → Int32) : Nat → Int32 → Int32 → Option (Int32)
  | 0 => fun _ _ => none
  | k + 1 => fun x1 x2 =>
    if 8 ≤ x2 then (some x1)
    else (ob1 (d_X4_get 16 x2 0 fT 2) fun r2 =>
    ob1 (d_X4_get 16 x1 0 fT 2) fun r4 =>
    if r2 ≤ r4 then ((lp_X0_richestTrader_4  fT k) x1 (x2 + 1))
    else ((lp_X0_richestTrader_4  fT k) x2 (x2 + 1)))
def d_X0_richestTrader (fT : Nat → Int32) : Option (Int32) :=
    lp_X0_richestTrader_4  fT fuel 0 1
set_option maxHeartbeats 4000000 in
set_option maxRecDepth 100000 in
theorem c_X0_richestTrader (l : Launch) (D : va_G) (cI cC cE : ClassId) (h0 h1 h3 h5 h7 h9 h11 h2 : Nat) (sz : Nat) (fT : Nat → Int32) (rnd : Int32) (r0 : Int32) (h : d_X0_richestTrader fT = some r0) : Met l yX0_richestTrader wsX0_richestTrader ({ frames := 1, cells := 0, slots := 0, locals := 23 } : Room) (kP D (kT cI cC cE) [.ref h0] (w_X0_richestTrader cI cC h0 h1 h3 h5 h7 h9 h11 h2 fT rnd) sz) (kQi D (kT cI cC cE) (w_X0_richestTrader cI cC h0 h1 h3 h5 h7 h9 h11 h2 fT rnd) (w_X0_richestTrader cI cC h0 h1 h3 h5 h7 h9 h11 h2 fT rnd) sz r0) 0 0 (va_A (w_X0_richestTrader cI cC h0 h1 h3 h5 h7 h9 h11 h2 fT rnd) sz) := by
  refine kMetI (cc := cX0_richestTrader) (maxL := 3) (own := RX0) (by decide) rfl (Nat.le_of_ble_eq_true rfl) rfl ?_
  intro p e s m below meth c A Q hx hb hml hown hts hP hK hD hA hS hname fin ls hl
  have hl : lv_has ls 3 [(0, .ref h0)] := hl
  have hiX0 : ∀ w ∈ u_ws RX0 TX0 7, w ∈ wsX0_richestTrader := by decide +kernel
  have hL4 : ∀ (k : Nat), ∀ (x1 : Int32) (x2 : Int32) (H : Heap) (locs : List Loc), va_P D vwCl (w_X0_richestTrader cI cC h0 h1 h3 h5 h7 h9 h11 h2 fT rnd) H → va_D A (w_X0_richestTrader cI cC h0 h1 h3 h5 h7 h9 h11 h2 fT rnd) → va_S A s.heap H locs → ∀ (ls : Array Slot), lv_has ls 3 [(0, .ref h0), (1, .int x1), (2, .int x2)] → lp_X0_richestTrader_4  fT k x1 x2 = some r0 → W p l e ({ frames := 1, cells := 0, slots := 0, locals := 23 } : Room) s m [.ref h0].toArray below meth c H locs 0 0 Q (F0 m 4 ls []) := by
    intro k
    induction k with
    | zero =>
      intro x1 x2 H locs hP hD hS ls hl h
      exact k_none h
    | succ k ih =>
      intro x1 x2 H locs hP hD hS ls hl h
      dsimp only [lp_X0_richestTrader_4] at h
      refine lv_iload_n hx hb dX0_richestTrader_4 rfl (lv_at hl 2 rfl) ?_
      refine lv_bipush (v := 8) hx hb dX0_richestTrader_5 (by decide) ?_
      refine lv_icmp_ge (tgt := 39) hx hb dX0_richestTrader_7 (by decide) (fun c1 => ?_) (fun c1 => ?_)
      · have h := (k_iB h).1 c1
        refine lv_iload_n hx hb dX0_richestTrader_39 rfl (lv_at hl 1 rfl) ?_
        obtain rfl := Option.some.inj h
        exact fin _ _ _ _ dX0_richestTrader_40 hP hD hS
      · have h := (k_iB h).2 c1
        refine lv_aload_n hx hb dX0_richestTrader_10 rfl (lv_at hl 0 rfl) ?_
        refine va_get (ci := 0) (C := RX0) (T := TX0) (N := 7) hx hb hts hiX0 hown hK hP 0 rfl rfl 0 (by decide) (hts (.fieldLink RX0 16 "RiddleTrade$Exchange" "traders" "LRiddleTrade$Table;") (List.mem_of_getElem? (i := 1) rfl)) (fun _ h9 => h9) rfl dX0_richestTrader_11 ?_
        refine lv_iload_n hx hb dX0_richestTrader_14 rfl (lv_at hl 2 rfl) ?_
        refine lv_iconst (v := 0) hx hb dX0_richestTrader_15 (by decide) ?_
        obtain ⟨r2, hu3, h⟩ := ob1_el h
        refine kcVi (ci := 4) (q := (RX4, TX4, 3)) (ws1 := (w_X0_richestTrader cI cC h0 h1 h3 h5 h7 h9 h11 h2 fT rnd)) ⟨hx, hb, hml, hown, hts⟩ [1, 2] [0] (c_X4_get l D cI cC cE h1 h2 _ 16 fT 2 8 x2 0 r2 hu3) (cwV 2 hts gX0_richestTrader_X4_get rfl rfl rfl (by decide +kernel) ⟨Nat.le_of_ble_eq_true rfl, Nat.le_of_ble_eq_true rfl⟩) hK hP hD hS hA rfl rfl rfl rfl rfl rfl rfl rfl rfl hl.1 rfl (Nat.le_of_ble_eq_true rfl) dX0_richestTrader_16 ⟨Nat.le_refl 0, Nat.le_refl 0⟩ (fun H locs hP hD hS => ?_)
        refine lv_aload_n hx hb dX0_richestTrader_19 rfl (lv_at hl 0 rfl) ?_
        refine va_get (ci := 0) (C := RX0) (T := TX0) (N := 7) hx hb hts hiX0 hown hK hP 0 rfl rfl 0 (by decide) (hts (.fieldLink RX0 16 "RiddleTrade$Exchange" "traders" "LRiddleTrade$Table;") (List.mem_of_getElem? (i := 1) rfl)) (fun _ h9 => h9) rfl dX0_richestTrader_20 ?_
        refine lv_iload_n hx hb dX0_richestTrader_23 rfl (lv_at hl 1 rfl) ?_
        refine lv_iconst (v := 0) hx hb dX0_richestTrader_24 (by decide) ?_
        obtain ⟨r4, hu5, h⟩ := ob1_el h
        refine kcVi (ci := 4) (q := (RX4, TX4, 3)) (ws1 := (w_X0_richestTrader cI cC h0 h1 h3 h5 h7 h9 h11 h2 fT rnd)) ⟨hx, hb, hml, hown, hts⟩ [1, 2] [0] (c_X4_get l D cI cC cE h1 h2 _ 16 fT 2 8 x1 0 r4 hu5) (cwV 2 hts gX0_richestTrader_X4_get rfl rfl rfl (by decide +kernel) ⟨Nat.le_of_ble_eq_true rfl, Nat.le_of_ble_eq_true rfl⟩) hK hP hD hS hA rfl rfl rfl rfl rfl rfl rfl rfl rfl hl.1 rfl (Nat.le_of_ble_eq_true rfl) dX0_richestTrader_25 ⟨Nat.le_refl 0, Nat.le_refl 0⟩ (fun H locs hP hD hS => ?_)
        refine lv_icmp_le (tgt := 33) hx hb dX0_richestTrader_28 (by decide) (fun c6 => ?_) (fun c6 => ?_)
        · have h := (k_iB h).1 c6
          refine lv_iinc (v := (x2 + 1)) (lv' := [(2, .int (x2 + 1)), (0, .ref h0), (1, .int x1)]) hx hb dX0_richestTrader_33 hl (k := 2) rfl rfl (by decide) rfl (fun ls hl => ?_)
          refine lv_goto (tgt := 4) hx hb dX0_richestTrader_36 (by decide) ?_
          exact ih x1 (x2 + 1) _ _ hP hD hS _ (lv_sub hl [1, 2, 0] rfl) h
        · have h := (k_iB h).2 c6
          refine lv_iload_n hx hb dX0_richestTrader_31 rfl (lv_at hl 2 rfl) ?_
          refine lv_istore_n (lv' := [(1, .int x2), (0, .ref h0), (2, .int x2)]) hx hb dX0_richestTrader_32 rfl hl (by decide) rfl (fun ls hl => ?_)
          refine lv_iinc (v := (x2 + 1)) (lv' := [(2, .int (x2 + 1)), (1, .int x2), (0, .ref h0)]) hx hb dX0_richestTrader_33 hl (k := 2) rfl rfl (by decide) rfl (fun ls hl => ?_)
          refine lv_goto (tgt := 4) hx hb dX0_richestTrader_36 (by decide) ?_
          exact ih x2 (x2 + 1) _ _ hP hD hS _ (lv_sub hl [2, 1, 0] rfl) h
  dsimp only [d_X0_richestTrader] at h
  refine lv_iconst (v := 0) hx hb dX0_richestTrader_0 (by decide) ?_
  refine lv_istore_n (lv' := [(1, .int 0), (0, .ref h0)]) hx hb dX0_richestTrader_1 rfl hl (by decide) rfl (fun ls hl => ?_)
  refine lv_iconst (v := 1) hx hb dX0_richestTrader_2 (by decide) ?_
  refine lv_istore_n (lv' := [(2, .int 1), (1, .int 0), (0, .ref h0)]) hx hb dX0_richestTrader_3 rfl hl (by decide) rfl (fun ls hl => ?_)
  exact hL4   fuel 0 1 _ _ hP hD hS _ (lv_sub hl [2, 1, 0] rfl) h
abbrev w_X0_tellAccount (cI cC : ClassId) (h0 h1 h3 h5 h7 h9 h11 h2 h4 h6 : Nat) (fT : Nat → Int32) (fR : Nat → Int32) (rR : Int32) (fA : Nat → Int32) (rA : Int32) (rnd : Int32) : va_W := [(h0, .inr (0, [.ref h1, .ref h3, .ref h5, .ref h7, .ref h9, .ref h11, .int rnd])), (h1, .inr (4, [.ref h2, .int 2, .int 8])), (h2, .inl (cI, 16, .inl fT)), (h3, .inr (4, [.ref h4, .int 4, .int rR])), (h4, .inl (cI, 80, .inl fR)), (h5, .inr (4, [.ref h6, .int 8, .int rA])), (h6, .inl (cI, 320, .inl fA))]
def j_X0_tellAccount_69 (LP28 : Int32 → Int32 → Option (Int32)) (fT : Nat → Int32) (fR : Nat → Int32) (fA : Nat → Int32) (rA : Int32) (p1 : Int32) (x2 : Int32) (x3 : Int32) (x4 : Int32) : Option (Int32) :=
    ob1 (d_X4_get 320 x3 1 fA 8) fun r10 =>
    ob1 (d_X4_get 80 r10 0 fR 4) fun r12 =>
    if r12 = p1 then (LP28 (x2 - x4) (x3 + 1))
    else (LP28 x2 (x3 + 1))
def lp_X0_tellAccount_28 (fT : Nat → Int32) (fR : Nat → Int32) (fA : Nat → Int32) (rA : Int32) (p1 : Int32) : Nat → Int32 → Int32 → Option (Int32)
  | 0 => fun _ _ => none
  | k + 1 => fun x2 x3 =>
    if (d_X4_rows rA) ≤ x3 then (some (x2 + 100000))
    else (ob1 (d_X4_get 320 x3 7 fA 8) fun r5 =>
    ob1 (d_X4_get 320 x3 0 fA 8) fun r7 =>
    if r7 = p1 then (j_X0_tellAccount_69 (lp_X0_tellAccount_28  fT fR fA rA p1 k) fT fR fA rA p1 (x2 + r5) x3 r5)
    else (j_X0_tellAccount_69 (lp_X0_tellAccount_28  fT fR fA rA p1 k) fT fR fA rA p1 x2 x3 r5))
def d_X0_tellAccount (p1 : Int32) (fT : Nat → Int32) (fR : Nat → Int32) (fA : Nat → Int32) (rA : Int32) : Option (Int32) :=
    if (d_X4_has p1 8) = 0 then (some (-1))
    else (ob1 (d_X4_get 16 p1 1 fT 2) fun r2 =>
    lp_X0_tellAccount_28  fT fR fA rA p1 fuel (100 - r2) 0)
set_option maxHeartbeats 4000000 in
set_option maxRecDepth 100000 in
theorem c_X0_tellAccount (l : Launch) (D : va_G) (cI cC cE : ClassId) (h0 h1 h3 h5 h7 h9 h11 h2 h4 h6 : Nat) (sz : Nat) (fT : Nat → Int32) (fR : Nat → Int32) (rR : Int32) (fA : Nat → Int32) (rA : Int32) (rnd : Int32) (p1 : Int32) (r0 : Int32) (h : d_X0_tellAccount p1 fT fR fA rA = some r0) : Met l yX0_tellAccount wsX0_tellAccount ({ frames := 1, cells := 0, slots := 0, locals := 23 } : Room) (kP D (kT cI cC cE) [.ref h0, .int p1] (w_X0_tellAccount cI cC h0 h1 h3 h5 h7 h9 h11 h2 h4 h6 fT fR rR fA rA rnd) sz) (kQi D (kT cI cC cE) (w_X0_tellAccount cI cC h0 h1 h3 h5 h7 h9 h11 h2 h4 h6 fT fR rR fA rA rnd) (w_X0_tellAccount cI cC h0 h1 h3 h5 h7 h9 h11 h2 h4 h6 fT fR rR fA rA rnd) sz r0) 0 0 (va_A (w_X0_tellAccount cI cC h0 h1 h3 h5 h7 h9 h11 h2 h4 h6 fT fR rR fA rA rnd) sz) := by
  refine kMetI (cc := cX0_tellAccount) (maxL := 5) (own := RX0) (by decide) rfl (Nat.le_of_ble_eq_true rfl) rfl ?_
  intro p e s m below meth c A Q hx hb hml hown hts hP hK hD hA hS hname fin ls hl
  have hl : lv_has ls 5 [(0, .ref h0), (1, .int p1)] := hl
  have hiX0 : ∀ w ∈ u_ws RX0 TX0 7, w ∈ wsX0_tellAccount := by decide +kernel
  have hJ69 : ∀ (LP28 : Int32 → Int32 → Option (Int32)), (∀ (x2 : Int32) (x3 : Int32) (H : Heap) (locs : List Loc), va_P D vwCl (w_X0_tellAccount cI cC h0 h1 h3 h5 h7 h9 h11 h2 h4 h6 fT fR rR fA rA rnd) H → va_D A (w_X0_tellAccount cI cC h0 h1 h3 h5 h7 h9 h11 h2 h4 h6 fT fR rR fA rA rnd) → va_S A s.heap H locs → ∀ (ls : Array Slot), lv_has ls 5 [(0, .ref h0), (1, .int p1), (2, .int x2), (3, .int x3)] → LP28 x2 x3 = some r0 → W p l e ({ frames := 1, cells := 0, slots := 0, locals := 23 } : Room) s m [.ref h0, .int p1].toArray below meth c H locs 0 0 Q (F0 m 28 ls [])) → ∀ (x2 : Int32) (x3 : Int32) (x4 : Int32) (H : Heap) (locs : List Loc), va_P D vwCl (w_X0_tellAccount cI cC h0 h1 h3 h5 h7 h9 h11 h2 h4 h6 fT fR rR fA rA rnd) H → va_D A (w_X0_tellAccount cI cC h0 h1 h3 h5 h7 h9 h11 h2 h4 h6 fT fR rR fA rA rnd) → va_S A s.heap H locs → ∀ (ls : Array Slot), lv_has ls 5 [(0, .ref h0), (1, .int p1), (2, .int x2), (3, .int x3), (4, .int x4)] → j_X0_tellAccount_69 LP28 fT fR fA rA p1 x2 x3 x4 = some r0 → W p l e ({ frames := 1, cells := 0, slots := 0, locals := 23 } : Room) s m [.ref h0, .int p1].toArray below meth c H locs 0 0 Q (F0 m 69 ls []) := by
    intro LP28 hLP28
    intro x2 x3 x4 H locs hP hD hS ls hl h
    dsimp only [j_X0_tellAccount_69] at h
    refine lv_aload_n hx hb dX0_tellAccount_69 rfl (lv_at hl 0 rfl) ?_
    refine va_get (ci := 0) (C := RX0) (T := TX0) (N := 7) hx hb hts hiX0 hown hK hP 0 rfl rfl 1 (by decide) (hts (.fieldLink RX0 20 "RiddleTrade$Exchange" "riddles" "LRiddleTrade$Table;") (List.mem_of_getElem? (i := 3) rfl)) (fun _ h9 => h9) rfl dX0_tellAccount_70 ?_
    refine lv_aload_n hx hb dX0_tellAccount_73 rfl (lv_at hl 0 rfl) ?_
    refine va_get (ci := 0) (C := RX0) (T := TX0) (N := 7) hx hb hts hiX0 hown hK hP 0 rfl rfl 2 (by decide) (hts (.fieldLink RX0 23 "RiddleTrade$Exchange" "answers" "LRiddleTrade$Table;") (List.mem_of_getElem? (i := 2) rfl)) (fun _ h9 => h9) rfl dX0_tellAccount_74 ?_
    refine lv_iload_n hx hb dX0_tellAccount_77 rfl (lv_at hl 3 rfl) ?_
    refine lv_iconst (v := 1) hx hb dX0_tellAccount_78 (by decide) ?_
    obtain ⟨r10, hu11, h⟩ := ob1_el h
    refine kcVi (ci := 4) (q := (RX4, TX4, 3)) (ws1 := (w_X0_tellAccount cI cC h0 h1 h3 h5 h7 h9 h11 h2 h4 h6 fT fR rR fA rA rnd)) ⟨hx, hb, hml, hown, hts⟩ [5, 6] [0, 1, 2, 3, 4] (c_X4_get l D cI cC cE h5 h6 _ 320 fA 8 rA x3 1 r10 hu11) (cwV 2 hts gX0_tellAccount_X4_get rfl rfl rfl (by decide +kernel) ⟨Nat.le_of_ble_eq_true rfl, Nat.le_of_ble_eq_true rfl⟩) hK hP hD hS hA rfl rfl rfl rfl rfl rfl rfl rfl rfl hl.1 rfl (Nat.le_of_ble_eq_true rfl) dX0_tellAccount_79 ⟨Nat.le_refl 0, Nat.le_refl 0⟩ (fun H locs hP hD hS => ?_)
    refine lv_iconst (v := 0) hx hb dX0_tellAccount_82 (by decide) ?_
    obtain ⟨r12, hu13, h⟩ := ob1_el h
    refine kcVi (ci := 4) (q := (RX4, TX4, 3)) (ws1 := (w_X0_tellAccount cI cC h0 h1 h3 h5 h7 h9 h11 h2 h4 h6 fT fR rR fA rA rnd)) ⟨hx, hb, hml, hown, hts⟩ [3, 4] [0, 1, 2, 5, 6] (c_X4_get l D cI cC cE h3 h4 _ 80 fR 4 rR r10 0 r12 hu13) (cwV 2 hts gX0_tellAccount_X4_get rfl rfl rfl (by decide +kernel) ⟨Nat.le_of_ble_eq_true rfl, Nat.le_of_ble_eq_true rfl⟩) hK hP hD hS hA rfl rfl rfl rfl rfl rfl rfl rfl rfl hl.1 rfl (Nat.le_of_ble_eq_true rfl) dX0_tellAccount_83 ⟨Nat.le_refl 0, Nat.le_refl 0⟩ (fun H locs hP hD hS => ?_)
    refine lv_iload_n hx hb dX0_tellAccount_86 rfl (lv_at hl 1 rfl) ?_
    refine lv_icmp_ne (tgt := 95) hx hb dX0_tellAccount_87 (by decide) (fun c14 => ?_) (fun c14 => ?_)
    · have h := (k_iB h).2 c14
      refine lv_iinc (v := (x3 + 1)) (lv' := [(3, .int (x3 + 1)), (0, .ref h0), (1, .int p1), (2, .int x2), (4, .int x4)]) hx hb dX0_tellAccount_95 hl (k := 3) rfl rfl (by decide) rfl (fun ls hl => ?_)
      refine lv_goto (tgt := 28) hx hb dX0_tellAccount_98 (by decide) ?_
      exact hLP28 x2 (x3 + 1) _ _ hP hD hS _ (lv_sub hl [1, 2, 3, 0] rfl) h
    · have h := (k_iB h).1 c14
      refine lv_iload_n hx hb dX0_tellAccount_90 rfl (lv_at hl 2 rfl) ?_
      refine lv_iload hx hb dX0_tellAccount_91 (lv_at hl 4 rfl) ?_
      refine lv_isub hx hb dX0_tellAccount_93 ?_
      refine lv_istore_n (lv' := [(2, .int (x2 - x4)), (0, .ref h0), (1, .int p1), (3, .int x3), (4, .int x4)]) hx hb dX0_tellAccount_94 rfl hl (by decide) rfl (fun ls hl => ?_)
      refine lv_iinc (v := (x3 + 1)) (lv' := [(3, .int (x3 + 1)), (2, .int (x2 - x4)), (0, .ref h0), (1, .int p1), (4, .int x4)]) hx hb dX0_tellAccount_95 hl (k := 3) rfl rfl (by decide) rfl (fun ls hl => ?_)
      refine lv_goto (tgt := 28) hx hb dX0_tellAccount_98 (by decide) ?_
      exact hLP28 (x2 - x4) (x3 + 1) _ _ hP hD hS _ (lv_sub hl [2, 3, 1, 0] rfl) h
  have hL28 : ∀ (k : Nat), ∀ (x2 : Int32) (x3 : Int32) (H : Heap) (locs : List Loc), va_P D vwCl (w_X0_tellAccount cI cC h0 h1 h3 h5 h7 h9 h11 h2 h4 h6 fT fR rR fA rA rnd) H → va_D A (w_X0_tellAccount cI cC h0 h1 h3 h5 h7 h9 h11 h2 h4 h6 fT fR rR fA rA rnd) → va_S A s.heap H locs → ∀ (ls : Array Slot), lv_has ls 5 [(0, .ref h0), (1, .int p1), (2, .int x2), (3, .int x3)] → lp_X0_tellAccount_28  fT fR fA rA p1 k x2 x3 = some r0 → W p l e ({ frames := 1, cells := 0, slots := 0, locals := 23 } : Room) s m [.ref h0, .int p1].toArray below meth c H locs 0 0 Q (F0 m 28 ls []) := by
    intro k
    induction k with
    | zero =>
      intro x2 x3 H locs hP hD hS ls hl h
      exact k_none h
    | succ k ih =>
      intro x2 x3 H locs hP hD hS ls hl h
      dsimp only [lp_X0_tellAccount_28] at h
      refine lv_iload_n hx hb dX0_tellAccount_28 rfl (lv_at hl 3 rfl) ?_
      refine lv_aload_n hx hb dX0_tellAccount_29 rfl (lv_at hl 0 rfl) ?_
      refine va_get (ci := 0) (C := RX0) (T := TX0) (N := 7) hx hb hts hiX0 hown hK hP 0 rfl rfl 2 (by decide) (hts (.fieldLink RX0 23 "RiddleTrade$Exchange" "answers" "LRiddleTrade$Table;") (List.mem_of_getElem? (i := 2) rfl)) (fun _ h9 => h9) rfl dX0_tellAccount_30 ?_
      refine kcVi (ci := 4) (q := (RX4, TX4, 3)) (ws1 := (w_X0_tellAccount cI cC h0 h1 h3 h5 h7 h9 h11 h2 h4 h6 fT fR rR fA rA rnd)) ⟨hx, hb, hml, hown, hts⟩ [5] [0, 1, 2, 3, 4, 6] (c_X4_rows l D cI cC cE h5 h6 _ 8 rA (d_X4_rows rA) rfl) (cwV 0 hts gX0_tellAccount_X4_rows rfl rfl rfl (by decide +kernel) ⟨Nat.le_of_ble_eq_true rfl, Nat.le_of_ble_eq_true rfl⟩) hK hP hD hS hA rfl rfl rfl rfl rfl rfl rfl rfl rfl hl.1 rfl (Nat.le_of_ble_eq_true rfl) dX0_tellAccount_33 ⟨Nat.le_refl 0, Nat.le_refl 0⟩ (fun H locs hP hD hS => ?_)
      refine lv_icmp_ge (tgt := 101) hx hb dX0_tellAccount_36 (by decide) (fun c4 => ?_) (fun c4 => ?_)
      · have h := (k_iB h).1 c4
        refine lv_iload_n hx hb dX0_tellAccount_101 rfl (lv_at hl 2 rfl) ?_
        refine lv_ldc (v := 100000) hx hb hown (hts (.constant RX0 144 (100000)) (List.mem_of_getElem? (i := 4) rfl)) dX0_tellAccount_102 ?_
        refine lv_iadd hx hb dX0_tellAccount_104 ?_
        obtain rfl := Option.some.inj h
        exact fin _ _ _ _ dX0_tellAccount_105 hP hD hS
      · have h := (k_iB h).2 c4
        refine lv_aload_n hx hb dX0_tellAccount_39 rfl (lv_at hl 0 rfl) ?_
        refine va_get (ci := 0) (C := RX0) (T := TX0) (N := 7) hx hb hts hiX0 hown hK hP 0 rfl rfl 2 (by decide) (hts (.fieldLink RX0 23 "RiddleTrade$Exchange" "answers" "LRiddleTrade$Table;") (List.mem_of_getElem? (i := 2) rfl)) (fun _ h9 => h9) rfl dX0_tellAccount_40 ?_
        refine lv_iload_n hx hb dX0_tellAccount_43 rfl (lv_at hl 3 rfl) ?_
        refine lv_bipush (v := 7) hx hb dX0_tellAccount_44 (by decide) ?_
        obtain ⟨r5, hu6, h⟩ := ob1_el h
        refine kcVi (ci := 4) (q := (RX4, TX4, 3)) (ws1 := (w_X0_tellAccount cI cC h0 h1 h3 h5 h7 h9 h11 h2 h4 h6 fT fR rR fA rA rnd)) ⟨hx, hb, hml, hown, hts⟩ [5, 6] [0, 1, 2, 3, 4] (c_X4_get l D cI cC cE h5 h6 _ 320 fA 8 rA x3 7 r5 hu6) (cwV 2 hts gX0_tellAccount_X4_get rfl rfl rfl (by decide +kernel) ⟨Nat.le_of_ble_eq_true rfl, Nat.le_of_ble_eq_true rfl⟩) hK hP hD hS hA rfl rfl rfl rfl rfl rfl rfl rfl rfl hl.1 rfl (Nat.le_of_ble_eq_true rfl) dX0_tellAccount_46 ⟨Nat.le_refl 0, Nat.le_refl 0⟩ (fun H locs hP hD hS => ?_)
        refine lv_istore (lv' := [(4, .int r5), (0, .ref h0), (1, .int p1), (2, .int x2), (3, .int x3)]) hx hb dX0_tellAccount_49 hl (by decide) rfl (fun ls hl => ?_)
        refine lv_aload_n hx hb dX0_tellAccount_51 rfl (lv_at hl 1 rfl) ?_
        refine va_get (ci := 0) (C := RX0) (T := TX0) (N := 7) hx hb hts hiX0 hown hK hP 0 rfl rfl 2 (by decide) (hts (.fieldLink RX0 23 "RiddleTrade$Exchange" "answers" "LRiddleTrade$Table;") (List.mem_of_getElem? (i := 2) rfl)) (fun _ h9 => h9) rfl dX0_tellAccount_52 ?_
        refine lv_iload_n hx hb dX0_tellAccount_55 rfl (lv_at hl 4 rfl) ?_
        refine lv_iconst (v := 0) hx hb dX0_tellAccount_56 (by decide) ?_
        obtain ⟨r7, hu8, h⟩ := ob1_el h
        refine kcVi (ci := 4) (q := (RX4, TX4, 3)) (ws1 := (w_X0_tellAccount cI cC h0 h1 h3 h5 h7 h9 h11 h2 h4 h6 fT fR rR fA rA rnd)) ⟨hx, hb, hml, hown, hts⟩ [5, 6] [0, 1, 2, 3, 4] (c_X4_get l D cI cC cE h5 h6 _ 320 fA 8 rA x3 0 r7 hu8) (cwV 2 hts gX0_tellAccount_X4_get rfl rfl rfl (by decide +kernel) ⟨Nat.le_of_ble_eq_true rfl, Nat.le_of_ble_eq_true rfl⟩) hK hP hD hS hA rfl rfl rfl rfl rfl rfl rfl rfl rfl hl.1 rfl (Nat.le_of_ble_eq_true rfl) dX0_tellAccount_57 ⟨Nat.le_refl 0, Nat.le_refl 0⟩ (fun H locs hP hD hS => ?_)
        refine lv_iload_n hx hb dX0_tellAccount_60 rfl (lv_at hl 2 rfl) ?_
        refine lv_icmp_ne (tgt := 69) hx hb dX0_tellAccount_61 (by decide) (fun c9 => ?_) (fun c9 => ?_)
        · have h := (k_iB h).2 c9
          exact hJ69 (lp_X0_tellAccount_28  fT fR fA rA p1 k) ih x2 x3 r5 _ _ hP hD hS _ (lv_sub hl [1, 2, 3, 4, 0] rfl) h
        · have h := (k_iB h).1 c9
          refine lv_iload_n hx hb dX0_tellAccount_64 rfl (lv_at hl 3 rfl) ?_
          refine lv_iload hx hb dX0_tellAccount_65 (lv_at hl 0 rfl) ?_
          refine lv_iadd hx hb dX0_tellAccount_67 ?_
          refine lv_istore_n (lv' := [(2, .int (x2 + r5)), (4, .int r5), (0, .ref h0), (1, .int p1), (3, .int x3)]) hx hb dX0_tellAccount_68 rfl hl (by decide) rfl (fun ls hl => ?_)
          exact hJ69 (lp_X0_tellAccount_28  fT fR fA rA p1 k) ih (x2 + r5) x3 r5 _ _ hP hD hS _ (lv_sub hl [2, 3, 0, 4, 1] rfl) h
  dsimp only [d_X0_tellAccount] at h
  refine lv_aload_n hx hb dX0_tellAccount_0 rfl (lv_at hl 0 rfl) ?_
  refine va_get (ci := 0) (C := RX0) (T := TX0) (N := 7) hx hb hts hiX0 hown hK hP 0 rfl rfl 0 (by decide) (hts (.fieldLink RX0 16 "RiddleTrade$Exchange" "traders" "LRiddleTrade$Table;") (List.mem_of_getElem? (i := 1) rfl)) (fun _ h9 => h9) rfl dX0_tellAccount_1 ?_
  refine lv_iload_n hx hb dX0_tellAccount_4 rfl (lv_at hl 1 rfl) ?_
  refine kcVi (ci := 4) (q := (RX4, TX4, 3)) (ws1 := (w_X0_tellAccount cI cC h0 h1 h3 h5 h7 h9 h11 h2 h4 h6 fT fR rR fA rA rnd)) ⟨hx, hb, hml, hown, hts⟩ [1] [0, 2, 3, 4, 5, 6] (c_X4_has l D cI cC cE h1 h2 _ 2 8 p1 (d_X4_has p1 8) rfl) (cwV 1 hts gX0_tellAccount_X4_has rfl rfl rfl (by decide +kernel) ⟨Nat.le_of_ble_eq_true rfl, Nat.le_of_ble_eq_true rfl⟩) hK hP hD hS hA rfl rfl rfl rfl rfl rfl rfl rfl rfl hl.1 rfl (Nat.le_of_ble_eq_true rfl) dX0_tellAccount_5 ⟨Nat.le_refl 0, Nat.le_refl 0⟩ (fun H locs hP hD hS => ?_)
  refine lv_if_ne (tgt := 13) hx hb dX0_tellAccount_8 (by decide) (fun c1 => ?_) (fun c1 => ?_)
  · have h := (k_iB h).2 c1
    refine lv_bipush (v := 100) hx hb dX0_tellAccount_13 (by decide) ?_
    refine lv_aload_n hx hb dX0_tellAccount_15 rfl (lv_at hl 0 rfl) ?_
    refine va_get (ci := 0) (C := RX0) (T := TX0) (N := 7) hx hb hts hiX0 hown hK hP 0 rfl rfl 0 (by decide) (hts (.fieldLink RX0 16 "RiddleTrade$Exchange" "traders" "LRiddleTrade$Table;") (List.mem_of_getElem? (i := 1) rfl)) (fun _ h9 => h9) rfl dX0_tellAccount_16 ?_
    refine lv_iload_n hx hb dX0_tellAccount_19 rfl (lv_at hl 1 rfl) ?_
    refine lv_iconst (v := 1) hx hb dX0_tellAccount_20 (by decide) ?_
    obtain ⟨r2, hu3, h⟩ := ob1_el h
    refine kcVi (ci := 4) (q := (RX4, TX4, 3)) (ws1 := (w_X0_tellAccount cI cC h0 h1 h3 h5 h7 h9 h11 h2 h4 h6 fT fR rR fA rA rnd)) ⟨hx, hb, hml, hown, hts⟩ [1, 2] [0, 3, 4, 5, 6] (c_X4_get l D cI cC cE h1 h2 _ 16 fT 2 8 p1 1 r2 hu3) (cwV 2 hts gX0_tellAccount_X4_get rfl rfl rfl (by decide +kernel) ⟨Nat.le_of_ble_eq_true rfl, Nat.le_of_ble_eq_true rfl⟩) hK hP hD hS hA rfl rfl rfl rfl rfl rfl rfl rfl rfl hl.1 rfl (Nat.le_of_ble_eq_true rfl) dX0_tellAccount_21 ⟨Nat.le_refl 0, Nat.le_refl 0⟩ (fun H locs hP hD hS => ?_)
    refine lv_isub hx hb dX0_tellAccount_24 ?_
    refine lv_istore_n (lv' := [(2, .int (100 - r2)), (0, .ref h0), (1, .int p1)]) hx hb dX0_tellAccount_25 rfl hl (by decide) rfl (fun ls hl => ?_)
    refine lv_iconst (v := 0) hx hb dX0_tellAccount_26 (by decide) ?_
    refine lv_istore_n (lv' := [(3, .int 0), (2, .int (100 - r2)), (0, .ref h0), (1, .int p1)]) hx hb dX0_tellAccount_27 rfl hl (by decide) rfl (fun ls hl => ?_)
    exact hL28   fuel (100 - r2) 0 _ _ hP hD hS _ (lv_sub hl [2, 3, 1, 0] rfl) h
  · have h := (k_iB h).1 c1
    refine lv_iconst (v := (-1)) hx hb dX0_tellAccount_11 (by decide) ?_
    obtain rfl := Option.some.inj h
    exact fin _ _ _ _ dX0_tellAccount_12 hP hD hS
abbrev w_X0_tradersInDebt (cI cC : ClassId) (h0 h1 h3 h5 h7 h9 h11 h2 : Nat) (fT : Nat → Int32) (rnd : Int32) : va_W := [(h0, .inr (0, [.ref h1, .ref h3, .ref h5, .ref h7, .ref h9, .ref h11, .int rnd])), (h1, .inr (4, [.ref h2, .int 2, .int 8])), (h2, .inl (cI, 16, .inl fT))]
def lp_X0_tradersInDebt_4 (fT : Nat → Int32) : Nat → Int32 → Int32 → Option (Int32)
  | 0 => fun _ _ => none
  | k + 1 => fun x1 x2 =>
    if 8 ≤ x2 then (some x1)
    else (ob1 (d_X4_get 16 x2 0 fT 2) fun r2 =>
    if 0 ≤ r2 then ((lp_X0_tradersInDebt_4  fT k) x1 (x2 + 1))
    else ((lp_X0_tradersInDebt_4  fT k) (x1 + 1) (x2 + 1)))
def d_X0_tradersInDebt (fT : Nat → Int32) : Option (Int32) :=
    lp_X0_tradersInDebt_4  fT fuel 0 0
set_option maxHeartbeats 4000000 in
set_option maxRecDepth 100000 in
theorem c_X0_tradersInDebt (l : Launch) (D : va_G) (cI cC cE : ClassId) (h0 h1 h3 h5 h7 h9 h11 h2 : Nat) (sz : Nat) (fT : Nat → Int32) (rnd : Int32) (r0 : Int32) (h : d_X0_tradersInDebt fT = some r0) : Met l yX0_tradersInDebt wsX0_tradersInDebt ({ frames := 1, cells := 0, slots := 0, locals := 23 } : Room) (kP D (kT cI cC cE) [.ref h0] (w_X0_tradersInDebt cI cC h0 h1 h3 h5 h7 h9 h11 h2 fT rnd) sz) (kQi D (kT cI cC cE) (w_X0_tradersInDebt cI cC h0 h1 h3 h5 h7 h9 h11 h2 fT rnd) (w_X0_tradersInDebt cI cC h0 h1 h3 h5 h7 h9 h11 h2 fT rnd) sz r0) 0 0 (va_A (w_X0_tradersInDebt cI cC h0 h1 h3 h5 h7 h9 h11 h2 fT rnd) sz) := by
  refine kMetI (cc := cX0_tradersInDebt) (maxL := 3) (own := RX0) (by decide) rfl (Nat.le_of_ble_eq_true rfl) rfl ?_
  intro p e s m below meth c A Q hx hb hml hown hts hP hK hD hA hS hname fin ls hl
  have hl : lv_has ls 3 [(0, .ref h0)] := hl
  have hiX0 : ∀ w ∈ u_ws RX0 TX0 7, w ∈ wsX0_tradersInDebt := by decide +kernel
  have hL4 : ∀ (k : Nat), ∀ (x1 : Int32) (x2 : Int32) (H : Heap) (locs : List Loc), va_P D vwCl (w_X0_tradersInDebt cI cC h0 h1 h3 h5 h7 h9 h11 h2 fT rnd) H → va_D A (w_X0_tradersInDebt cI cC h0 h1 h3 h5 h7 h9 h11 h2 fT rnd) → va_S A s.heap H locs → ∀ (ls : Array Slot), lv_has ls 3 [(0, .ref h0), (1, .int x1), (2, .int x2)] → lp_X0_tradersInDebt_4  fT k x1 x2 = some r0 → W p l e ({ frames := 1, cells := 0, slots := 0, locals := 23 } : Room) s m [.ref h0].toArray below meth c H locs 0 0 Q (F0 m 4 ls []) := by
    intro k
    induction k with
    | zero =>
      intro x1 x2 H locs hP hD hS ls hl h
      exact k_none h
    | succ k ih =>
      intro x1 x2 H locs hP hD hS ls hl h
      dsimp only [lp_X0_tradersInDebt_4] at h
      refine lv_iload_n hx hb dX0_tradersInDebt_4 rfl (lv_at hl 2 rfl) ?_
      refine lv_bipush (v := 8) hx hb dX0_tradersInDebt_5 (by decide) ?_
      refine lv_icmp_ge (tgt := 31) hx hb dX0_tradersInDebt_7 (by decide) (fun c1 => ?_) (fun c1 => ?_)
      · have h := (k_iB h).1 c1
        refine lv_iload_n hx hb dX0_tradersInDebt_31 rfl (lv_at hl 1 rfl) ?_
        obtain rfl := Option.some.inj h
        exact fin _ _ _ _ dX0_tradersInDebt_32 hP hD hS
      · have h := (k_iB h).2 c1
        refine lv_aload_n hx hb dX0_tradersInDebt_10 rfl (lv_at hl 0 rfl) ?_
        refine va_get (ci := 0) (C := RX0) (T := TX0) (N := 7) hx hb hts hiX0 hown hK hP 0 rfl rfl 0 (by decide) (hts (.fieldLink RX0 16 "RiddleTrade$Exchange" "traders" "LRiddleTrade$Table;") (List.mem_of_getElem? (i := 1) rfl)) (fun _ h9 => h9) rfl dX0_tradersInDebt_11 ?_
        refine lv_iload_n hx hb dX0_tradersInDebt_14 rfl (lv_at hl 2 rfl) ?_
        refine lv_iconst (v := 0) hx hb dX0_tradersInDebt_15 (by decide) ?_
        obtain ⟨r2, hu3, h⟩ := ob1_el h
        refine kcVi (ci := 4) (q := (RX4, TX4, 3)) (ws1 := (w_X0_tradersInDebt cI cC h0 h1 h3 h5 h7 h9 h11 h2 fT rnd)) ⟨hx, hb, hml, hown, hts⟩ [1, 2] [0] (c_X4_get l D cI cC cE h1 h2 _ 16 fT 2 8 x2 0 r2 hu3) (cwV 2 hts gX0_tradersInDebt_X4_get rfl rfl rfl (by decide +kernel) ⟨Nat.le_of_ble_eq_true rfl, Nat.le_of_ble_eq_true rfl⟩) hK hP hD hS hA rfl rfl rfl rfl rfl rfl rfl rfl rfl hl.1 rfl (Nat.le_of_ble_eq_true rfl) dX0_tradersInDebt_16 ⟨Nat.le_refl 0, Nat.le_refl 0⟩ (fun H locs hP hD hS => ?_)
        refine lv_if_ge (tgt := 25) hx hb dX0_tradersInDebt_19 (by decide) (fun c4 => ?_) (fun c4 => ?_)
        · have h := (k_iB h).1 c4
          refine lv_iinc (v := (x2 + 1)) (lv' := [(2, .int (x2 + 1)), (0, .ref h0), (1, .int x1)]) hx hb dX0_tradersInDebt_25 hl (k := 2) rfl rfl (by decide) rfl (fun ls hl => ?_)
          refine lv_goto (tgt := 4) hx hb dX0_tradersInDebt_28 (by decide) ?_
          exact ih x1 (x2 + 1) _ _ hP hD hS _ (lv_sub hl [1, 2, 0] rfl) h
        · have h := (k_iB h).2 c4
          refine lv_iinc (v := (x1 + 1)) (lv' := [(1, .int (x1 + 1)), (0, .ref h0), (2, .int x2)]) hx hb dX0_tradersInDebt_22 hl (k := 1) rfl rfl (by decide) rfl (fun ls hl => ?_)
          refine lv_iinc (v := (x2 + 1)) (lv' := [(2, .int (x2 + 1)), (1, .int (x1 + 1)), (0, .ref h0)]) hx hb dX0_tradersInDebt_25 hl (k := 2) rfl rfl (by decide) rfl (fun ls hl => ?_)
          refine lv_goto (tgt := 4) hx hb dX0_tradersInDebt_28 (by decide) ?_
          exact ih (x1 + 1) (x2 + 1) _ _ hP hD hS _ (lv_sub hl [2, 1, 0] rfl) h
  dsimp only [d_X0_tradersInDebt] at h
  refine lv_iconst (v := 0) hx hb dX0_tradersInDebt_0 (by decide) ?_
  refine lv_istore_n (lv' := [(1, .int 0), (0, .ref h0)]) hx hb dX0_tradersInDebt_1 rfl hl (by decide) rfl (fun ls hl => ?_)
  refine lv_iconst (v := 0) hx hb dX0_tradersInDebt_2 (by decide) ?_
  refine lv_istore_n (lv' := [(2, .int 0), (1, .int 0), (0, .ref h0)]) hx hb dX0_tradersInDebt_3 rfl hl (by decide) rfl (fun ls hl => ?_)
  exact hL4   fuel 0 0 _ _ hP hD hS _ (lv_sub hl [2, 1, 0] rfl) h
abbrev w_X0_tellCount (cI cC : ClassId) (h0 h1 h3 h5 h7 h9 h11 h2 h4 h6 h8 h10 h12 : Nat) (fT : Nat → Int32) (fR : Nat → Int32) (rR : Int32) (fA : Nat → Int32) (rA : Int32) (fS : Nat → Int32) (fE : Nat → Int32) (hd : Int32) (ln : Int32) (rnd : Int32) : va_W := [(h0, .inr (0, [.ref h1, .ref h3, .ref h5, .ref h7, .ref h9, .ref h11, .int rnd])), (h1, .inr (4, [.ref h2, .int 2, .int 8])), (h2, .inl (cI, 16, .inl fT)), (h3, .inr (4, [.ref h4, .int 4, .int rR])), (h4, .inl (cI, 80, .inl fR)), (h5, .inr (4, [.ref h6, .int 8, .int rA])), (h6, .inl (cI, 320, .inl fA)), (h7, .inr (4, [.ref h8, .int 2, .int 2])), (h8, .inl (cI, 4, .inl fS)), (h9, .inr (4, [.ref h10, .int 3, .int 4])), (h10, .inl (cI, 12, .inl fE)), (h11, .inr (3, [.ref h12, .int hd, .int ln]))]
def d_X0_tellCount (p1 : Int32) (fT : Nat → Int32) (fR : Nat → Int32) (rR : Int32) (fA : Nat → Int32) (rA : Int32) (fS : Nat → Int32) (fE : Nat → Int32) (ln : Int32) (rnd : Int32) : Option (Int32) :=
    if p1 = 0 then (some rnd)
    else (if p1 = 1 then (some (d_X4_rows rR))
    else (if p1 = 2 then (ob1 (d_X4_countOf 80 3 0 fR 4 rR) fun r5 =>
    some r5)
    else (if p1 = 3 then (some (d_X4_rows rA))
    else (if p1 = 4 then (some (d_X3_length ln))
    else (if p1 = 5 then (ob1 (d_X4_countOf 320 4 1 fA 8 rA) fun r10 =>
    some r10)
    else (if p1 = 6 then (ob1 (d_X4_countOf 320 4 2 fA 8 rA) fun r13 =>
    some r13)
    else (if p1 = 7 then (ob1 (d_X4_sumOf 320 6 fA 8 rA) fun r16 =>
    some r16)
    else (if p1 = 8 then (ob1 (d_X4_sumOf 4 1 fS 2 2) fun r19 =>
    some r19)
    else (if p1 = 9 then (ob1 (d_X4_sumOf 16 1 fT 2 8) fun r22 =>
    some r22)
    else (if p1 = 10 then (ob1 (d_X0_tradersInDebt fT) fun r25 =>
    some r25)
    else (if p1 = 11 then (ob1 (d_X4_sumOf 320 7 fA 8 rA) fun r28 =>
    some r28)
    else (if p1 = 12 then (ob1 (d_X4_get 4 (p1 - 12) 0 fS 2) fun r31 =>
    some (r31 + 9))
    else (if p1 = 13 then (ob1 (d_X4_get 4 (p1 - 12) 0 fS 2) fun r34 =>
    some (r34 + 9))
    else (if p1 = 14 then (ob1 (d_X4_get 12 (p1 - 14) 0 fE 3) fun r37 =>
    some r37)
    else (if p1 = 15 then (ob1 (d_X4_get 12 (p1 - 14) 0 fE 3) fun r40 =>
    some r40)
    else (if p1 = 16 then (ob1 (d_X4_get 12 (p1 - 14) 0 fE 3) fun r43 =>
    some r43)
    else (if p1 = 17 then (ob1 (d_X4_get 12 (p1 - 14) 0 fE 3) fun r46 =>
    some r46)
    else (some (-2)))))))))))))))))))
set_option maxHeartbeats 4000000 in
set_option maxRecDepth 100000 in
theorem c_X0_tellCount (l : Launch) (D : va_G) (cI cC cE : ClassId) (h0 h1 h3 h5 h7 h9 h11 h2 h4 h6 h8 h10 h12 : Nat) (sz : Nat) (fT : Nat → Int32) (fR : Nat → Int32) (rR : Int32) (fA : Nat → Int32) (rA : Int32) (fS : Nat → Int32) (fE : Nat → Int32) (hd : Int32) (ln : Int32) (rnd : Int32) (p1 : Int32) (r0 : Int32) (h : d_X0_tellCount p1 fT fR rR fA rA fS fE ln rnd = some r0) : Met l yX0_tellCount wsX0_tellCount ({ frames := 2, cells := 0, slots := 0, locals := 47 } : Room) (kP D (kT cI cC cE) [.ref h0, .int p1] (w_X0_tellCount cI cC h0 h1 h3 h5 h7 h9 h11 h2 h4 h6 h8 h10 h12 fT fR rR fA rA fS fE hd ln rnd) sz) (kQi D (kT cI cC cE) (w_X0_tellCount cI cC h0 h1 h3 h5 h7 h9 h11 h2 h4 h6 h8 h10 h12 fT fR rR fA rA fS fE hd ln rnd) (w_X0_tellCount cI cC h0 h1 h3 h5 h7 h9 h11 h2 h4 h6 h8 h10 h12 fT fR rR fA rA fS fE hd ln rnd) sz r0) 0 0 (va_A (w_X0_tellCount cI cC h0 h1 h3 h5 h7 h9 h11 h2 h4 h6 h8 h10 h12 fT fR rR fA rA fS fE hd ln rnd) sz) := by
  refine kMetI (cc := cX0_tellCount) (maxL := 2) (own := RX0) (by decide) rfl (Nat.le_of_ble_eq_true rfl) rfl ?_
  intro p e s m below meth c A Q hx hb hml hown hts hP hK hD hA hS hname fin ls hl
  have hl : lv_has ls 2 [(0, .ref h0), (1, .int p1)] := hl
  have hiX0 : ∀ w ∈ u_ws RX0 TX0 7, w ∈ wsX0_tellCount := by decide +kernel
  dsimp only [d_X0_tellCount] at h
  refine lv_iload_n hx hb dX0_tellCount_0 rfl (lv_at hl 1 rfl) ?_
  by_cases c2 : p1 = 0
  · have h := (k_iB h).1 c2
    refine lv_tableIn (off := 87) (tgt := 88) hx hb dX0_tellCount_1 (by rw [c2]; decide) (by rw [c2]; decide) (by rw [c2]; rfl) (by decide) ?_
    refine lv_aload_n hx hb dX0_tellCount_88 rfl (lv_at hl 0 rfl) ?_
    refine va_get (ci := 0) (C := RX0) (T := TX0) (N := 7) hx hb hts hiX0 hown hK hP 0 rfl rfl 6 (by decide) (hts (.fieldLink RX0 57 "RiddleTrade$Exchange" "round" "I") (List.mem_of_getElem? (i := 1) rfl)) (fun _ h9 => h9) rfl dX0_tellCount_89 ?_
    obtain rfl := Option.some.inj h
    exact fin _ _ _ _ dX0_tellCount_92 hP hD hS
  · have h := (k_iB h).2 c2
    by_cases c3 : p1 = 1
    · have h := (k_iB h).1 c3
      refine lv_tableIn (off := 92) (tgt := 93) hx hb dX0_tellCount_1 (by rw [c3]; decide) (by rw [c3]; decide) (by rw [c3]; rfl) (by decide) ?_
      refine lv_aload_n hx hb dX0_tellCount_93 rfl (lv_at hl 0 rfl) ?_
      refine va_get (ci := 0) (C := RX0) (T := TX0) (N := 7) hx hb hts hiX0 hown hK hP 0 rfl rfl 1 (by decide) (hts (.fieldLink RX0 20 "RiddleTrade$Exchange" "riddles" "LRiddleTrade$Table;") (List.mem_of_getElem? (i := 2) rfl)) (fun _ h9 => h9) rfl dX0_tellCount_94 ?_
      refine kcVi (ci := 4) (q := (RX4, TX4, 3)) (ws1 := (w_X0_tellCount cI cC h0 h1 h3 h5 h7 h9 h11 h2 h4 h6 h8 h10 h12 fT fR rR fA rA fS fE hd ln rnd)) ⟨hx, hb, hml, hown, hts⟩ [3] [0, 1, 2, 4, 5, 6, 7, 8, 9, 10, 11] (c_X4_rows l D cI cC cE h3 h4 _ 4 rR (d_X4_rows rR) rfl) (cwV 0 hts gX0_tellCount_X4_rows rfl rfl rfl (by decide +kernel) ⟨Nat.le_of_ble_eq_true rfl, Nat.le_of_ble_eq_true rfl⟩) hK hP hD hS hA rfl rfl rfl rfl rfl rfl rfl rfl rfl hl.1 rfl (Nat.le_of_ble_eq_true rfl) dX0_tellCount_97 ⟨Nat.le_refl 0, Nat.le_refl 0⟩ (fun H locs hP hD hS => ?_)
      obtain rfl := Option.some.inj h
      exact fin _ _ _ _ dX0_tellCount_100 hP hD hS
    · have h := (k_iB h).2 c3
      by_cases c4 : p1 = 2
      · have h := (k_iB h).1 c4
        refine lv_tableIn (off := 100) (tgt := 101) hx hb dX0_tellCount_1 (by rw [c4]; decide) (by rw [c4]; decide) (by rw [c4]; rfl) (by decide) ?_
        refine lv_aload_n hx hb dX0_tellCount_101 rfl (lv_at hl 0 rfl) ?_
        refine va_get (ci := 0) (C := RX0) (T := TX0) (N := 7) hx hb hts hiX0 hown hK hP 0 rfl rfl 1 (by decide) (hts (.fieldLink RX0 20 "RiddleTrade$Exchange" "riddles" "LRiddleTrade$Table;") (List.mem_of_getElem? (i := 2) rfl)) (fun _ h9 => h9) rfl dX0_tellCount_102 ?_
        refine lv_iconst (v := 3) hx hb dX0_tellCount_105 (by decide) ?_
        refine lv_iconst (v := 0) hx hb dX0_tellCount_106 (by decide) ?_
        obtain ⟨r5, hu6, h⟩ := ob1_el h
        refine kcVi (ci := 4) (q := (RX4, TX4, 3)) (ws1 := (w_X0_tellCount cI cC h0 h1 h3 h5 h7 h9 h11 h2 h4 h6 h8 h10 h12 fT fR rR fA rA fS fE hd ln rnd)) ⟨hx, hb, hml, hown, hts⟩ [3, 4] [0, 1, 2, 5, 6, 7, 8, 9, 10, 11] (c_X4_countOf l D cI cC cE h3 h4 _ 80 fR 4 rR 3 0 r5 hu6) (cwV 2 hts gX0_tellCount_X4_countOf rfl rfl rfl (by decide +kernel) ⟨Nat.le_of_ble_eq_true rfl, Nat.le_of_ble_eq_true rfl⟩) hK hP hD hS hA rfl rfl rfl rfl rfl rfl rfl rfl rfl hl.1 rfl (Nat.le_of_ble_eq_true rfl) dX0_tellCount_107 ⟨Nat.le_refl 0, Nat.le_refl 0⟩ (fun H locs hP hD hS => ?_)
        obtain rfl := Option.some.inj h
        exact fin _ _ _ _ dX0_tellCount_110 hP hD hS
      · have h := (k_iB h).2 c4
        by_cases c7 : p1 = 3
        · have h := (k_iB h).1 c7
          refine lv_tableIn (off := 110) (tgt := 111) hx hb dX0_tellCount_1 (by rw [c7]; decide) (by rw [c7]; decide) (by rw [c7]; rfl) (by decide) ?_
          refine lv_aload_n hx hb dX0_tellCount_111 rfl (lv_at hl 0 rfl) ?_
          refine va_get (ci := 0) (C := RX0) (T := TX0) (N := 7) hx hb hts hiX0 hown hK hP 0 rfl rfl 2 (by decide) (hts (.fieldLink RX0 23 "RiddleTrade$Exchange" "answers" "LRiddleTrade$Table;") (List.mem_of_getElem? (i := 3) rfl)) (fun _ h9 => h9) rfl dX0_tellCount_112 ?_
          refine kcVi (ci := 4) (q := (RX4, TX4, 3)) (ws1 := (w_X0_tellCount cI cC h0 h1 h3 h5 h7 h9 h11 h2 h4 h6 h8 h10 h12 fT fR rR fA rA fS fE hd ln rnd)) ⟨hx, hb, hml, hown, hts⟩ [5] [0, 1, 2, 3, 4, 6, 7, 8, 9, 10, 11] (c_X4_rows l D cI cC cE h5 h6 _ 8 rA (d_X4_rows rA) rfl) (cwV 0 hts gX0_tellCount_X4_rows rfl rfl rfl (by decide +kernel) ⟨Nat.le_of_ble_eq_true rfl, Nat.le_of_ble_eq_true rfl⟩) hK hP hD hS hA rfl rfl rfl rfl rfl rfl rfl rfl rfl hl.1 rfl (Nat.le_of_ble_eq_true rfl) dX0_tellCount_115 ⟨Nat.le_refl 0, Nat.le_refl 0⟩ (fun H locs hP hD hS => ?_)
          obtain rfl := Option.some.inj h
          exact fin _ _ _ _ dX0_tellCount_118 hP hD hS
        · have h := (k_iB h).2 c7
          by_cases c8 : p1 = 4
          · have h := (k_iB h).1 c8
            refine lv_tableIn (off := 118) (tgt := 119) hx hb dX0_tellCount_1 (by rw [c8]; decide) (by rw [c8]; decide) (by rw [c8]; rfl) (by decide) ?_
            refine lv_aload_n hx hb dX0_tellCount_119 rfl (lv_at hl 0 rfl) ?_
            refine va_get (ci := 0) (C := RX0) (T := TX0) (N := 7) hx hb hts hiX0 hown hK hP 0 rfl rfl 5 (by decide) (hts (.fieldLink RX0 35 "RiddleTrade$Exchange" "row" "LRiddleTrade$Row;") (List.mem_of_getElem? (i := 4) rfl)) (fun _ h9 => h9) rfl dX0_tellCount_120 ?_
            refine kcVi (ci := 3) (q := (RX3, TX3, 3)) (ws1 := (w_X0_tellCount cI cC h0 h1 h3 h5 h7 h9 h11 h2 h4 h6 h8 h10 h12 fT fR rR fA rA fS fE hd ln rnd)) ⟨hx, hb, hml, hown, hts⟩ [11] [0, 1, 2, 3, 4, 5, 6, 7, 8, 9, 10] (c_X3_length l D cI cC cE h11 h12 _ hd ln (d_X3_length ln) rfl) (cwV 0 hts gX0_tellCount_X3_length rfl rfl rfl (by decide +kernel) ⟨Nat.le_of_ble_eq_true rfl, Nat.le_of_ble_eq_true rfl⟩) hK hP hD hS hA rfl rfl rfl rfl rfl rfl rfl rfl rfl hl.1 rfl (Nat.le_of_ble_eq_true rfl) dX0_tellCount_123 ⟨Nat.le_refl 0, Nat.le_refl 0⟩ (fun H locs hP hD hS => ?_)
            obtain rfl := Option.some.inj h
            exact fin _ _ _ _ dX0_tellCount_126 hP hD hS
          · have h := (k_iB h).2 c8
            by_cases c9 : p1 = 5
            · have h := (k_iB h).1 c9
              refine lv_tableIn (off := 126) (tgt := 127) hx hb dX0_tellCount_1 (by rw [c9]; decide) (by rw [c9]; decide) (by rw [c9]; rfl) (by decide) ?_
              refine lv_aload_n hx hb dX0_tellCount_127 rfl (lv_at hl 0 rfl) ?_
              refine va_get (ci := 0) (C := RX0) (T := TX0) (N := 7) hx hb hts hiX0 hown hK hP 0 rfl rfl 2 (by decide) (hts (.fieldLink RX0 23 "RiddleTrade$Exchange" "answers" "LRiddleTrade$Table;") (List.mem_of_getElem? (i := 3) rfl)) (fun _ h9 => h9) rfl dX0_tellCount_128 ?_
              refine lv_iconst (v := 4) hx hb dX0_tellCount_131 (by decide) ?_
              refine lv_iconst (v := 1) hx hb dX0_tellCount_132 (by decide) ?_
              obtain ⟨r10, hu11, h⟩ := ob1_el h
              refine kcVi (ci := 4) (q := (RX4, TX4, 3)) (ws1 := (w_X0_tellCount cI cC h0 h1 h3 h5 h7 h9 h11 h2 h4 h6 h8 h10 h12 fT fR rR fA rA fS fE hd ln rnd)) ⟨hx, hb, hml, hown, hts⟩ [5, 6] [0, 1, 2, 3, 4, 7, 8, 9, 10, 11] (c_X4_countOf l D cI cC cE h5 h6 _ 320 fA 8 rA 4 1 r10 hu11) (cwV 2 hts gX0_tellCount_X4_countOf rfl rfl rfl (by decide +kernel) ⟨Nat.le_of_ble_eq_true rfl, Nat.le_of_ble_eq_true rfl⟩) hK hP hD hS hA rfl rfl rfl rfl rfl rfl rfl rfl rfl hl.1 rfl (Nat.le_of_ble_eq_true rfl) dX0_tellCount_133 ⟨Nat.le_refl 0, Nat.le_refl 0⟩ (fun H locs hP hD hS => ?_)
              obtain rfl := Option.some.inj h
              exact fin _ _ _ _ dX0_tellCount_136 hP hD hS
            · have h := (k_iB h).2 c9
              by_cases c12 : p1 = 6
              · have h := (k_iB h).1 c12
                refine lv_tableIn (off := 136) (tgt := 137) hx hb dX0_tellCount_1 (by rw [c12]; decide) (by rw [c12]; decide) (by rw [c12]; rfl) (by decide) ?_
                refine lv_aload_n hx hb dX0_tellCount_137 rfl (lv_at hl 0 rfl) ?_
                refine va_get (ci := 0) (C := RX0) (T := TX0) (N := 7) hx hb hts hiX0 hown hK hP 0 rfl rfl 2 (by decide) (hts (.fieldLink RX0 23 "RiddleTrade$Exchange" "answers" "LRiddleTrade$Table;") (List.mem_of_getElem? (i := 3) rfl)) (fun _ h9 => h9) rfl dX0_tellCount_138 ?_
                refine lv_iconst (v := 4) hx hb dX0_tellCount_141 (by decide) ?_
                refine lv_iconst (v := 2) hx hb dX0_tellCount_142 (by decide) ?_
                obtain ⟨r13, hu14, h⟩ := ob1_el h
                refine kcVi (ci := 4) (q := (RX4, TX4, 3)) (ws1 := (w_X0_tellCount cI cC h0 h1 h3 h5 h7 h9 h11 h2 h4 h6 h8 h10 h12 fT fR rR fA rA fS fE hd ln rnd)) ⟨hx, hb, hml, hown, hts⟩ [5, 6] [0, 1, 2, 3, 4, 7, 8, 9, 10, 11] (c_X4_countOf l D cI cC cE h5 h6 _ 320 fA 8 rA 4 2 r13 hu14) (cwV 2 hts gX0_tellCount_X4_countOf rfl rfl rfl (by decide +kernel) ⟨Nat.le_of_ble_eq_true rfl, Nat.le_of_ble_eq_true rfl⟩) hK hP hD hS hA rfl rfl rfl rfl rfl rfl rfl rfl rfl hl.1 rfl (Nat.le_of_ble_eq_true rfl) dX0_tellCount_143 ⟨Nat.le_refl 0, Nat.le_refl 0⟩ (fun H locs hP hD hS => ?_)
                obtain rfl := Option.some.inj h
                exact fin _ _ _ _ dX0_tellCount_146 hP hD hS
              · have h := (k_iB h).2 c12
                by_cases c15 : p1 = 7
                · have h := (k_iB h).1 c15
                  refine lv_tableIn (off := 146) (tgt := 147) hx hb dX0_tellCount_1 (by rw [c15]; decide) (by rw [c15]; decide) (by rw [c15]; rfl) (by decide) ?_
                  refine lv_aload_n hx hb dX0_tellCount_147 rfl (lv_at hl 0 rfl) ?_
                  refine va_get (ci := 0) (C := RX0) (T := TX0) (N := 7) hx hb hts hiX0 hown hK hP 0 rfl rfl 2 (by decide) (hts (.fieldLink RX0 23 "RiddleTrade$Exchange" "answers" "LRiddleTrade$Table;") (List.mem_of_getElem? (i := 3) rfl)) (fun _ h9 => h9) rfl dX0_tellCount_148 ?_
                  refine lv_bipush (v := 6) hx hb dX0_tellCount_151 (by decide) ?_
                  obtain ⟨r16, hu17, h⟩ := ob1_el h
                  refine kcVi (ci := 4) (q := (RX4, TX4, 3)) (ws1 := (w_X0_tellCount cI cC h0 h1 h3 h5 h7 h9 h11 h2 h4 h6 h8 h10 h12 fT fR rR fA rA fS fE hd ln rnd)) ⟨hx, hb, hml, hown, hts⟩ [5, 6] [0, 1, 2, 3, 4, 7, 8, 9, 10, 11] (c_X4_sumOf l D cI cC cE h5 h6 _ 320 fA 8 rA 6 r16 hu17) (cwV 1 hts gX0_tellCount_X4_sumOf rfl rfl rfl (by decide +kernel) ⟨Nat.le_of_ble_eq_true rfl, Nat.le_of_ble_eq_true rfl⟩) hK hP hD hS hA rfl rfl rfl rfl rfl rfl rfl rfl rfl hl.1 rfl (Nat.le_of_ble_eq_true rfl) dX0_tellCount_153 ⟨Nat.le_refl 0, Nat.le_refl 0⟩ (fun H locs hP hD hS => ?_)
                  obtain rfl := Option.some.inj h
                  exact fin _ _ _ _ dX0_tellCount_156 hP hD hS
                · have h := (k_iB h).2 c15
                  by_cases c18 : p1 = 8
                  · have h := (k_iB h).1 c18
                    refine lv_tableIn (off := 156) (tgt := 157) hx hb dX0_tellCount_1 (by rw [c18]; decide) (by rw [c18]; decide) (by rw [c18]; rfl) (by decide) ?_
                    refine lv_aload_n hx hb dX0_tellCount_157 rfl (lv_at hl 0 rfl) ?_
                    refine va_get (ci := 0) (C := RX0) (T := TX0) (N := 7) hx hb hts hiX0 hown hK hP 0 rfl rfl 3 (by decide) (hts (.fieldLink RX0 26 "RiddleTrade$Exchange" "scales" "LRiddleTrade$Table;") (List.mem_of_getElem? (i := 5) rfl)) (fun _ h9 => h9) rfl dX0_tellCount_158 ?_
                    refine lv_iconst (v := 1) hx hb dX0_tellCount_161 (by decide) ?_
                    obtain ⟨r19, hu20, h⟩ := ob1_el h
                    refine kcVi (ci := 4) (q := (RX4, TX4, 3)) (ws1 := (w_X0_tellCount cI cC h0 h1 h3 h5 h7 h9 h11 h2 h4 h6 h8 h10 h12 fT fR rR fA rA fS fE hd ln rnd)) ⟨hx, hb, hml, hown, hts⟩ [7, 8] [0, 1, 2, 3, 4, 5, 6, 9, 10, 11] (c_X4_sumOf l D cI cC cE h7 h8 _ 4 fS 2 2 1 r19 hu20) (cwV 1 hts gX0_tellCount_X4_sumOf rfl rfl rfl (by decide +kernel) ⟨Nat.le_of_ble_eq_true rfl, Nat.le_of_ble_eq_true rfl⟩) hK hP hD hS hA rfl rfl rfl rfl rfl rfl rfl rfl rfl hl.1 rfl (Nat.le_of_ble_eq_true rfl) dX0_tellCount_162 ⟨Nat.le_refl 0, Nat.le_refl 0⟩ (fun H locs hP hD hS => ?_)
                    obtain rfl := Option.some.inj h
                    exact fin _ _ _ _ dX0_tellCount_165 hP hD hS
                  · have h := (k_iB h).2 c18
                    by_cases c21 : p1 = 9
                    · have h := (k_iB h).1 c21
                      refine lv_tableIn (off := 165) (tgt := 166) hx hb dX0_tellCount_1 (by rw [c21]; decide) (by rw [c21]; decide) (by rw [c21]; rfl) (by decide) ?_
                      refine lv_aload_n hx hb dX0_tellCount_166 rfl (lv_at hl 0 rfl) ?_
                      refine va_get (ci := 0) (C := RX0) (T := TX0) (N := 7) hx hb hts hiX0 hown hK hP 0 rfl rfl 0 (by decide) (hts (.fieldLink RX0 16 "RiddleTrade$Exchange" "traders" "LRiddleTrade$Table;") (List.mem_of_getElem? (i := 6) rfl)) (fun _ h9 => h9) rfl dX0_tellCount_167 ?_
                      refine lv_iconst (v := 1) hx hb dX0_tellCount_170 (by decide) ?_
                      obtain ⟨r22, hu23, h⟩ := ob1_el h
                      refine kcVi (ci := 4) (q := (RX4, TX4, 3)) (ws1 := (w_X0_tellCount cI cC h0 h1 h3 h5 h7 h9 h11 h2 h4 h6 h8 h10 h12 fT fR rR fA rA fS fE hd ln rnd)) ⟨hx, hb, hml, hown, hts⟩ [1, 2] [0, 3, 4, 5, 6, 7, 8, 9, 10, 11] (c_X4_sumOf l D cI cC cE h1 h2 _ 16 fT 2 8 1 r22 hu23) (cwV 1 hts gX0_tellCount_X4_sumOf rfl rfl rfl (by decide +kernel) ⟨Nat.le_of_ble_eq_true rfl, Nat.le_of_ble_eq_true rfl⟩) hK hP hD hS hA rfl rfl rfl rfl rfl rfl rfl rfl rfl hl.1 rfl (Nat.le_of_ble_eq_true rfl) dX0_tellCount_171 ⟨Nat.le_refl 0, Nat.le_refl 0⟩ (fun H locs hP hD hS => ?_)
                      obtain rfl := Option.some.inj h
                      exact fin _ _ _ _ dX0_tellCount_174 hP hD hS
                    · have h := (k_iB h).2 c21
                      by_cases c24 : p1 = 10
                      · have h := (k_iB h).1 c24
                        refine lv_tableIn (off := 174) (tgt := 175) hx hb dX0_tellCount_1 (by rw [c24]; decide) (by rw [c24]; decide) (by rw [c24]; rfl) (by decide) ?_
                        refine lv_aload_n hx hb dX0_tellCount_175 rfl (lv_at hl 0 rfl) ?_
                        obtain ⟨r25, hu26, h⟩ := ob1_el h
                        refine kcVi (ci := 0) (q := (RX0, TX0, 7)) (ws1 := (w_X0_tellCount cI cC h0 h1 h3 h5 h7 h9 h11 h2 h4 h6 h8 h10 h12 fT fR rR fA rA fS fE hd ln rnd)) ⟨hx, hb, hml, hown, hts⟩ [0, 1, 2] [3, 4, 5, 6, 7, 8, 9, 10, 11] (c_X0_tradersInDebt l D cI cC cE h0 h1 h3 h5 h7 h9 h11 h2 _ fT rnd r25 hu26) (cwV 0 hts gX0_tellCount_X0_tradersInDebt rfl rfl rfl (by decide +kernel) ⟨Nat.le_of_ble_eq_true rfl, Nat.le_of_ble_eq_true rfl⟩) hK hP hD hS hA rfl rfl rfl rfl rfl rfl rfl rfl rfl hl.1 rfl (Nat.le_of_ble_eq_true rfl) dX0_tellCount_176 ⟨Nat.le_refl 0, Nat.le_refl 0⟩ (fun H locs hP hD hS => ?_)
                        obtain rfl := Option.some.inj h
                        exact fin _ _ _ _ dX0_tellCount_179 hP hD hS
                      · have h := (k_iB h).2 c24
                        by_cases c27 : p1 = 11
                        · have h := (k_iB h).1 c27
                          refine lv_tableIn (off := 179) (tgt := 180) hx hb dX0_tellCount_1 (by rw [c27]; decide) (by rw [c27]; decide) (by rw [c27]; rfl) (by decide) ?_
                          refine lv_aload_n hx hb dX0_tellCount_180 rfl (lv_at hl 0 rfl) ?_
                          refine va_get (ci := 0) (C := RX0) (T := TX0) (N := 7) hx hb hts hiX0 hown hK hP 0 rfl rfl 2 (by decide) (hts (.fieldLink RX0 23 "RiddleTrade$Exchange" "answers" "LRiddleTrade$Table;") (List.mem_of_getElem? (i := 3) rfl)) (fun _ h9 => h9) rfl dX0_tellCount_181 ?_
                          refine lv_bipush (v := 7) hx hb dX0_tellCount_184 (by decide) ?_
                          obtain ⟨r28, hu29, h⟩ := ob1_el h
                          refine kcVi (ci := 4) (q := (RX4, TX4, 3)) (ws1 := (w_X0_tellCount cI cC h0 h1 h3 h5 h7 h9 h11 h2 h4 h6 h8 h10 h12 fT fR rR fA rA fS fE hd ln rnd)) ⟨hx, hb, hml, hown, hts⟩ [5, 6] [0, 1, 2, 3, 4, 7, 8, 9, 10, 11] (c_X4_sumOf l D cI cC cE h5 h6 _ 320 fA 8 rA 7 r28 hu29) (cwV 1 hts gX0_tellCount_X4_sumOf rfl rfl rfl (by decide +kernel) ⟨Nat.le_of_ble_eq_true rfl, Nat.le_of_ble_eq_true rfl⟩) hK hP hD hS hA rfl rfl rfl rfl rfl rfl rfl rfl rfl hl.1 rfl (Nat.le_of_ble_eq_true rfl) dX0_tellCount_186 ⟨Nat.le_refl 0, Nat.le_refl 0⟩ (fun H locs hP hD hS => ?_)
                          obtain rfl := Option.some.inj h
                          exact fin _ _ _ _ dX0_tellCount_189 hP hD hS
                        · have h := (k_iB h).2 c27
                          by_cases c30 : p1 = 12
                          · have h := (k_iB h).1 c30
                            refine lv_tableIn (off := 189) (tgt := 190) hx hb dX0_tellCount_1 (by rw [c30]; decide) (by rw [c30]; decide) (by rw [c30]; rfl) (by decide) ?_
                            refine lv_aload_n hx hb dX0_tellCount_190 rfl (lv_at hl 0 rfl) ?_
                            refine va_get (ci := 0) (C := RX0) (T := TX0) (N := 7) hx hb hts hiX0 hown hK hP 0 rfl rfl 3 (by decide) (hts (.fieldLink RX0 26 "RiddleTrade$Exchange" "scales" "LRiddleTrade$Table;") (List.mem_of_getElem? (i := 5) rfl)) (fun _ h9 => h9) rfl dX0_tellCount_191 ?_
                            refine lv_iload_n hx hb dX0_tellCount_194 rfl (lv_at hl 1 rfl) ?_
                            refine lv_bipush (v := 12) hx hb dX0_tellCount_195 (by decide) ?_
                            refine lv_isub hx hb dX0_tellCount_197 ?_
                            refine lv_iconst (v := 0) hx hb dX0_tellCount_198 (by decide) ?_
                            obtain ⟨r31, hu32, h⟩ := ob1_el h
                            refine kcVi (ci := 4) (q := (RX4, TX4, 3)) (ws1 := (w_X0_tellCount cI cC h0 h1 h3 h5 h7 h9 h11 h2 h4 h6 h8 h10 h12 fT fR rR fA rA fS fE hd ln rnd)) ⟨hx, hb, hml, hown, hts⟩ [7, 8] [0, 1, 2, 3, 4, 5, 6, 9, 10, 11] (c_X4_get l D cI cC cE h7 h8 _ 4 fS 2 2 (p1 - 12) 0 r31 hu32) (cwV 2 hts gX0_tellCount_X4_get rfl rfl rfl (by decide +kernel) ⟨Nat.le_of_ble_eq_true rfl, Nat.le_of_ble_eq_true rfl⟩) hK hP hD hS hA rfl rfl rfl rfl rfl rfl rfl rfl rfl hl.1 rfl (Nat.le_of_ble_eq_true rfl) dX0_tellCount_199 ⟨Nat.le_refl 0, Nat.le_refl 0⟩ (fun H locs hP hD hS => ?_)
                            refine lv_bipush (v := 9) hx hb dX0_tellCount_202 (by decide) ?_
                            refine lv_iadd hx hb dX0_tellCount_204 ?_
                            obtain rfl := Option.some.inj h
                            exact fin _ _ _ _ dX0_tellCount_205 hP hD hS
                          · have h := (k_iB h).2 c30
                            by_cases c33 : p1 = 13
                            · have h := (k_iB h).1 c33
                              refine lv_tableIn (off := 189) (tgt := 190) hx hb dX0_tellCount_1 (by rw [c33]; decide) (by rw [c33]; decide) (by rw [c33]; rfl) (by decide) ?_
                              refine lv_aload_n hx hb dX0_tellCount_190 rfl (lv_at hl 0 rfl) ?_
                              refine va_get (ci := 0) (C := RX0) (T := TX0) (N := 7) hx hb hts hiX0 hown hK hP 0 rfl rfl 3 (by decide) (hts (.fieldLink RX0 26 "RiddleTrade$Exchange" "scales" "LRiddleTrade$Table;") (List.mem_of_getElem? (i := 5) rfl)) (fun _ h9 => h9) rfl dX0_tellCount_191 ?_
                              refine lv_iload_n hx hb dX0_tellCount_194 rfl (lv_at hl 1 rfl) ?_
                              refine lv_bipush (v := 12) hx hb dX0_tellCount_195 (by decide) ?_
                              refine lv_isub hx hb dX0_tellCount_197 ?_
                              refine lv_iconst (v := 0) hx hb dX0_tellCount_198 (by decide) ?_
                              obtain ⟨r34, hu35, h⟩ := ob1_el h
                              refine kcVi (ci := 4) (q := (RX4, TX4, 3)) (ws1 := (w_X0_tellCount cI cC h0 h1 h3 h5 h7 h9 h11 h2 h4 h6 h8 h10 h12 fT fR rR fA rA fS fE hd ln rnd)) ⟨hx, hb, hml, hown, hts⟩ [7, 8] [0, 1, 2, 3, 4, 5, 6, 9, 10, 11] (c_X4_get l D cI cC cE h7 h8 _ 4 fS 2 2 (p1 - 12) 0 r34 hu35) (cwV 2 hts gX0_tellCount_X4_get rfl rfl rfl (by decide +kernel) ⟨Nat.le_of_ble_eq_true rfl, Nat.le_of_ble_eq_true rfl⟩) hK hP hD hS hA rfl rfl rfl rfl rfl rfl rfl rfl rfl hl.1 rfl (Nat.le_of_ble_eq_true rfl) dX0_tellCount_199 ⟨Nat.le_refl 0, Nat.le_refl 0⟩ (fun H locs hP hD hS => ?_)
                              refine lv_bipush (v := 9) hx hb dX0_tellCount_202 (by decide) ?_
                              refine lv_iadd hx hb dX0_tellCount_204 ?_
                              obtain rfl := Option.some.inj h
                              exact fin _ _ _ _ dX0_tellCount_205 hP hD hS
                            · have h := (k_iB h).2 c33
                              by_cases c36 : p1 = 14
                              · have h := (k_iB h).1 c36
                                refine lv_tableIn (off := 205) (tgt := 206) hx hb dX0_tellCount_1 (by rw [c36]; decide) (by rw [c36]; decide) (by rw [c36]; rfl) (by decide) ?_
                                refine lv_aload_n hx hb dX0_tellCount_206 rfl (lv_at hl 0 rfl) ?_
                                refine va_get (ci := 0) (C := RX0) (T := TX0) (N := 7) hx hb hts hiX0 hown hK hP 0 rfl rfl 4 (by decide) (hts (.fieldLink RX0 29 "RiddleTrade$Exchange" "settings" "LRiddleTrade$Table;") (List.mem_of_getElem? (i := 7) rfl)) (fun _ h9 => h9) rfl dX0_tellCount_207 ?_
                                refine lv_iload_n hx hb dX0_tellCount_210 rfl (lv_at hl 1 rfl) ?_
                                refine lv_bipush (v := 14) hx hb dX0_tellCount_211 (by decide) ?_
                                refine lv_isub hx hb dX0_tellCount_213 ?_
                                refine lv_iconst (v := 0) hx hb dX0_tellCount_214 (by decide) ?_
                                obtain ⟨r37, hu38, h⟩ := ob1_el h
                                refine kcVi (ci := 4) (q := (RX4, TX4, 3)) (ws1 := (w_X0_tellCount cI cC h0 h1 h3 h5 h7 h9 h11 h2 h4 h6 h8 h10 h12 fT fR rR fA rA fS fE hd ln rnd)) ⟨hx, hb, hml, hown, hts⟩ [9, 10] [0, 1, 2, 3, 4, 5, 6, 7, 8, 11] (c_X4_get l D cI cC cE h9 h10 _ 12 fE 3 4 (p1 - 14) 0 r37 hu38) (cwV 2 hts gX0_tellCount_X4_get rfl rfl rfl (by decide +kernel) ⟨Nat.le_of_ble_eq_true rfl, Nat.le_of_ble_eq_true rfl⟩) hK hP hD hS hA rfl rfl rfl rfl rfl rfl rfl rfl rfl hl.1 rfl (Nat.le_of_ble_eq_true rfl) dX0_tellCount_215 ⟨Nat.le_refl 0, Nat.le_refl 0⟩ (fun H locs hP hD hS => ?_)
                                obtain rfl := Option.some.inj h
                                exact fin _ _ _ _ dX0_tellCount_218 hP hD hS
                              · have h := (k_iB h).2 c36
                                by_cases c39 : p1 = 15
                                · have h := (k_iB h).1 c39
                                  refine lv_tableIn (off := 205) (tgt := 206) hx hb dX0_tellCount_1 (by rw [c39]; decide) (by rw [c39]; decide) (by rw [c39]; rfl) (by decide) ?_
                                  refine lv_aload_n hx hb dX0_tellCount_206 rfl (lv_at hl 0 rfl) ?_
                                  refine va_get (ci := 0) (C := RX0) (T := TX0) (N := 7) hx hb hts hiX0 hown hK hP 0 rfl rfl 4 (by decide) (hts (.fieldLink RX0 29 "RiddleTrade$Exchange" "settings" "LRiddleTrade$Table;") (List.mem_of_getElem? (i := 7) rfl)) (fun _ h9 => h9) rfl dX0_tellCount_207 ?_
                                  refine lv_iload_n hx hb dX0_tellCount_210 rfl (lv_at hl 1 rfl) ?_
                                  refine lv_bipush (v := 14) hx hb dX0_tellCount_211 (by decide) ?_
                                  refine lv_isub hx hb dX0_tellCount_213 ?_
                                  refine lv_iconst (v := 0) hx hb dX0_tellCount_214 (by decide) ?_
                                  obtain ⟨r40, hu41, h⟩ := ob1_el h
                                  refine kcVi (ci := 4) (q := (RX4, TX4, 3)) (ws1 := (w_X0_tellCount cI cC h0 h1 h3 h5 h7 h9 h11 h2 h4 h6 h8 h10 h12 fT fR rR fA rA fS fE hd ln rnd)) ⟨hx, hb, hml, hown, hts⟩ [9, 10] [0, 1, 2, 3, 4, 5, 6, 7, 8, 11] (c_X4_get l D cI cC cE h9 h10 _ 12 fE 3 4 (p1 - 14) 0 r40 hu41) (cwV 2 hts gX0_tellCount_X4_get rfl rfl rfl (by decide +kernel) ⟨Nat.le_of_ble_eq_true rfl, Nat.le_of_ble_eq_true rfl⟩) hK hP hD hS hA rfl rfl rfl rfl rfl rfl rfl rfl rfl hl.1 rfl (Nat.le_of_ble_eq_true rfl) dX0_tellCount_215 ⟨Nat.le_refl 0, Nat.le_refl 0⟩ (fun H locs hP hD hS => ?_)
                                  obtain rfl := Option.some.inj h
                                  exact fin _ _ _ _ dX0_tellCount_218 hP hD hS
                                · have h := (k_iB h).2 c39
                                  by_cases c42 : p1 = 16
                                  · have h := (k_iB h).1 c42
                                    refine lv_tableIn (off := 205) (tgt := 206) hx hb dX0_tellCount_1 (by rw [c42]; decide) (by rw [c42]; decide) (by rw [c42]; rfl) (by decide) ?_
                                    refine lv_aload_n hx hb dX0_tellCount_206 rfl (lv_at hl 0 rfl) ?_
                                    refine va_get (ci := 0) (C := RX0) (T := TX0) (N := 7) hx hb hts hiX0 hown hK hP 0 rfl rfl 4 (by decide) (hts (.fieldLink RX0 29 "RiddleTrade$Exchange" "settings" "LRiddleTrade$Table;") (List.mem_of_getElem? (i := 7) rfl)) (fun _ h9 => h9) rfl dX0_tellCount_207 ?_
                                    refine lv_iload_n hx hb dX0_tellCount_210 rfl (lv_at hl 1 rfl) ?_
                                    refine lv_bipush (v := 14) hx hb dX0_tellCount_211 (by decide) ?_
                                    refine lv_isub hx hb dX0_tellCount_213 ?_
                                    refine lv_iconst (v := 0) hx hb dX0_tellCount_214 (by decide) ?_
                                    obtain ⟨r43, hu44, h⟩ := ob1_el h
                                    refine kcVi (ci := 4) (q := (RX4, TX4, 3)) (ws1 := (w_X0_tellCount cI cC h0 h1 h3 h5 h7 h9 h11 h2 h4 h6 h8 h10 h12 fT fR rR fA rA fS fE hd ln rnd)) ⟨hx, hb, hml, hown, hts⟩ [9, 10] [0, 1, 2, 3, 4, 5, 6, 7, 8, 11] (c_X4_get l D cI cC cE h9 h10 _ 12 fE 3 4 (p1 - 14) 0 r43 hu44) (cwV 2 hts gX0_tellCount_X4_get rfl rfl rfl (by decide +kernel) ⟨Nat.le_of_ble_eq_true rfl, Nat.le_of_ble_eq_true rfl⟩) hK hP hD hS hA rfl rfl rfl rfl rfl rfl rfl rfl rfl hl.1 rfl (Nat.le_of_ble_eq_true rfl) dX0_tellCount_215 ⟨Nat.le_refl 0, Nat.le_refl 0⟩ (fun H locs hP hD hS => ?_)
                                    obtain rfl := Option.some.inj h
                                    exact fin _ _ _ _ dX0_tellCount_218 hP hD hS
                                  · have h := (k_iB h).2 c42
                                    by_cases c45 : p1 = 17
                                    · have h := (k_iB h).1 c45
                                      refine lv_tableIn (off := 205) (tgt := 206) hx hb dX0_tellCount_1 (by rw [c45]; decide) (by rw [c45]; decide) (by rw [c45]; rfl) (by decide) ?_
                                      refine lv_aload_n hx hb dX0_tellCount_206 rfl (lv_at hl 0 rfl) ?_
                                      refine va_get (ci := 0) (C := RX0) (T := TX0) (N := 7) hx hb hts hiX0 hown hK hP 0 rfl rfl 4 (by decide) (hts (.fieldLink RX0 29 "RiddleTrade$Exchange" "settings" "LRiddleTrade$Table;") (List.mem_of_getElem? (i := 7) rfl)) (fun _ h9 => h9) rfl dX0_tellCount_207 ?_
                                      refine lv_iload_n hx hb dX0_tellCount_210 rfl (lv_at hl 1 rfl) ?_
                                      refine lv_bipush (v := 14) hx hb dX0_tellCount_211 (by decide) ?_
                                      refine lv_isub hx hb dX0_tellCount_213 ?_
                                      refine lv_iconst (v := 0) hx hb dX0_tellCount_214 (by decide) ?_
                                      obtain ⟨r46, hu47, h⟩ := ob1_el h
                                      refine kcVi (ci := 4) (q := (RX4, TX4, 3)) (ws1 := (w_X0_tellCount cI cC h0 h1 h3 h5 h7 h9 h11 h2 h4 h6 h8 h10 h12 fT fR rR fA rA fS fE hd ln rnd)) ⟨hx, hb, hml, hown, hts⟩ [9, 10] [0, 1, 2, 3, 4, 5, 6, 7, 8, 11] (c_X4_get l D cI cC cE h9 h10 _ 12 fE 3 4 (p1 - 14) 0 r46 hu47) (cwV 2 hts gX0_tellCount_X4_get rfl rfl rfl (by decide +kernel) ⟨Nat.le_of_ble_eq_true rfl, Nat.le_of_ble_eq_true rfl⟩) hK hP hD hS hA rfl rfl rfl rfl rfl rfl rfl rfl rfl hl.1 rfl (Nat.le_of_ble_eq_true rfl) dX0_tellCount_215 ⟨Nat.le_refl 0, Nat.le_refl 0⟩ (fun H locs hP hD hS => ?_)
                                      obtain rfl := Option.some.inj h
                                      exact fin _ _ _ _ dX0_tellCount_218 hP hD hS
                                    · have h := (k_iB h).2 c45
                                      refine lv_tableOut (tgt := 219) hx hb dX0_tellCount_1 (by have zc2 := lv_neT c2 (show ((0 : Int32)).toInt = 0 from rfl); have zc3 := lv_neT c3 (show ((1 : Int32)).toInt = 1 from rfl); have zc4 := lv_neT c4 (show ((2 : Int32)).toInt = 2 from rfl); have zc7 := lv_neT c7 (show ((3 : Int32)).toInt = 3 from rfl); have zc8 := lv_neT c8 (show ((4 : Int32)).toInt = 4 from rfl); have zc9 := lv_neT c9 (show ((5 : Int32)).toInt = 5 from rfl); have zc12 := lv_neT c12 (show ((6 : Int32)).toInt = 6 from rfl); have zc15 := lv_neT c15 (show ((7 : Int32)).toInt = 7 from rfl); have zc18 := lv_neT c18 (show ((8 : Int32)).toInt = 8 from rfl); have zc21 := lv_neT c21 (show ((9 : Int32)).toInt = 9 from rfl); have zc24 := lv_neT c24 (show ((10 : Int32)).toInt = 10 from rfl); have zc27 := lv_neT c27 (show ((11 : Int32)).toInt = 11 from rfl); have zc30 := lv_neT c30 (show ((12 : Int32)).toInt = 12 from rfl); have zc33 := lv_neT c33 (show ((13 : Int32)).toInt = 13 from rfl); have zc36 := lv_neT c36 (show ((14 : Int32)).toInt = 14 from rfl); have zc39 := lv_neT c39 (show ((15 : Int32)).toInt = 15 from rfl); have zc42 := lv_neT c42 (show ((16 : Int32)).toInt = 16 from rfl); have zc45 := lv_neT c45 (show ((17 : Int32)).toInt = 17 from rfl); omega) (by decide) ?_
                                      refine lv_bipush (v := (-2)) hx hb dX0_tellCount_219 (by decide) ?_
                                      obtain rfl := Option.some.inj h
                                      exact fin _ _ _ _ dX0_tellCount_221 hP hD hS
