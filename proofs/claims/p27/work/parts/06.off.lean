abbrev w_X2_textLength (cI cC : ClassId) (h0 h1 h2 : Nat) (len : Int32) (pos : Int32) (bad : Int32) : va_W := [(h0, .inr (2, [.ref h1, .ref h2, .int len, .int pos, .int bad]))]
def d_X2_textLength (len : Int32) : Int32 :=
    len
set_option maxHeartbeats 4000000 in
set_option maxRecDepth 100000 in
theorem c_X2_textLength (l : Launch) (D : va_G) (cI cC cE : ClassId) (h0 h1 h2 : Nat) (sz : Nat) (len : Int32) (pos : Int32) (bad : Int32) (r0 : Int32) (h : d_X2_textLength len = r0) : Met l yX2_textLength wsX2_textLength ({ frames := 0, cells := 0, slots := 0, locals := 0 } : Room) (kP D (kT cI cC cE) [.ref h0] (w_X2_textLength cI cC h0 h1 h2 len pos bad) sz) (kQi D (kT cI cC cE) (w_X2_textLength cI cC h0 h1 h2 len pos bad) (w_X2_textLength cI cC h0 h1 h2 len pos bad) sz r0) 0 0 (va_A (w_X2_textLength cI cC h0 h1 h2 len pos bad) sz) := by
  refine kMetI (cc := cX2_textLength) (maxL := 1) (own := RX2) (by decide) rfl (Nat.le_of_ble_eq_true rfl) rfl ?_
  intro p e s m below meth c A Q hx hb hml hown hts hP hK hD hA hS hname fin ls hl
  have hl : lv_has ls 1 [(0, .ref h0)] := hl
  have hiX2 : ∀ w ∈ u_ws RX2 TX2 5, w ∈ wsX2_textLength := by decide +kernel
  dsimp only [d_X2_textLength] at h
  refine lv_aload_n hx hb dX2_textLength_0 rfl (lv_at hl 0 rfl) ?_
  refine va_get (ci := 2) (C := RX2) (T := TX2) (N := 5) hx hb hts hiX2 hown hK hP 0 rfl rfl 2 (by decide) (hts (.fieldLink RX2 24 "RiddleTrade$Offers" "length" "I") (List.mem_of_getElem? (i := 1) rfl)) (fun _ h9 => h9) rfl dX2_textLength_1 ?_
  obtain rfl := h
  exact fin _ _ _ _ dX2_textLength_4 hP hD hS
abbrev w_X2_addCharacter (cI cC : ClassId) (h0 h1 h2 : Nat) (ft : Nat → Int32) (len : Int32) (pos : Int32) (bad : Int32) : va_W := [(h0, .inr (2, [.ref h1, .ref h2, .int len, .int pos, .int bad])), (h1, .inl (cC, 60, .inl ft))]
def d_X2_addCharacter (p1 : Int32) (ft : Nat → Int32) (len : Int32) : Option (Int32 × (Nat → Int32) × Int32) :=
    if len < 0 then (some ((-3), ft, len))
    else (if len < 60 then (ob1 (wr 60 ft len (vp_nar .char p1)) fun ft_3 =>
    some ((len + 1), ft_3, (len + 1)))
    else (some ((-3), ft, len)))
set_option maxHeartbeats 4000000 in
set_option maxRecDepth 100000 in
theorem c_X2_addCharacter (l : Launch) (D : va_G) (cI cC cE : ClassId) (h0 h1 h2 : Nat) (sz : Nat) (ft : Nat → Int32) (len : Int32) (pos : Int32) (bad : Int32) (p1 : Int32) (r0 : Int32) (o_ft : Nat → Int32) (o_len : Int32) (h : d_X2_addCharacter p1 ft len = some (r0, o_ft, o_len)) : Met l yX2_addCharacter wsX2_addCharacter ({ frames := 0, cells := 0, slots := 0, locals := 0 } : Room) (kP D (kT cI cC cE) [.ref h0, .int p1] (w_X2_addCharacter cI cC h0 h1 h2 ft len pos bad) sz) (kQi D (kT cI cC cE) (w_X2_addCharacter cI cC h0 h1 h2 ft len pos bad) (w_X2_addCharacter cI cC h0 h1 h2 o_ft o_len pos bad) sz r0) 0 0 (va_A (w_X2_addCharacter cI cC h0 h1 h2 ft len pos bad) sz) := by
  refine kMetI (cc := cX2_addCharacter) (maxL := 2) (own := RX2) (by decide) rfl (Nat.le_of_ble_eq_true rfl) rfl ?_
  intro p e s m below meth c A Q hx hb hml hown hts hP hK hD hA hS hname fin ls hl
  have hl : lv_has ls 2 [(0, .ref h0), (1, .int p1)] := hl
  have hiX2 : ∀ w ∈ u_ws RX2 TX2 5, w ∈ wsX2_addCharacter := by decide +kernel
  dsimp only [d_X2_addCharacter] at h
  refine lv_aload_n hx hb dX2_addCharacter_0 rfl (lv_at hl 0 rfl) ?_
  refine va_get (ci := 2) (C := RX2) (T := TX2) (N := 5) hx hb hts hiX2 hown hK hP 0 rfl rfl 2 (by decide) (hts (.fieldLink RX2 24 "RiddleTrade$Offers" "length" "I") (List.mem_of_getElem? (i := 1) rfl)) (fun _ h9 => h9) rfl dX2_addCharacter_1 ?_
  refine lv_if_lt (tgt := 19) hx hb dX2_addCharacter_4 (by decide) (fun c1 => ?_) (fun c1 => ?_)
  · have h := (k_iB h).1 c1
    refine lv_bipush (v := (-3)) hx hb dX2_addCharacter_19 (by decide) ?_
    obtain ⟨rfl, rfl, rfl⟩ := inj3 (Option.some.inj h)
    exact fin _ _ _ _ dX2_addCharacter_21 hP hD hS
  · have h := (k_iB h).2 c1
    refine lv_aload_n hx hb dX2_addCharacter_7 rfl (lv_at hl 0 rfl) ?_
    refine va_get (ci := 2) (C := RX2) (T := TX2) (N := 5) hx hb hts hiX2 hown hK hP 0 rfl rfl 2 (by decide) (hts (.fieldLink RX2 24 "RiddleTrade$Offers" "length" "I") (List.mem_of_getElem? (i := 1) rfl)) (fun _ h9 => h9) rfl dX2_addCharacter_8 ?_
    refine lv_aload_n hx hb dX2_addCharacter_11 rfl (lv_at hl 0 rfl) ?_
    refine va_get (ci := 2) (C := RX2) (T := TX2) (N := 5) hx hb hts hiX2 hown hK hP 0 rfl rfl 0 (by decide) (hts (.fieldLink RX2 9 "RiddleTrade$Offers" "text" "[C") (List.mem_of_getElem? (i := 2) rfl)) (fun _ h9 => h9) rfl dX2_addCharacter_12 ?_
    refine va_alen (v := 60) hx hb hK hP 1 1 rfl rfl (show Int32.ofNat 60 = 60 from rfl) dX2_addCharacter_15 ?_
    refine lv_icmp_lt (tgt := 22) hx hb dX2_addCharacter_16 (by decide) (fun c2 => ?_) (fun c2 => ?_)
    · have h := (k_iB h).1 c2
      refine lv_aload_n hx hb dX2_addCharacter_22 rfl (lv_at hl 0 rfl) ?_
      refine va_get (ci := 2) (C := RX2) (T := TX2) (N := 5) hx hb hts hiX2 hown hK hP 0 rfl rfl 0 (by decide) (hts (.fieldLink RX2 9 "RiddleTrade$Offers" "text" "[C") (List.mem_of_getElem? (i := 2) rfl)) (fun _ h9 => h9) rfl dX2_addCharacter_23 ?_
      refine lv_aload_n hx hb dX2_addCharacter_26 rfl (lv_at hl 0 rfl) ?_
      refine va_get (ci := 2) (C := RX2) (T := TX2) (N := 5) hx hb hts hiX2 hown hK hP 0 rfl rfl 2 (by decide) (hts (.fieldLink RX2 24 "RiddleTrade$Offers" "length" "I") (List.mem_of_getElem? (i := 1) rfl)) (fun _ h9 => h9) rfl dX2_addCharacter_27 ?_
      refine lv_iload_n hx hb dX2_addCharacter_30 rfl (lv_at hl 1 rfl) ?_
      refine k_cast hx hb hK hP hD hS 1 1 rfl rfl h dX2_addCharacter_31 (fun ft_3 H locs hP hD hS h => ?_)
      have hP : va_P D vwCl (w_X2_addCharacter cI cC h0 h1 h2 ft_3 len pos bad) H := hP
      have hD : va_D A (w_X2_addCharacter cI cC h0 h1 h2 ft_3 len pos bad) := hD
      refine lv_aload_n hx hb dX2_addCharacter_32 rfl (lv_at hl 0 rfl) ?_
      refine lv_dup hx hb dX2_addCharacter_33 rfl ?_
      refine va_get (ci := 2) (C := RX2) (T := TX2) (N := 5) hx hb hts hiX2 hown hK hP 0 rfl rfl 2 (by decide) (hts (.fieldLink RX2 24 "RiddleTrade$Offers" "length" "I") (List.mem_of_getElem? (i := 1) rfl)) (fun _ h9 => h9) rfl dX2_addCharacter_34 ?_
      refine lv_iconst (v := 1) hx hb dX2_addCharacter_37 (by decide) ?_
      refine lv_iadd hx hb dX2_addCharacter_38 ?_
      refine va_put (ci := 2) (ty := .int) (C := RX2) (T := TX2) (N := 5) hx hb hts hiX2 tyX2 tyX2_ok nmX2 hown hK hP hD hS 0 rfl rfl 2 (by decide) (hts (.fieldLink RX2 24 "RiddleTrade$Offers" "length" "I") (List.mem_of_getElem? (i := 1) rfl)) (fun _ h9 => h9) rfl (by decide +kernel) rfl rfl (Nat.le_of_ble_eq_true rfl) dX2_addCharacter_39 (fun H locs hP hD hS => ?_)
      have hP : va_P D vwCl (w_X2_addCharacter cI cC h0 h1 h2 ft_3 (len + 1) pos bad) H := hP
      have hD : va_D A (w_X2_addCharacter cI cC h0 h1 h2 ft_3 (len + 1) pos bad) := hD
      refine lv_aload_n hx hb dX2_addCharacter_42 rfl (lv_at hl 0 rfl) ?_
      refine va_get (ci := 2) (C := RX2) (T := TX2) (N := 5) hx hb hts hiX2 hown hK hP 0 rfl rfl 2 (by decide) (hts (.fieldLink RX2 24 "RiddleTrade$Offers" "length" "I") (List.mem_of_getElem? (i := 1) rfl)) (fun _ h9 => h9) rfl dX2_addCharacter_43 ?_
      obtain ⟨rfl, rfl, rfl⟩ := inj3 (Option.some.inj h)
      exact fin _ _ _ _ dX2_addCharacter_46 hP hD hS
    · have h := (k_iB h).2 c2
      refine lv_bipush (v := (-3)) hx hb dX2_addCharacter_19 (by decide) ?_
      obtain ⟨rfl, rfl, rfl⟩ := inj3 (Option.some.inj h)
      exact fin _ _ _ _ dX2_addCharacter_21 hP hD hS
abbrev w_X2_emptyText (cI cC : ClassId) (h0 h1 h2 : Nat) (len : Int32) (pos : Int32) (bad : Int32) : va_W := [(h0, .inr (2, [.ref h1, .ref h2, .int len, .int pos, .int bad]))]
def d_X2_emptyText (len : Int32) : Int32 × Int32 :=
    (len, 0)
set_option maxHeartbeats 4000000 in
set_option maxRecDepth 100000 in
theorem c_X2_emptyText (l : Launch) (D : va_G) (cI cC cE : ClassId) (h0 h1 h2 : Nat) (sz : Nat) (len : Int32) (pos : Int32) (bad : Int32) (r0 : Int32) (o_len : Int32) (h : d_X2_emptyText len = (r0, o_len)) : Met l yX2_emptyText wsX2_emptyText ({ frames := 0, cells := 0, slots := 0, locals := 0 } : Room) (kP D (kT cI cC cE) [.ref h0] (w_X2_emptyText cI cC h0 h1 h2 len pos bad) sz) (kQi D (kT cI cC cE) (w_X2_emptyText cI cC h0 h1 h2 len pos bad) (w_X2_emptyText cI cC h0 h1 h2 o_len pos bad) sz r0) 0 0 (va_A (w_X2_emptyText cI cC h0 h1 h2 len pos bad) sz) := by
  refine kMetI (cc := cX2_emptyText) (maxL := 2) (own := RX2) (by decide) rfl (Nat.le_of_ble_eq_true rfl) rfl ?_
  intro p e s m below meth c A Q hx hb hml hown hts hP hK hD hA hS hname fin ls hl
  have hl : lv_has ls 2 [(0, .ref h0)] := hl
  have hiX2 : ∀ w ∈ u_ws RX2 TX2 5, w ∈ wsX2_emptyText := by decide +kernel
  dsimp only [d_X2_emptyText] at h
  refine lv_aload_n hx hb dX2_emptyText_0 rfl (lv_at hl 0 rfl) ?_
  refine va_get (ci := 2) (C := RX2) (T := TX2) (N := 5) hx hb hts hiX2 hown hK hP 0 rfl rfl 2 (by decide) (hts (.fieldLink RX2 24 "RiddleTrade$Offers" "length" "I") (List.mem_of_getElem? (i := 1) rfl)) (fun _ h9 => h9) rfl dX2_emptyText_1 ?_
  refine lv_istore_n (lv' := [(1, .int len), (0, .ref h0)]) hx hb dX2_emptyText_4 rfl hl (by decide) rfl (fun ls hl => ?_)
  refine lv_aload_n hx hb dX2_emptyText_5 rfl (lv_at hl 1 rfl) ?_
  refine lv_iconst (v := 0) hx hb dX2_emptyText_6 (by decide) ?_
  refine va_put (ci := 2) (ty := .int) (C := RX2) (T := TX2) (N := 5) hx hb hts hiX2 tyX2 tyX2_ok nmX2 hown hK hP hD hS 0 rfl rfl 2 (by decide) (hts (.fieldLink RX2 24 "RiddleTrade$Offers" "length" "I") (List.mem_of_getElem? (i := 1) rfl)) (fun _ h9 => h9) rfl (by decide +kernel) rfl rfl (Nat.le_of_ble_eq_true rfl) dX2_emptyText_7 (fun H locs hP hD hS => ?_)
  have hP : va_P D vwCl (w_X2_emptyText cI cC h0 h1 h2 0 pos bad) H := hP
  have hD : va_D A (w_X2_emptyText cI cC h0 h1 h2 0 pos bad) := hD
  refine lv_iload_n hx hb dX2_emptyText_10 rfl (lv_at hl 0 rfl) ?_
  obtain ⟨rfl, rfl⟩ := inj2 (h)
  exact fin _ _ _ _ dX2_emptyText_11 hP hD hS
abbrev w_X2_thingCount (cI cC : ClassId) (h0 h1 h2 h3 : Nat) (rG : Int32) (len : Int32) (pos : Int32) (bad : Int32) : va_W := [(h0, .inr (2, [.ref h1, .ref h2, .int len, .int pos, .int bad])), (h2, .inr (4, [.ref h3, .int 5, .int rG]))]
def d_X2_thingCount (rG : Int32) : Int32 :=
    (d_X4_rows rG)
set_option maxHeartbeats 4000000 in
set_option maxRecDepth 100000 in
theorem c_X2_thingCount (l : Launch) (D : va_G) (cI cC cE : ClassId) (h0 h1 h2 h3 : Nat) (sz : Nat) (rG : Int32) (len : Int32) (pos : Int32) (bad : Int32) (r0 : Int32) (h : d_X2_thingCount rG = r0) : Met l yX2_thingCount wsX2_thingCount ({ frames := 1, cells := 0, slots := 0, locals := 20 } : Room) (kP D (kT cI cC cE) [.ref h0] (w_X2_thingCount cI cC h0 h1 h2 h3 rG len pos bad) sz) (kQi D (kT cI cC cE) (w_X2_thingCount cI cC h0 h1 h2 h3 rG len pos bad) (w_X2_thingCount cI cC h0 h1 h2 h3 rG len pos bad) sz r0) 0 0 (va_A (w_X2_thingCount cI cC h0 h1 h2 h3 rG len pos bad) sz) := by
  refine kMetI (cc := cX2_thingCount) (maxL := 1) (own := RX2) (by decide) rfl (Nat.le_of_ble_eq_true rfl) rfl ?_
  intro p e s m below meth c A Q hx hb hml hown hts hP hK hD hA hS hname fin ls hl
  have hl : lv_has ls 1 [(0, .ref h0)] := hl
  have hiX2 : ∀ w ∈ u_ws RX2 TX2 5, w ∈ wsX2_thingCount := by decide +kernel
  dsimp only [d_X2_thingCount] at h
  refine lv_aload_n hx hb dX2_thingCount_0 rfl (lv_at hl 0 rfl) ?_
  refine va_get (ci := 2) (C := RX2) (T := TX2) (N := 5) hx hb hts hiX2 hown hK hP 0 rfl rfl 1 (by decide) (hts (.fieldLink RX2 20 "RiddleTrade$Offers" "things" "LRiddleTrade$Table;") (List.mem_of_getElem? (i := 1) rfl)) (fun _ h9 => h9) rfl dX2_thingCount_1 ?_
  refine kcVi (ci := 4) (q := (RX4, TX4, 3)) (ws1 := (w_X2_thingCount cI cC h0 h1 h2 h3 rG len pos bad)) ⟨hx, hb, hml, hown, hts⟩ [1] [0] (c_X4_rows l D cI cC cE h2 h3 _ 5 rG (d_X4_rows rG) rfl) (cwV 0 hts gX2_thingCount_X4_rows rfl rfl rfl (by decide +kernel) ⟨Nat.le_of_ble_eq_true rfl, Nat.le_of_ble_eq_true rfl⟩) hK hP hD hS hA rfl rfl rfl rfl rfl rfl rfl rfl rfl hl.1 rfl (Nat.le_of_ble_eq_true rfl) dX2_thingCount_4 ⟨Nat.le_refl 0, Nat.le_refl 0⟩ (fun H locs hP hD hS => ?_)
  obtain rfl := h
  exact fin _ _ _ _ dX2_thingCount_7 hP hD hS
abbrev w_X2_numberOf (cI cC : ClassId) (h0 h1 h2 h3 : Nat) (fG : Nat → Int32) (rG : Int32) (len : Int32) (pos : Int32) (bad : Int32) : va_W := [(h0, .inr (2, [.ref h1, .ref h2, .int len, .int pos, .int bad])), (h2, .inr (4, [.ref h3, .int 5, .int rG])), (h3, .inl (cI, 150, .inl fG))]
def d_X2_numberOf (p1 : Int32) (p2 : Int32) (fG : Nat → Int32) : Option (Int32) :=
    ob1 (d_X4_get 150 p1 p2 fG 5) fun r1 =>
    some r1
set_option maxHeartbeats 4000000 in
set_option maxRecDepth 100000 in
theorem c_X2_numberOf (l : Launch) (D : va_G) (cI cC cE : ClassId) (h0 h1 h2 h3 : Nat) (sz : Nat) (fG : Nat → Int32) (rG : Int32) (len : Int32) (pos : Int32) (bad : Int32) (p1 : Int32) (p2 : Int32) (r0 : Int32) (h : d_X2_numberOf p1 p2 fG = some r0) : Met l yX2_numberOf wsX2_numberOf ({ frames := 1, cells := 0, slots := 0, locals := 23 } : Room) (kP D (kT cI cC cE) [.ref h0, .int p1, .int p2] (w_X2_numberOf cI cC h0 h1 h2 h3 fG rG len pos bad) sz) (kQi D (kT cI cC cE) (w_X2_numberOf cI cC h0 h1 h2 h3 fG rG len pos bad) (w_X2_numberOf cI cC h0 h1 h2 h3 fG rG len pos bad) sz r0) 0 0 (va_A (w_X2_numberOf cI cC h0 h1 h2 h3 fG rG len pos bad) sz) := by
  refine kMetI (cc := cX2_numberOf) (maxL := 3) (own := RX2) (by decide) rfl (Nat.le_of_ble_eq_true rfl) rfl ?_
  intro p e s m below meth c A Q hx hb hml hown hts hP hK hD hA hS hname fin ls hl
  have hl : lv_has ls 3 [(0, .ref h0), (1, .int p1), (2, .int p2)] := hl
  have hiX2 : ∀ w ∈ u_ws RX2 TX2 5, w ∈ wsX2_numberOf := by decide +kernel
  dsimp only [d_X2_numberOf] at h
  refine lv_aload_n hx hb dX2_numberOf_0 rfl (lv_at hl 0 rfl) ?_
  refine va_get (ci := 2) (C := RX2) (T := TX2) (N := 5) hx hb hts hiX2 hown hK hP 0 rfl rfl 1 (by decide) (hts (.fieldLink RX2 20 "RiddleTrade$Offers" "things" "LRiddleTrade$Table;") (List.mem_of_getElem? (i := 1) rfl)) (fun _ h9 => h9) rfl dX2_numberOf_1 ?_
  refine lv_iload_n hx hb dX2_numberOf_4 rfl (lv_at hl 1 rfl) ?_
  refine lv_iload_n hx hb dX2_numberOf_5 rfl (lv_at hl 2 rfl) ?_
  obtain ⟨r1, hu2, h⟩ := ob1_el h
  refine kcVi (ci := 4) (q := (RX4, TX4, 3)) (ws1 := (w_X2_numberOf cI cC h0 h1 h2 h3 fG rG len pos bad)) ⟨hx, hb, hml, hown, hts⟩ [1, 2] [0] (c_X4_get l D cI cC cE h2 h3 _ 150 fG 5 rG p1 p2 r1 hu2) (cwV 2 hts gX2_numberOf_X4_get rfl rfl rfl (by decide +kernel) ⟨Nat.le_of_ble_eq_true rfl, Nat.le_of_ble_eq_true rfl⟩) hK hP hD hS hA rfl rfl rfl rfl rfl rfl rfl rfl rfl hl.1 rfl (Nat.le_of_ble_eq_true rfl) dX2_numberOf_6 ⟨Nat.le_refl 0, Nat.le_refl 0⟩ (fun H locs hP hD hS => ?_)
  obtain rfl := Option.some.inj h
  exact fin _ _ _ _ dX2_numberOf_9 hP hD hS
abbrev w_X2_here (cI cC : ClassId) (h0 h1 h2 : Nat) (ft : Nat → Int32) (len : Int32) (pos : Int32) (bad : Int32) : va_W := [(h0, .inr (2, [.ref h1, .ref h2, .int len, .int pos, .int bad])), (h1, .inl (cC, 60, .inl ft))]
def j_X2_here_36 (ft : Nat → Int32) (len : Int32) (pos : Int32) (bad : Int32) (x1 : Int32) : Option (Int32) :=
    if x1 = 0 then (some (-1))
    else (if bad = 0 then (ob1 (rd 60 ft pos) fun v4 =>
    some v4)
    else (some (-1)))
def j_X2_here_34 (ft : Nat → Int32) (len : Int32) (pos : Int32) (bad : Int32)  : Option (Int32) :=
    j_X2_here_36  ft len pos bad 0
def d_X2_here (ft : Nat → Int32) (len : Int32) (pos : Int32) (bad : Int32) : Option (Int32) :=
    if pos < 0 then (j_X2_here_34  ft len pos bad )
    else (if len ≤ pos then (j_X2_here_34  ft len pos bad )
    else (if 60 ≤ pos then (j_X2_here_34  ft len pos bad )
    else (j_X2_here_36  ft len pos bad 1)))
set_option maxHeartbeats 4000000 in
set_option maxRecDepth 100000 in
theorem c_X2_here (l : Launch) (D : va_G) (cI cC cE : ClassId) (h0 h1 h2 : Nat) (sz : Nat) (ft : Nat → Int32) (len : Int32) (pos : Int32) (bad : Int32) (r0 : Int32) (h : d_X2_here ft len pos bad = some r0) : Met l yX2_here wsX2_here ({ frames := 0, cells := 0, slots := 0, locals := 0 } : Room) (kP D (kT cI cC cE) [.ref h0] (w_X2_here cI cC h0 h1 h2 ft len pos bad) sz) (kQi D (kT cI cC cE) (w_X2_here cI cC h0 h1 h2 ft len pos bad) (w_X2_here cI cC h0 h1 h2 ft len pos bad) sz r0) 0 0 (va_A (w_X2_here cI cC h0 h1 h2 ft len pos bad) sz) := by
  refine kMetI (cc := cX2_here) (maxL := 2) (own := RX2) (by decide) rfl (Nat.le_of_ble_eq_true rfl) rfl ?_
  intro p e s m below meth c A Q hx hb hml hown hts hP hK hD hA hS hname fin ls hl
  have hl : lv_has ls 2 [(0, .ref h0)] := hl
  have hiX2 : ∀ w ∈ u_ws RX2 TX2 5, w ∈ wsX2_here := by decide +kernel
  have hJ36 : ∀ (x1 : Int32) (H : Heap) (locs : List Loc), va_P D vwCl (w_X2_here cI cC h0 h1 h2 ft len pos bad) H → va_D A (w_X2_here cI cC h0 h1 h2 ft len pos bad) → va_S A s.heap H locs → ∀ (ls : Array Slot), lv_has ls 2 [(0, .ref h0), (1, .int x1)] → j_X2_here_36  ft len pos bad x1 = some r0 → W p l e ({ frames := 0, cells := 0, slots := 0, locals := 0 } : Room) s m [.ref h0].toArray below meth c H locs 0 0 Q (F0 m 36 ls []) := by
    intro x1 H locs hP hD hS ls hl h
    dsimp only [j_X2_here_36] at h
    refine lv_iload_n hx hb dX2_here_36 rfl (lv_at hl 1 rfl) ?_
    refine lv_if_eq (tgt := 59) hx hb dX2_here_37 (by decide) (fun c2 => ?_) (fun c2 => ?_)
    · have h := (k_iB h).1 c2
      refine lv_iconst (v := (-1)) hx hb dX2_here_59 (by decide) ?_
      obtain rfl := Option.some.inj h
      exact fin _ _ _ _ dX2_here_60 hP hD hS
    · have h := (k_iB h).2 c2
      refine lv_aload_n hx hb dX2_here_40 rfl (lv_at hl 0 rfl) ?_
      refine va_get (ci := 2) (C := RX2) (T := TX2) (N := 5) hx hb hts hiX2 hown hK hP 0 rfl rfl 4 (by decide) (hts (.fieldLink RX2 42 "RiddleTrade$Offers" "faulty" "Z") (List.mem_of_getElem? (i := 4) rfl)) (fun _ h9 => h9) rfl dX2_here_41 ?_
      refine lv_if_ne (tgt := 59) hx hb dX2_here_44 (by decide) (fun c3 => ?_) (fun c3 => ?_)
      · have h := (k_iB h).2 c3
        refine lv_iconst (v := (-1)) hx hb dX2_here_59 (by decide) ?_
        obtain rfl := Option.some.inj h
        exact fin _ _ _ _ dX2_here_60 hP hD hS
      · have h := (k_iB h).1 c3
        refine lv_aload_n hx hb dX2_here_47 rfl (lv_at hl 0 rfl) ?_
        refine va_get (ci := 2) (C := RX2) (T := TX2) (N := 5) hx hb hts hiX2 hown hK hP 0 rfl rfl 0 (by decide) (hts (.fieldLink RX2 9 "RiddleTrade$Offers" "text" "[C") (List.mem_of_getElem? (i := 3) rfl)) (fun _ h9 => h9) rfl dX2_here_48 ?_
        refine lv_aload_n hx hb dX2_here_51 rfl (lv_at hl 0 rfl) ?_
        refine va_get (ci := 2) (C := RX2) (T := TX2) (N := 5) hx hb hts hiX2 hown hK hP 0 rfl rfl 3 (by decide) (hts (.fieldLink RX2 39 "RiddleTrade$Offers" "position" "I") (List.mem_of_getElem? (i := 1) rfl)) (fun _ h9 => h9) rfl dX2_here_52 ?_
        refine k_cald hx hb hK hP 1 1 rfl rfl h dX2_here_55 (fun v4 h => ?_)
        refine lv_goto (tgt := 60) hx hb dX2_here_56 (by decide) ?_
        obtain rfl := Option.some.inj h
        exact fin _ _ _ _ dX2_here_60 hP hD hS
  have hJ34 : ∀  (H : Heap) (locs : List Loc), va_P D vwCl (w_X2_here cI cC h0 h1 h2 ft len pos bad) H → va_D A (w_X2_here cI cC h0 h1 h2 ft len pos bad) → va_S A s.heap H locs → ∀ (ls : Array Slot), lv_has ls 2 [(0, .ref h0)] → j_X2_here_34  ft len pos bad  = some r0 → W p l e ({ frames := 0, cells := 0, slots := 0, locals := 0 } : Room) s m [.ref h0].toArray below meth c H locs 0 0 Q (F0 m 34 ls []) := by
    intro  H locs hP hD hS ls hl h
    dsimp only [j_X2_here_34] at h
    refine lv_iconst (v := 0) hx hb dX2_here_34 (by decide) ?_
    refine lv_istore_n (lv' := [(1, .int 0), (0, .ref h0)]) hx hb dX2_here_35 rfl hl (by decide) rfl (fun ls hl => ?_)
    exact hJ36   0 _ _ hP hD hS _ (lv_sub hl [1, 0] rfl) h
  dsimp only [d_X2_here] at h
  refine lv_aload_n hx hb dX2_here_0 rfl (lv_at hl 0 rfl) ?_
  refine va_get (ci := 2) (C := RX2) (T := TX2) (N := 5) hx hb hts hiX2 hown hK hP 0 rfl rfl 3 (by decide) (hts (.fieldLink RX2 39 "RiddleTrade$Offers" "position" "I") (List.mem_of_getElem? (i := 1) rfl)) (fun _ h9 => h9) rfl dX2_here_1 ?_
  refine lv_if_lt (tgt := 34) hx hb dX2_here_4 (by decide) (fun c1 => ?_) (fun c1 => ?_)
  · have h := (k_iB h).1 c1
    exact hJ34    _ _ hP hD hS _ (lv_sub hl [0] rfl) h
  · have h := (k_iB h).2 c1
    refine lv_aload_n hx hb dX2_here_7 rfl (lv_at hl 0 rfl) ?_
    refine va_get (ci := 2) (C := RX2) (T := TX2) (N := 5) hx hb hts hiX2 hown hK hP 0 rfl rfl 3 (by decide) (hts (.fieldLink RX2 39 "RiddleTrade$Offers" "position" "I") (List.mem_of_getElem? (i := 1) rfl)) (fun _ h9 => h9) rfl dX2_here_8 ?_
    refine lv_aload_n hx hb dX2_here_11 rfl (lv_at hl 0 rfl) ?_
    refine va_get (ci := 2) (C := RX2) (T := TX2) (N := 5) hx hb hts hiX2 hown hK hP 0 rfl rfl 2 (by decide) (hts (.fieldLink RX2 24 "RiddleTrade$Offers" "length" "I") (List.mem_of_getElem? (i := 2) rfl)) (fun _ h9 => h9) rfl dX2_here_12 ?_
    refine lv_icmp_ge (tgt := 34) hx hb dX2_here_15 (by decide) (fun c5 => ?_) (fun c5 => ?_)
    · have h := (k_iB h).1 c5
      exact hJ34    _ _ hP hD hS _ (lv_sub hl [0] rfl) h
    · have h := (k_iB h).2 c5
      refine lv_aload_n hx hb dX2_here_18 rfl (lv_at hl 0 rfl) ?_
      refine va_get (ci := 2) (C := RX2) (T := TX2) (N := 5) hx hb hts hiX2 hown hK hP 0 rfl rfl 3 (by decide) (hts (.fieldLink RX2 39 "RiddleTrade$Offers" "position" "I") (List.mem_of_getElem? (i := 1) rfl)) (fun _ h9 => h9) rfl dX2_here_19 ?_
      refine lv_aload_n hx hb dX2_here_22 rfl (lv_at hl 0 rfl) ?_
      refine va_get (ci := 2) (C := RX2) (T := TX2) (N := 5) hx hb hts hiX2 hown hK hP 0 rfl rfl 0 (by decide) (hts (.fieldLink RX2 9 "RiddleTrade$Offers" "text" "[C") (List.mem_of_getElem? (i := 3) rfl)) (fun _ h9 => h9) rfl dX2_here_23 ?_
      refine va_alen (v := 60) hx hb hK hP 1 1 rfl rfl (show Int32.ofNat 60 = 60 from rfl) dX2_here_26 ?_
      refine lv_icmp_ge (tgt := 34) hx hb dX2_here_27 (by decide) (fun c6 => ?_) (fun c6 => ?_)
      · have h := (k_iB h).1 c6
        exact hJ34    _ _ hP hD hS _ (lv_sub hl [0] rfl) h
      · have h := (k_iB h).2 c6
        refine lv_iconst (v := 1) hx hb dX2_here_30 (by decide) ?_
        refine lv_goto (tgt := 35) hx hb dX2_here_31 (by decide) ?_
        refine lv_istore_n (lv' := [(1, .int 1), (0, .ref h0)]) hx hb dX2_here_35 rfl hl (by decide) rfl (fun ls hl => ?_)
        exact hJ36   1 _ _ hP hD hS _ (lv_sub hl [1, 0] rfl) h
abbrev w_X2_digitHere (cI cC : ClassId) (h0 h1 h2 : Nat) (ft : Nat → Int32) (len : Int32) (pos : Int32) (bad : Int32) : va_W := [(h0, .inr (2, [.ref h1, .ref h2, .int len, .int pos, .int bad])), (h1, .inl (cC, 60, .inl ft))]
def d_X2_digitHere (ft : Nat → Int32) (len : Int32) (pos : Int32) (bad : Int32) : Option (Int32) :=
    ob1 (d_X2_here ft len pos bad) fun r1 =>
    if r1 < 48 then (some (-1))
    else (if 57 < r1 then (some (-1))
    else (some (r1 - 48)))
set_option maxHeartbeats 4000000 in
set_option maxRecDepth 100000 in
theorem c_X2_digitHere (l : Launch) (D : va_G) (cI cC cE : ClassId) (h0 h1 h2 : Nat) (sz : Nat) (ft : Nat → Int32) (len : Int32) (pos : Int32) (bad : Int32) (r0 : Int32) (h : d_X2_digitHere ft len pos bad = some r0) : Met l yX2_digitHere wsX2_digitHere ({ frames := 1, cells := 0, slots := 0, locals := 21 } : Room) (kP D (kT cI cC cE) [.ref h0] (w_X2_digitHere cI cC h0 h1 h2 ft len pos bad) sz) (kQi D (kT cI cC cE) (w_X2_digitHere cI cC h0 h1 h2 ft len pos bad) (w_X2_digitHere cI cC h0 h1 h2 ft len pos bad) sz r0) 0 0 (va_A (w_X2_digitHere cI cC h0 h1 h2 ft len pos bad) sz) := by
  refine kMetI (cc := cX2_digitHere) (maxL := 2) (own := RX2) (by decide) rfl (Nat.le_of_ble_eq_true rfl) rfl ?_
  intro p e s m below meth c A Q hx hb hml hown hts hP hK hD hA hS hname fin ls hl
  have hl : lv_has ls 2 [(0, .ref h0)] := hl
  dsimp only [d_X2_digitHere] at h
  refine lv_aload_n hx hb dX2_digitHere_0 rfl (lv_at hl 0 rfl) ?_
  obtain ⟨r1, hu2, h⟩ := ob1_el h
  refine kcVi (ci := 2) (q := (RX2, TX2, 5)) (ws1 := (w_X2_digitHere cI cC h0 h1 h2 ft len pos bad)) ⟨hx, hb, hml, hown, hts⟩ [0, 1] [] (c_X2_here l D cI cC cE h0 h1 h2 _ ft len pos bad r1 hu2) (cwV 0 hts gX2_digitHere_X2_here rfl rfl rfl (by decide +kernel) ⟨Nat.le_of_ble_eq_true rfl, Nat.le_of_ble_eq_true rfl⟩) hK hP hD hS hA rfl rfl rfl rfl rfl rfl rfl rfl rfl hl.1 rfl (Nat.le_of_ble_eq_true rfl) dX2_digitHere_1 ⟨Nat.le_refl 0, Nat.le_refl 0⟩ (fun H locs hP hD hS => ?_)
  refine lv_istore_n (lv' := [(1, .int r1), (0, .ref h0)]) hx hb dX2_digitHere_4 rfl hl (by decide) rfl (fun ls hl => ?_)
  refine lv_iload_n hx hb dX2_digitHere_5 rfl (lv_at hl 0 rfl) ?_
  refine lv_bipush (v := 48) hx hb dX2_digitHere_6 (by decide) ?_
  refine lv_icmp_lt (tgt := 24) hx hb dX2_digitHere_8 (by decide) (fun c3 => ?_) (fun c3 => ?_)
  · have h := (k_iB h).1 c3
    refine lv_iconst (v := (-1)) hx hb dX2_digitHere_24 (by decide) ?_
    obtain rfl := Option.some.inj h
    exact fin _ _ _ _ dX2_digitHere_25 hP hD hS
  · have h := (k_iB h).2 c3
    refine lv_iload_n hx hb dX2_digitHere_11 rfl (lv_at hl 0 rfl) ?_
    refine lv_bipush (v := 57) hx hb dX2_digitHere_12 (by decide) ?_
    refine lv_icmp_gt (tgt := 24) hx hb dX2_digitHere_14 (by decide) (fun c4 => ?_) (fun c4 => ?_)
    · have h := (k_iB h).1 c4
      refine lv_iconst (v := (-1)) hx hb dX2_digitHere_24 (by decide) ?_
      obtain rfl := Option.some.inj h
      exact fin _ _ _ _ dX2_digitHere_25 hP hD hS
    · have h := (k_iB h).2 c4
      refine lv_iload_n hx hb dX2_digitHere_17 rfl (lv_at hl 0 rfl) ?_
      refine lv_bipush (v := 48) hx hb dX2_digitHere_18 (by decide) ?_
      refine lv_isub hx hb dX2_digitHere_20 ?_
      refine lv_goto (tgt := 25) hx hb dX2_digitHere_21 (by decide) ?_
      obtain rfl := Option.some.inj h
      exact fin _ _ _ _ dX2_digitHere_25 hP hD hS
abbrev w_X2_expect (cI cC : ClassId) (h0 h1 h2 : Nat) (ft : Nat → Int32) (len : Int32) (pos : Int32) (bad : Int32) : va_W := [(h0, .inr (2, [.ref h1, .ref h2, .int len, .int pos, .int bad])), (h1, .inl (cC, 60, .inl ft))]
def d_X2_expect (p1 : Int32) (ft : Nat → Int32) (len : Int32) (pos : Int32) (bad : Int32) : Option (Int32 × Int32) :=
    ob1 (d_X2_here ft len pos bad) fun r1 =>
    if r1 = p1 then (some ((pos + 1), bad))
    else (some (pos, 1))
set_option maxHeartbeats 4000000 in
set_option maxRecDepth 100000 in
theorem c_X2_expect (l : Launch) (D : va_G) (cI cC cE : ClassId) (h0 h1 h2 : Nat) (sz : Nat) (ft : Nat → Int32) (len : Int32) (pos : Int32) (bad : Int32) (p1 : Int32) (o_pos : Int32) (o_bad : Int32) (h : d_X2_expect p1 ft len pos bad = some (o_pos, o_bad)) : Met l yX2_expect wsX2_expect ({ frames := 1, cells := 0, slots := 0, locals := 21 } : Room) (kP D (kT cI cC cE) [.ref h0, .int p1] (w_X2_expect cI cC h0 h1 h2 ft len pos bad) sz) (kQv D (kT cI cC cE) (w_X2_expect cI cC h0 h1 h2 ft len pos bad) (w_X2_expect cI cC h0 h1 h2 ft len o_pos o_bad) sz) 0 0 (va_A (w_X2_expect cI cC h0 h1 h2 ft len pos bad) sz) := by
  refine kMetV (cc := cX2_expect) (maxL := 2) (own := RX2) (by decide) rfl (Nat.le_of_ble_eq_true rfl) rfl ?_
  intro p e s m below meth c A Q hx hb hml hown hts hP hK hD hA hS hname fin ls hl
  have hl : lv_has ls 2 [(0, .ref h0), (1, .int p1)] := hl
  have hiX2 : ∀ w ∈ u_ws RX2 TX2 5, w ∈ wsX2_expect := by decide +kernel
  dsimp only [d_X2_expect] at h
  refine lv_aload_n hx hb dX2_expect_0 rfl (lv_at hl 0 rfl) ?_
  obtain ⟨r1, hu2, h⟩ := ob1_el h
  refine kcVi (ci := 2) (q := (RX2, TX2, 5)) (ws1 := (w_X2_expect cI cC h0 h1 h2 ft len pos bad)) ⟨hx, hb, hml, hown, hts⟩ [0, 1] [] (c_X2_here l D cI cC cE h0 h1 h2 _ ft len pos bad r1 hu2) (cwV 0 hts gX2_expect_X2_here rfl rfl rfl (by decide +kernel) ⟨Nat.le_of_ble_eq_true rfl, Nat.le_of_ble_eq_true rfl⟩) hK hP hD hS hA rfl rfl rfl rfl rfl rfl rfl rfl rfl hl.1 rfl (Nat.le_of_ble_eq_true rfl) dX2_expect_1 ⟨Nat.le_refl 0, Nat.le_refl 0⟩ (fun H locs hP hD hS => ?_)
  refine lv_iload_n hx hb dX2_expect_4 rfl (lv_at hl 1 rfl) ?_
  refine lv_icmp_ne (tgt := 21) hx hb dX2_expect_5 (by decide) (fun c3 => ?_) (fun c3 => ?_)
  · have h := (k_iB h).2 c3
    refine lv_aload_n hx hb dX2_expect_21 rfl (lv_at hl 0 rfl) ?_
    refine lv_iconst (v := 1) hx hb dX2_expect_22 (by decide) ?_
    refine va_put (ci := 2) (ty := .boolean) (C := RX2) (T := TX2) (N := 5) hx hb hts hiX2 tyX2 tyX2_ok nmX2 hown hK hP hD hS 0 rfl rfl 4 (by decide) (hts (.fieldLink RX2 42 "RiddleTrade$Offers" "faulty" "Z") (List.mem_of_getElem? (i := 2) rfl)) (fun _ h9 => h9) rfl (by decide +kernel) rfl rfl (Nat.le_of_ble_eq_true rfl) dX2_expect_23 (fun H locs hP hD hS => ?_)
    have hP : va_P D vwCl (w_X2_expect cI cC h0 h1 h2 ft len pos 1) H := hP
    have hD : va_D A (w_X2_expect cI cC h0 h1 h2 ft len pos 1) := hD
    obtain ⟨rfl, rfl⟩ := inj2 (Option.some.inj h)
    exact fin _ _ _ _ dX2_expect_26 hP hD hS
  · have h := (k_iB h).1 c3
    refine lv_aload_n hx hb dX2_expect_8 rfl (lv_at hl 0 rfl) ?_
    refine lv_dup hx hb dX2_expect_9 rfl ?_
    refine va_get (ci := 2) (C := RX2) (T := TX2) (N := 5) hx hb hts hiX2 hown hK hP 0 rfl rfl 3 (by decide) (hts (.fieldLink RX2 39 "RiddleTrade$Offers" "position" "I") (List.mem_of_getElem? (i := 1) rfl)) (fun _ h9 => h9) rfl dX2_expect_10 ?_
    refine lv_iconst (v := 1) hx hb dX2_expect_13 (by decide) ?_
    refine lv_iadd hx hb dX2_expect_14 ?_
    refine va_put (ci := 2) (ty := .int) (C := RX2) (T := TX2) (N := 5) hx hb hts hiX2 tyX2 tyX2_ok nmX2 hown hK hP hD hS 0 rfl rfl 3 (by decide) (hts (.fieldLink RX2 39 "RiddleTrade$Offers" "position" "I") (List.mem_of_getElem? (i := 1) rfl)) (fun _ h9 => h9) rfl (by decide +kernel) rfl rfl (Nat.le_of_ble_eq_true rfl) dX2_expect_15 (fun H locs hP hD hS => ?_)
    have hP : va_P D vwCl (w_X2_expect cI cC h0 h1 h2 ft len (pos + 1) bad) H := hP
    have hD : va_D A (w_X2_expect cI cC h0 h1 h2 ft len (pos + 1) bad) := hD
    refine lv_goto (tgt := 26) hx hb dX2_expect_18 (by decide) ?_
    obtain ⟨rfl, rfl⟩ := inj2 (Option.some.inj h)
    exact fin _ _ _ _ dX2_expect_26 hP hD hS
abbrev w_X2_readNumber (cI cC : ClassId) (h0 h1 h2 h3 : Nat) (ft : Nat → Int32) (fG : Nat → Int32) (rG : Int32) (len : Int32) (pos : Int32) (bad : Int32) : va_W := [(h0, .inr (2, [.ref h1, .ref h2, .int len, .int pos, .int bad])), (h1, .inl (cC, 60, .inl ft)), (h2, .inr (4, [.ref h3, .int 5, .int rG])), (h3, .inl (cI, 150, .inl fG))]
def j_X2_readNumber_85 (ft : Nat → Int32) (len : Int32) (p1 : Int32) (p2 : Int32) (p3 : Int32) (p4 : Int32) (x5 : Int32) (fG : Nat → Int32) (pos : Int32) (bad : Int32) : Option ((Nat → Int32) × Int32 × Int32) :=
    ob1 (d_X4_put 150 p1 p2 x5 fG 5) fun fG_8 =>
    some (fG_8, pos, bad)
def d_X2_readNumber (p1 : Int32) (p2 : Int32) (p3 : Int32) (p4 : Int32) (ft : Nat → Int32) (fG : Nat → Int32) (len : Int32) (pos : Int32) (bad : Int32) : Option ((Nat → Int32) × Int32 × Int32) :=
    ob1 (d_X2_digitHere ft len pos bad) fun r1 =>
    if r1 < p3 then (some (fG, pos, 1))
    else (if r1 ≤ p4 then (ob1 (d_X2_digitHere ft len (pos + 1) bad) fun r5 =>
    if r1 ≤ 0 then (j_X2_readNumber_85  ft len p1 p2 p3 p4 r1 fG (pos + 1) bad)
    else (if r5 = (-1) then (j_X2_readNumber_85  ft len p1 p2 p3 p4 r1 fG (pos + 1) bad)
    else (if p4 < ((r1 * 10) + r5) then (j_X2_readNumber_85  ft len p1 p2 p3 p4 r1 fG (pos + 1) bad)
    else (j_X2_readNumber_85  ft len p1 p2 p3 p4 ((r1 * 10) + r5) fG ((pos + 1) + 1) bad))))
    else (some (fG, pos, 1)))
set_option maxHeartbeats 4000000 in
set_option maxRecDepth 100000 in
theorem c_X2_readNumber (l : Launch) (D : va_G) (cI cC cE : ClassId) (h0 h1 h2 h3 : Nat) (sz : Nat) (ft : Nat → Int32) (fG : Nat → Int32) (rG : Int32) (len : Int32) (pos : Int32) (bad : Int32) (p1 : Int32) (p2 : Int32) (p3 : Int32) (p4 : Int32) (o_fG : Nat → Int32) (o_pos : Int32) (o_bad : Int32) (h : d_X2_readNumber p1 p2 p3 p4 ft fG len pos bad = some (o_fG, o_pos, o_bad)) : Met l yX2_readNumber wsX2_readNumber ({ frames := 2, cells := 0, slots := 0, locals := 42 } : Room) (kP D (kT cI cC cE) [.ref h0, .int p1, .int p2, .int p3, .int p4] (w_X2_readNumber cI cC h0 h1 h2 h3 ft fG rG len pos bad) sz) (kQv D (kT cI cC cE) (w_X2_readNumber cI cC h0 h1 h2 h3 ft fG rG len pos bad) (w_X2_readNumber cI cC h0 h1 h2 h3 ft o_fG rG len o_pos o_bad) sz) 0 0 (va_A (w_X2_readNumber cI cC h0 h1 h2 h3 ft fG rG len pos bad) sz) := by
  refine kMetV (cc := cX2_readNumber) (maxL := 7) (own := RX2) (by decide) rfl (Nat.le_of_ble_eq_true rfl) rfl ?_
  intro p e s m below meth c A Q hx hb hml hown hts hP hK hD hA hS hname fin ls hl
  have hl : lv_has ls 7 [(0, .ref h0), (1, .int p1), (2, .int p2), (3, .int p3), (4, .int p4)] := hl
  have hiX2 : ∀ w ∈ u_ws RX2 TX2 5, w ∈ wsX2_readNumber := by decide +kernel
  have hJ85 : ∀ (x5 : Int32) (fG : Nat → Int32) (pos : Int32) (bad : Int32) (H : Heap) (locs : List Loc), va_P D vwCl (w_X2_readNumber cI cC h0 h1 h2 h3 ft fG rG len pos bad) H → va_D A (w_X2_readNumber cI cC h0 h1 h2 h3 ft fG rG len pos bad) → va_S A s.heap H locs → ∀ (ls : Array Slot), lv_has ls 7 [(0, .ref h0), (1, .int p1), (2, .int p2), (5, .int x5)] → j_X2_readNumber_85  ft len p1 p2 p3 p4 x5 fG pos bad = some (o_fG, o_pos, o_bad) → W p l e ({ frames := 2, cells := 0, slots := 0, locals := 42 } : Room) s m [.ref h0, .int p1, .int p2, .int p3, .int p4].toArray below meth c H locs 0 0 Q (F0 m 85 ls []) := by
    intro x5 fG pos bad H locs hP hD hS ls hl h
    dsimp only [j_X2_readNumber_85] at h
    refine lv_aload_n hx hb dX2_readNumber_85 rfl (lv_at hl 0 rfl) ?_
    refine va_get (ci := 2) (C := RX2) (T := TX2) (N := 5) hx hb hts hiX2 hown hK hP 0 rfl rfl 1 (by decide) (hts (.fieldLink RX2 20 "RiddleTrade$Offers" "things" "LRiddleTrade$Table;") (List.mem_of_getElem? (i := 3) rfl)) (fun _ h9 => h9) rfl dX2_readNumber_86 ?_
    refine lv_iload_n hx hb dX2_readNumber_89 rfl (lv_at hl 1 rfl) ?_
    refine lv_iload_n hx hb dX2_readNumber_90 rfl (lv_at hl 2 rfl) ?_
    refine lv_iload hx hb dX2_readNumber_91 (lv_at hl 3 rfl) ?_
    obtain ⟨fG_8, hu9, h⟩ := ob1_el h
    refine kcVv (ci := 4) (q := (RX4, TX4, 3)) (ws1 := (w_X2_readNumber cI cC h0 h1 h2 h3 ft fG_8 rG len pos bad)) ⟨hx, hb, hml, hown, hts⟩ [2, 3] [0, 1] (c_X4_put l D cI cC cE h2 h3 _ 150 fG 5 rG p1 p2 x5 fG_8 hu9) (cwV 3 hts gX2_readNumber_X4_put rfl rfl rfl (by decide +kernel) ⟨Nat.le_of_ble_eq_true rfl, Nat.le_of_ble_eq_true rfl⟩) hK hP hD hS hA rfl rfl rfl rfl rfl rfl rfl rfl rfl hl.1 rfl (Nat.le_of_ble_eq_true rfl) dX2_readNumber_93 ⟨Nat.le_refl 0, Nat.le_refl 0⟩ (fun H locs hP hD hS => ?_)
    obtain ⟨rfl, rfl, rfl⟩ := inj3 (Option.some.inj h)
    exact fin _ _ _ _ dX2_readNumber_96 hP hD hS
  dsimp only [d_X2_readNumber] at h
  refine lv_aload_n hx hb dX2_readNumber_0 rfl (lv_at hl 0 rfl) ?_
  obtain ⟨r1, hu2, h⟩ := ob1_el h
  refine kcVi (ci := 2) (q := (RX2, TX2, 5)) (ws1 := (w_X2_readNumber cI cC h0 h1 h2 h3 ft fG rG len pos bad)) ⟨hx, hb, hml, hown, hts⟩ [0, 1] [2, 3] (c_X2_digitHere l D cI cC cE h0 h1 h2 _ ft len pos bad r1 hu2) (cwV 0 hts gX2_readNumber_X2_digitHere rfl rfl rfl (by decide +kernel) ⟨Nat.le_of_ble_eq_true rfl, Nat.le_of_ble_eq_true rfl⟩) hK hP hD hS hA rfl rfl rfl rfl rfl rfl rfl rfl rfl hl.1 rfl (Nat.le_of_ble_eq_true rfl) dX2_readNumber_1 ⟨Nat.le_refl 0, Nat.le_refl 0⟩ (fun H locs hP hD hS => ?_)
  refine lv_istore (lv' := [(5, .int r1), (0, .ref h0), (1, .int p1), (2, .int p2), (3, .int p3), (4, .int p4)]) hx hb dX2_readNumber_4 hl (by decide) rfl (fun ls hl => ?_)
  refine lv_iload hx hb dX2_readNumber_6 (lv_at hl 0 rfl) ?_
  refine lv_iload_n hx hb dX2_readNumber_8 rfl (lv_at hl 4 rfl) ?_
  refine lv_icmp_lt (tgt := 19) hx hb dX2_readNumber_9 (by decide) (fun c3 => ?_) (fun c3 => ?_)
  · have h := (k_iB h).1 c3
    refine lv_aload_n hx hb dX2_readNumber_19 rfl (lv_at hl 1 rfl) ?_
    refine lv_iconst (v := 1) hx hb dX2_readNumber_20 (by decide) ?_
    refine va_put (ci := 2) (ty := .boolean) (C := RX2) (T := TX2) (N := 5) hx hb hts hiX2 tyX2 tyX2_ok nmX2 hown hK hP hD hS 0 rfl rfl 4 (by decide) (hts (.fieldLink RX2 42 "RiddleTrade$Offers" "faulty" "Z") (List.mem_of_getElem? (i := 1) rfl)) (fun _ h9 => h9) rfl (by decide +kernel) rfl rfl (Nat.le_of_ble_eq_true rfl) dX2_readNumber_21 (fun H locs hP hD hS => ?_)
    have hP : va_P D vwCl (w_X2_readNumber cI cC h0 h1 h2 h3 ft fG rG len pos 1) H := hP
    have hD : va_D A (w_X2_readNumber cI cC h0 h1 h2 h3 ft fG rG len pos 1) := hD
    obtain ⟨rfl, rfl, rfl⟩ := inj3 (Option.some.inj h)
    exact fin _ _ _ _ dX2_readNumber_24 hP hD hS
  · have h := (k_iB h).2 c3
    refine lv_iload hx hb dX2_readNumber_12 (lv_at hl 0 rfl) ?_
    refine lv_iload hx hb dX2_readNumber_14 (lv_at hl 5 rfl) ?_
    refine lv_icmp_le (tgt := 25) hx hb dX2_readNumber_16 (by decide) (fun c4 => ?_) (fun c4 => ?_)
    · have h := (k_iB h).1 c4
      refine lv_aload_n hx hb dX2_readNumber_25 rfl (lv_at hl 1 rfl) ?_
      refine lv_dup hx hb dX2_readNumber_26 rfl ?_
      refine va_get (ci := 2) (C := RX2) (T := TX2) (N := 5) hx hb hts hiX2 hown hK hP 0 rfl rfl 3 (by decide) (hts (.fieldLink RX2 39 "RiddleTrade$Offers" "position" "I") (List.mem_of_getElem? (i := 2) rfl)) (fun _ h9 => h9) rfl dX2_readNumber_27 ?_
      refine lv_iconst (v := 1) hx hb dX2_readNumber_30 (by decide) ?_
      refine lv_iadd hx hb dX2_readNumber_31 ?_
      refine va_put (ci := 2) (ty := .int) (C := RX2) (T := TX2) (N := 5) hx hb hts hiX2 tyX2 tyX2_ok nmX2 hown hK hP hD hS 0 rfl rfl 3 (by decide) (hts (.fieldLink RX2 39 "RiddleTrade$Offers" "position" "I") (List.mem_of_getElem? (i := 2) rfl)) (fun _ h9 => h9) rfl (by decide +kernel) rfl rfl (Nat.le_of_ble_eq_true rfl) dX2_readNumber_32 (fun H locs hP hD hS => ?_)
      have hP : va_P D vwCl (w_X2_readNumber cI cC h0 h1 h2 h3 ft fG rG len (pos + 1) bad) H := hP
      have hD : va_D A (w_X2_readNumber cI cC h0 h1 h2 h3 ft fG rG len (pos + 1) bad) := hD
      refine lv_aload_n hx hb dX2_readNumber_35 rfl (lv_at hl 1 rfl) ?_
      obtain ⟨r5, hu6, h⟩ := ob1_el h
      refine kcVi (ci := 2) (q := (RX2, TX2, 5)) (ws1 := (w_X2_readNumber cI cC h0 h1 h2 h3 ft fG rG len (pos + 1) bad)) ⟨hx, hb, hml, hown, hts⟩ [0, 1] [2, 3] (c_X2_digitHere l D cI cC cE h0 h1 h2 _ ft len (pos + 1) bad r5 hu6) (cwV 0 hts gX2_readNumber_X2_digitHere rfl rfl rfl (by decide +kernel) ⟨Nat.le_of_ble_eq_true rfl, Nat.le_of_ble_eq_true rfl⟩) hK hP hD hS hA rfl rfl rfl rfl rfl rfl rfl rfl rfl hl.1 rfl (Nat.le_of_ble_eq_true rfl) dX2_readNumber_36 ⟨Nat.le_refl 0, Nat.le_refl 0⟩ (fun H locs hP hD hS => ?_)
      refine lv_istore (lv' := [(6, .int r5), (5, .int r1), (0, .ref h0), (1, .int p1), (2, .int p2), (3, .int p3), (4, .int p4)]) hx hb dX2_readNumber_39 hl (by decide) rfl (fun ls hl => ?_)
      refine lv_iload hx hb dX2_readNumber_41 (lv_at hl 1 rfl) ?_
      refine lv_if_le (tgt := 85) hx hb dX2_readNumber_43 (by decide) (fun c7 => ?_) (fun c7 => ?_)
      · have h := (k_iB h).1 c7
        exact hJ85   r1 fG (pos + 1) bad _ _ hP hD hS _ (lv_sub hl [2, 3, 4, 1] rfl) h
      · have h := (k_iB h).2 c7
        refine lv_iload hx hb dX2_readNumber_46 (lv_at hl 0 rfl) ?_
        refine lv_iconst (v := (-1)) hx hb dX2_readNumber_48 (by decide) ?_
        refine lv_icmp_eq (tgt := 85) hx hb dX2_readNumber_49 (by decide) (fun c10 => ?_) (fun c10 => ?_)
        · have h := (k_iB h).1 c10
          exact hJ85   r1 fG (pos + 1) bad _ _ hP hD hS _ (lv_sub hl [2, 3, 4, 1] rfl) h
        · have h := (k_iB h).2 c10
          refine lv_iload hx hb dX2_readNumber_52 (lv_at hl 1 rfl) ?_
          refine lv_bipush (v := 10) hx hb dX2_readNumber_54 (by decide) ?_
          refine lv_imul hx hb dX2_readNumber_56 ?_
          refine lv_iload hx hb dX2_readNumber_57 (lv_at hl 0 rfl) ?_
          refine lv_iadd hx hb dX2_readNumber_59 ?_
          refine lv_iload hx hb dX2_readNumber_60 (lv_at hl 6 rfl) ?_
          refine lv_icmp_gt (tgt := 85) hx hb dX2_readNumber_62 (by decide) (fun c11 => ?_) (fun c11 => ?_)
          · have h := (k_iB h).1 c11
            exact hJ85   r1 fG (pos + 1) bad _ _ hP hD hS _ (lv_sub hl [2, 3, 4, 1] rfl) h
          · have h := (k_iB h).2 c11
            refine lv_iload hx hb dX2_readNumber_65 (lv_at hl 1 rfl) ?_
            refine lv_bipush (v := 10) hx hb dX2_readNumber_67 (by decide) ?_
            refine lv_imul hx hb dX2_readNumber_69 ?_
            refine lv_iload hx hb dX2_readNumber_70 (lv_at hl 0 rfl) ?_
            refine lv_iadd hx hb dX2_readNumber_72 ?_
            refine lv_istore (lv' := [(5, .int ((r1 * 10) + r5)), (6, .int r5), (0, .ref h0), (1, .int p1), (2, .int p2), (3, .int p3), (4, .int p4)]) hx hb dX2_readNumber_73 hl (by decide) rfl (fun ls hl => ?_)
            refine lv_aload_n hx hb dX2_readNumber_75 rfl (lv_at hl 2 rfl) ?_
            refine lv_dup hx hb dX2_readNumber_76 rfl ?_
            refine va_get (ci := 2) (C := RX2) (T := TX2) (N := 5) hx hb hts hiX2 hown hK hP 0 rfl rfl 3 (by decide) (hts (.fieldLink RX2 39 "RiddleTrade$Offers" "position" "I") (List.mem_of_getElem? (i := 2) rfl)) (fun _ h9 => h9) rfl dX2_readNumber_77 ?_
            refine lv_iconst (v := 1) hx hb dX2_readNumber_80 (by decide) ?_
            refine lv_iadd hx hb dX2_readNumber_81 ?_
            refine va_put (ci := 2) (ty := .int) (C := RX2) (T := TX2) (N := 5) hx hb hts hiX2 tyX2 tyX2_ok nmX2 hown hK hP hD hS 0 rfl rfl 3 (by decide) (hts (.fieldLink RX2 39 "RiddleTrade$Offers" "position" "I") (List.mem_of_getElem? (i := 2) rfl)) (fun _ h9 => h9) rfl (by decide +kernel) rfl rfl (Nat.le_of_ble_eq_true rfl) dX2_readNumber_82 (fun H locs hP hD hS => ?_)
            have hP : va_P D vwCl (w_X2_readNumber cI cC h0 h1 h2 h3 ft fG rG len ((pos + 1) + 1) bad) H := hP
            have hD : va_D A (w_X2_readNumber cI cC h0 h1 h2 h3 ft fG rG len ((pos + 1) + 1) bad) := hD
            exact hJ85   ((r1 * 10) + r5) fG ((pos + 1) + 1) bad _ _ hP hD hS _ (lv_sub hl [2, 3, 4, 0] rfl) h
    · have h := (k_iB h).2 c4
      refine lv_aload_n hx hb dX2_readNumber_19 rfl (lv_at hl 1 rfl) ?_
      refine lv_iconst (v := 1) hx hb dX2_readNumber_20 (by decide) ?_
      refine va_put (ci := 2) (ty := .boolean) (C := RX2) (T := TX2) (N := 5) hx hb hts hiX2 tyX2 tyX2_ok nmX2 hown hK hP hD hS 0 rfl rfl 4 (by decide) (hts (.fieldLink RX2 42 "RiddleTrade$Offers" "faulty" "Z") (List.mem_of_getElem? (i := 1) rfl)) (fun _ h9 => h9) rfl (by decide +kernel) rfl rfl (Nat.le_of_ble_eq_true rfl) dX2_readNumber_21 (fun H locs hP hD hS => ?_)
      have hP : va_P D vwCl (w_X2_readNumber cI cC h0 h1 h2 h3 ft fG rG len pos 1) H := hP
      have hD : va_D A (w_X2_readNumber cI cC h0 h1 h2 h3 ft fG rG len pos 1) := hD
      obtain ⟨rfl, rfl, rfl⟩ := inj3 (Option.some.inj h)
      exact fin _ _ _ _ dX2_readNumber_24 hP hD hS
abbrev w_X2_readThing (cI cC : ClassId) (h0 h1 h2 h3 : Nat) (ft : Nat → Int32) (fG : Nat → Int32) (rG : Int32) (len : Int32) (pos : Int32) (bad : Int32) : va_W := [(h0, .inr (2, [.ref h1, .ref h2, .int len, .int pos, .int bad])), (h1, .inl (cC, 60, .inl ft)), (h2, .inr (4, [.ref h3, .int 5, .int rG])), (h3, .inl (cI, 150, .inl fG))]
def d_X2_readThing (p1 : Int32) (ft : Nat → Int32) (fG : Nat → Int32) (len : Int32) (pos : Int32) (bad : Int32) : Option ((Nat → Int32) × Int32 × Int32) :=
    ob1 (d_X2_here ft len pos bad) fun r1 =>
    if r1 = 46 then (ob1 (d_X4_put 150 p1 0 2 fG 5) fun fG_5 =>
    ob3 (d_X2_readNumber p1 1 1 99 ft fG_5 len (pos + 1) bad) fun fG_7 pos_8 bad_9 =>
    some (fG_7, pos_8, bad_9))
    else (if r1 = 97 then (ob1 (d_X4_put 150 p1 0 1 fG 5) fun fG_12 =>
    ob3 (d_X2_readNumber p1 1 0 7 ft fG_12 len (pos + 1) bad) fun fG_14 pos_15 bad_16 =>
    ob2 (d_X2_expect 58 ft len pos_15 bad_16) fun pos_18 bad_19 =>
    ob3 (d_X2_readNumber p1 2 0 19 ft fG_14 len pos_18 bad_19) fun fG_21 pos_22 bad_23 =>
    ob2 (d_X2_expect 61 ft len pos_22 bad_23) fun pos_25 bad_26 =>
    ob3 (d_X2_readNumber p1 3 0 99 ft fG_21 len pos_25 bad_26) fun fG_28 pos_29 bad_30 =>
    ob2 (d_X2_expect 42 ft len pos_29 bad_30) fun pos_32 bad_33 =>
    ob3 (d_X2_readNumber p1 4 1 99 ft fG_28 len pos_32 bad_33) fun fG_35 pos_36 bad_37 =>
    some (fG_35, pos_36, bad_37))
    else (if r1 = 114 then (ob1 (d_X4_put 150 p1 0 0 fG 5) fun fG_40 =>
    ob3 (d_X2_readNumber p1 1 0 7 ft fG_40 len (pos + 1) bad) fun fG_42 pos_43 bad_44 =>
    ob2 (d_X2_expect 58 ft len pos_43 bad_44) fun pos_46 bad_47 =>
    ob3 (d_X2_readNumber p1 2 1 50 ft fG_42 len pos_46 bad_47) fun fG_49 pos_50 bad_51 =>
    ob2 (d_X2_expect 61 ft len pos_50 bad_51) fun pos_53 bad_54 =>
    ob3 (d_X2_readNumber p1 3 0 99 ft fG_49 len pos_53 bad_54) fun fG_56 pos_57 bad_58 =>
    some (fG_56, pos_57, bad_58))
    else (some (fG, pos, 1))))
set_option maxHeartbeats 4000000 in
set_option maxRecDepth 100000 in
theorem c_X2_readThing (l : Launch) (D : va_G) (cI cC cE : ClassId) (h0 h1 h2 h3 : Nat) (sz : Nat) (ft : Nat → Int32) (fG : Nat → Int32) (rG : Int32) (len : Int32) (pos : Int32) (bad : Int32) (p1 : Int32) (o_fG : Nat → Int32) (o_pos : Int32) (o_bad : Int32) (h : d_X2_readThing p1 ft fG len pos bad = some (o_fG, o_pos, o_bad)) : Met l yX2_readThing wsX2_readThing ({ frames := 3, cells := 0, slots := 0, locals := 68 } : Room) (kP D (kT cI cC cE) [.ref h0, .int p1] (w_X2_readThing cI cC h0 h1 h2 h3 ft fG rG len pos bad) sz) (kQv D (kT cI cC cE) (w_X2_readThing cI cC h0 h1 h2 h3 ft fG rG len pos bad) (w_X2_readThing cI cC h0 h1 h2 h3 ft o_fG rG len o_pos o_bad) sz) 0 0 (va_A (w_X2_readThing cI cC h0 h1 h2 h3 ft fG rG len pos bad) sz) := by
  refine kMetV (cc := cX2_readThing) (maxL := 2) (own := RX2) (by decide) rfl (Nat.le_of_ble_eq_true rfl) rfl ?_
  intro p e s m below meth c A Q hx hb hml hown hts hP hK hD hA hS hname fin ls hl
  have hl : lv_has ls 2 [(0, .ref h0), (1, .int p1)] := hl
  have hiX2 : ∀ w ∈ u_ws RX2 TX2 5, w ∈ wsX2_readThing := by decide +kernel
  dsimp only [d_X2_readThing] at h
  refine lv_aload_n hx hb dX2_readThing_0 rfl (lv_at hl 0 rfl) ?_
  obtain ⟨r1, hu2, h⟩ := ob1_el h
  refine kcVi (ci := 2) (q := (RX2, TX2, 5)) (ws1 := (w_X2_readThing cI cC h0 h1 h2 h3 ft fG rG len pos bad)) ⟨hx, hb, hml, hown, hts⟩ [0, 1] [2, 3] (c_X2_here l D cI cC cE h0 h1 h2 _ ft len pos bad r1 hu2) (cwV 0 hts gX2_readThing_X2_here rfl rfl rfl (by decide +kernel) ⟨Nat.le_of_ble_eq_true rfl, Nat.le_of_ble_eq_true rfl⟩) hK hP hD hS hA rfl rfl rfl rfl rfl rfl rfl rfl rfl hl.1 rfl (Nat.le_of_ble_eq_true rfl) dX2_readThing_1 ⟨Nat.le_refl 0, Nat.le_refl 0⟩ (fun H locs hP hD hS => ?_)
  by_cases c4 : r1 = 46
  · have h := (k_iB h).1 c4
    refine lv_lookup (off := 175) (tgt := 179) hx hb dX2_readThing_4 (by decide) (by show Op.lookupswitch.offset [(46, 175), (97, 98), (114, 36)] (207) _ = _; rw [c4]; rfl) (by decide) ?_
    refine lv_aload_n hx hb dX2_readThing_179 rfl (lv_at hl 0 rfl) ?_
    refine lv_dup hx hb dX2_readThing_180 rfl ?_
    refine va_get (ci := 2) (C := RX2) (T := TX2) (N := 5) hx hb hts hiX2 hown hK hP 0 rfl rfl 3 (by decide) (hts (.fieldLink RX2 39 "RiddleTrade$Offers" "position" "I") (List.mem_of_getElem? (i := 1) rfl)) (fun _ h9 => h9) rfl dX2_readThing_181 ?_
    refine lv_iconst (v := 1) hx hb dX2_readThing_184 (by decide) ?_
    refine lv_iadd hx hb dX2_readThing_185 ?_
    refine va_put (ci := 2) (ty := .int) (C := RX2) (T := TX2) (N := 5) hx hb hts hiX2 tyX2 tyX2_ok nmX2 hown hK hP hD hS 0 rfl rfl 3 (by decide) (hts (.fieldLink RX2 39 "RiddleTrade$Offers" "position" "I") (List.mem_of_getElem? (i := 1) rfl)) (fun _ h9 => h9) rfl (by decide +kernel) rfl rfl (Nat.le_of_ble_eq_true rfl) dX2_readThing_186 (fun H locs hP hD hS => ?_)
    have hP : va_P D vwCl (w_X2_readThing cI cC h0 h1 h2 h3 ft fG rG len (pos + 1) bad) H := hP
    have hD : va_D A (w_X2_readThing cI cC h0 h1 h2 h3 ft fG rG len (pos + 1) bad) := hD
    refine lv_aload_n hx hb dX2_readThing_189 rfl (lv_at hl 0 rfl) ?_
    refine va_get (ci := 2) (C := RX2) (T := TX2) (N := 5) hx hb hts hiX2 hown hK hP 0 rfl rfl 1 (by decide) (hts (.fieldLink RX2 20 "RiddleTrade$Offers" "things" "LRiddleTrade$Table;") (List.mem_of_getElem? (i := 2) rfl)) (fun _ h9 => h9) rfl dX2_readThing_190 ?_
    refine lv_iload_n hx hb dX2_readThing_193 rfl (lv_at hl 1 rfl) ?_
    refine lv_iconst (v := 0) hx hb dX2_readThing_194 (by decide) ?_
    refine lv_iconst (v := 2) hx hb dX2_readThing_195 (by decide) ?_
    obtain ⟨fG_5, hu6, h⟩ := ob1_el h
    refine kcVv (ci := 4) (q := (RX4, TX4, 3)) (ws1 := (w_X2_readThing cI cC h0 h1 h2 h3 ft fG_5 rG len (pos + 1) bad)) ⟨hx, hb, hml, hown, hts⟩ [2, 3] [0, 1] (c_X4_put l D cI cC cE h2 h3 _ 150 fG 5 rG p1 0 2 fG_5 hu6) (cwV 3 hts gX2_readThing_X4_put rfl rfl rfl (by decide +kernel) ⟨Nat.le_of_ble_eq_true rfl, Nat.le_of_ble_eq_true rfl⟩) hK hP hD hS hA rfl rfl rfl rfl rfl rfl rfl rfl rfl hl.1 rfl (Nat.le_of_ble_eq_true rfl) dX2_readThing_196 ⟨Nat.le_refl 0, Nat.le_refl 0⟩ (fun H locs hP hD hS => ?_)
    refine lv_aload_n hx hb dX2_readThing_199 rfl (lv_at hl 0 rfl) ?_
    refine lv_iload_n hx hb dX2_readThing_200 rfl (lv_at hl 1 rfl) ?_
    refine lv_iconst (v := 1) hx hb dX2_readThing_201 (by decide) ?_
    refine lv_iconst (v := 1) hx hb dX2_readThing_202 (by decide) ?_
    refine lv_bipush (v := 99) hx hb dX2_readThing_203 (by decide) ?_
    obtain ⟨fG_7, pos_8, bad_9, hu10, h⟩ := ob3_el h
    refine kcVv (ci := 2) (q := (RX2, TX2, 5)) (ws1 := (w_X2_readThing cI cC h0 h1 h2 h3 ft fG_7 rG len pos_8 bad_9)) ⟨hx, hb, hml, hown, hts⟩ [0, 1, 2, 3] [] (c_X2_readNumber l D cI cC cE h0 h1 h2 h3 _ ft fG_5 rG len (pos + 1) bad p1 1 1 99 fG_7 pos_8 bad_9 hu10) (cwV 4 hts gX2_readThing_X2_readNumber rfl rfl rfl (by decide +kernel) ⟨Nat.le_of_ble_eq_true rfl, Nat.le_of_ble_eq_true rfl⟩) hK hP hD hS hA rfl rfl rfl rfl rfl rfl rfl rfl rfl hl.1 rfl (Nat.le_of_ble_eq_true rfl) dX2_readThing_205 ⟨Nat.le_refl 0, Nat.le_refl 0⟩ (fun H locs hP hD hS => ?_)
    refine lv_goto (tgt := 216) hx hb dX2_readThing_208 (by decide) ?_
    obtain ⟨rfl, rfl, rfl⟩ := inj3 (Option.some.inj h)
    exact fin _ _ _ _ dX2_readThing_216 hP hD hS
  · have h := (k_iB h).2 c4
    by_cases c11 : r1 = 97
    · have h := (k_iB h).1 c11
      refine lv_lookup (off := 98) (tgt := 102) hx hb dX2_readThing_4 (by decide) (by show Op.lookupswitch.offset [(46, 175), (97, 98), (114, 36)] (207) _ = _; rw [lv_osw (a := 46) c4 rfl, c11]; rfl) (by decide) ?_
      refine lv_aload_n hx hb dX2_readThing_102 rfl (lv_at hl 0 rfl) ?_
      refine lv_dup hx hb dX2_readThing_103 rfl ?_
      refine va_get (ci := 2) (C := RX2) (T := TX2) (N := 5) hx hb hts hiX2 hown hK hP 0 rfl rfl 3 (by decide) (hts (.fieldLink RX2 39 "RiddleTrade$Offers" "position" "I") (List.mem_of_getElem? (i := 1) rfl)) (fun _ h9 => h9) rfl dX2_readThing_104 ?_
      refine lv_iconst (v := 1) hx hb dX2_readThing_107 (by decide) ?_
      refine lv_iadd hx hb dX2_readThing_108 ?_
      refine va_put (ci := 2) (ty := .int) (C := RX2) (T := TX2) (N := 5) hx hb hts hiX2 tyX2 tyX2_ok nmX2 hown hK hP hD hS 0 rfl rfl 3 (by decide) (hts (.fieldLink RX2 39 "RiddleTrade$Offers" "position" "I") (List.mem_of_getElem? (i := 1) rfl)) (fun _ h9 => h9) rfl (by decide +kernel) rfl rfl (Nat.le_of_ble_eq_true rfl) dX2_readThing_109 (fun H locs hP hD hS => ?_)
      have hP : va_P D vwCl (w_X2_readThing cI cC h0 h1 h2 h3 ft fG rG len (pos + 1) bad) H := hP
      have hD : va_D A (w_X2_readThing cI cC h0 h1 h2 h3 ft fG rG len (pos + 1) bad) := hD
      refine lv_aload_n hx hb dX2_readThing_112 rfl (lv_at hl 0 rfl) ?_
      refine va_get (ci := 2) (C := RX2) (T := TX2) (N := 5) hx hb hts hiX2 hown hK hP 0 rfl rfl 1 (by decide) (hts (.fieldLink RX2 20 "RiddleTrade$Offers" "things" "LRiddleTrade$Table;") (List.mem_of_getElem? (i := 2) rfl)) (fun _ h9 => h9) rfl dX2_readThing_113 ?_
      refine lv_iload_n hx hb dX2_readThing_116 rfl (lv_at hl 1 rfl) ?_
      refine lv_iconst (v := 0) hx hb dX2_readThing_117 (by decide) ?_
      refine lv_iconst (v := 1) hx hb dX2_readThing_118 (by decide) ?_
      obtain ⟨fG_12, hu13, h⟩ := ob1_el h
      refine kcVv (ci := 4) (q := (RX4, TX4, 3)) (ws1 := (w_X2_readThing cI cC h0 h1 h2 h3 ft fG_12 rG len (pos + 1) bad)) ⟨hx, hb, hml, hown, hts⟩ [2, 3] [0, 1] (c_X4_put l D cI cC cE h2 h3 _ 150 fG 5 rG p1 0 1 fG_12 hu13) (cwV 3 hts gX2_readThing_X4_put rfl rfl rfl (by decide +kernel) ⟨Nat.le_of_ble_eq_true rfl, Nat.le_of_ble_eq_true rfl⟩) hK hP hD hS hA rfl rfl rfl rfl rfl rfl rfl rfl rfl hl.1 rfl (Nat.le_of_ble_eq_true rfl) dX2_readThing_119 ⟨Nat.le_refl 0, Nat.le_refl 0⟩ (fun H locs hP hD hS => ?_)
      refine lv_aload_n hx hb dX2_readThing_122 rfl (lv_at hl 0 rfl) ?_
      refine lv_iload_n hx hb dX2_readThing_123 rfl (lv_at hl 1 rfl) ?_
      refine lv_iconst (v := 1) hx hb dX2_readThing_124 (by decide) ?_
      refine lv_iconst (v := 0) hx hb dX2_readThing_125 (by decide) ?_
      refine lv_bipush (v := 7) hx hb dX2_readThing_126 (by decide) ?_
      obtain ⟨fG_14, pos_15, bad_16, hu17, h⟩ := ob3_el h
      refine kcVv (ci := 2) (q := (RX2, TX2, 5)) (ws1 := (w_X2_readThing cI cC h0 h1 h2 h3 ft fG_14 rG len pos_15 bad_16)) ⟨hx, hb, hml, hown, hts⟩ [0, 1, 2, 3] [] (c_X2_readNumber l D cI cC cE h0 h1 h2 h3 _ ft fG_12 rG len (pos + 1) bad p1 1 0 7 fG_14 pos_15 bad_16 hu17) (cwV 4 hts gX2_readThing_X2_readNumber rfl rfl rfl (by decide +kernel) ⟨Nat.le_of_ble_eq_true rfl, Nat.le_of_ble_eq_true rfl⟩) hK hP hD hS hA rfl rfl rfl rfl rfl rfl rfl rfl rfl hl.1 rfl (Nat.le_of_ble_eq_true rfl) dX2_readThing_128 ⟨Nat.le_refl 0, Nat.le_refl 0⟩ (fun H locs hP hD hS => ?_)
      refine lv_aload_n hx hb dX2_readThing_131 rfl (lv_at hl 0 rfl) ?_
      refine lv_bipush (v := 58) hx hb dX2_readThing_132 (by decide) ?_
      obtain ⟨pos_18, bad_19, hu20, h⟩ := ob2_el h
      refine kcVv (ci := 2) (q := (RX2, TX2, 5)) (ws1 := (w_X2_readThing cI cC h0 h1 h2 h3 ft fG_14 rG len pos_18 bad_19)) ⟨hx, hb, hml, hown, hts⟩ [0, 1] [2, 3] (c_X2_expect l D cI cC cE h0 h1 h2 _ ft len pos_15 bad_16 58 pos_18 bad_19 hu20) (cwV 1 hts gX2_readThing_X2_expect rfl rfl rfl (by decide +kernel) ⟨Nat.le_of_ble_eq_true rfl, Nat.le_of_ble_eq_true rfl⟩) hK hP hD hS hA rfl rfl rfl rfl rfl rfl rfl rfl rfl hl.1 rfl (Nat.le_of_ble_eq_true rfl) dX2_readThing_134 ⟨Nat.le_refl 0, Nat.le_refl 0⟩ (fun H locs hP hD hS => ?_)
      refine lv_aload_n hx hb dX2_readThing_137 rfl (lv_at hl 0 rfl) ?_
      refine lv_iload_n hx hb dX2_readThing_138 rfl (lv_at hl 1 rfl) ?_
      refine lv_iconst (v := 2) hx hb dX2_readThing_139 (by decide) ?_
      refine lv_iconst (v := 0) hx hb dX2_readThing_140 (by decide) ?_
      refine lv_bipush (v := 19) hx hb dX2_readThing_141 (by decide) ?_
      obtain ⟨fG_21, pos_22, bad_23, hu24, h⟩ := ob3_el h
      refine kcVv (ci := 2) (q := (RX2, TX2, 5)) (ws1 := (w_X2_readThing cI cC h0 h1 h2 h3 ft fG_21 rG len pos_22 bad_23)) ⟨hx, hb, hml, hown, hts⟩ [0, 1, 2, 3] [] (c_X2_readNumber l D cI cC cE h0 h1 h2 h3 _ ft fG_14 rG len pos_18 bad_19 p1 2 0 19 fG_21 pos_22 bad_23 hu24) (cwV 4 hts gX2_readThing_X2_readNumber rfl rfl rfl (by decide +kernel) ⟨Nat.le_of_ble_eq_true rfl, Nat.le_of_ble_eq_true rfl⟩) hK hP hD hS hA rfl rfl rfl rfl rfl rfl rfl rfl rfl hl.1 rfl (Nat.le_of_ble_eq_true rfl) dX2_readThing_143 ⟨Nat.le_refl 0, Nat.le_refl 0⟩ (fun H locs hP hD hS => ?_)
      refine lv_aload_n hx hb dX2_readThing_146 rfl (lv_at hl 0 rfl) ?_
      refine lv_bipush (v := 61) hx hb dX2_readThing_147 (by decide) ?_
      obtain ⟨pos_25, bad_26, hu27, h⟩ := ob2_el h
      refine kcVv (ci := 2) (q := (RX2, TX2, 5)) (ws1 := (w_X2_readThing cI cC h0 h1 h2 h3 ft fG_21 rG len pos_25 bad_26)) ⟨hx, hb, hml, hown, hts⟩ [0, 1] [2, 3] (c_X2_expect l D cI cC cE h0 h1 h2 _ ft len pos_22 bad_23 61 pos_25 bad_26 hu27) (cwV 1 hts gX2_readThing_X2_expect rfl rfl rfl (by decide +kernel) ⟨Nat.le_of_ble_eq_true rfl, Nat.le_of_ble_eq_true rfl⟩) hK hP hD hS hA rfl rfl rfl rfl rfl rfl rfl rfl rfl hl.1 rfl (Nat.le_of_ble_eq_true rfl) dX2_readThing_149 ⟨Nat.le_refl 0, Nat.le_refl 0⟩ (fun H locs hP hD hS => ?_)
      refine lv_aload_n hx hb dX2_readThing_152 rfl (lv_at hl 0 rfl) ?_
      refine lv_iload_n hx hb dX2_readThing_153 rfl (lv_at hl 1 rfl) ?_
      refine lv_iconst (v := 3) hx hb dX2_readThing_154 (by decide) ?_
      refine lv_iconst (v := 0) hx hb dX2_readThing_155 (by decide) ?_
      refine lv_bipush (v := 99) hx hb dX2_readThing_156 (by decide) ?_
      obtain ⟨fG_28, pos_29, bad_30, hu31, h⟩ := ob3_el h
      refine kcVv (ci := 2) (q := (RX2, TX2, 5)) (ws1 := (w_X2_readThing cI cC h0 h1 h2 h3 ft fG_28 rG len pos_29 bad_30)) ⟨hx, hb, hml, hown, hts⟩ [0, 1, 2, 3] [] (c_X2_readNumber l D cI cC cE h0 h1 h2 h3 _ ft fG_21 rG len pos_25 bad_26 p1 3 0 99 fG_28 pos_29 bad_30 hu31) (cwV 4 hts gX2_readThing_X2_readNumber rfl rfl rfl (by decide +kernel) ⟨Nat.le_of_ble_eq_true rfl, Nat.le_of_ble_eq_true rfl⟩) hK hP hD hS hA rfl rfl rfl rfl rfl rfl rfl rfl rfl hl.1 rfl (Nat.le_of_ble_eq_true rfl) dX2_readThing_158 ⟨Nat.le_refl 0, Nat.le_refl 0⟩ (fun H locs hP hD hS => ?_)
      refine lv_aload_n hx hb dX2_readThing_161 rfl (lv_at hl 0 rfl) ?_
      refine lv_bipush (v := 42) hx hb dX2_readThing_162 (by decide) ?_
      obtain ⟨pos_32, bad_33, hu34, h⟩ := ob2_el h
      refine kcVv (ci := 2) (q := (RX2, TX2, 5)) (ws1 := (w_X2_readThing cI cC h0 h1 h2 h3 ft fG_28 rG len pos_32 bad_33)) ⟨hx, hb, hml, hown, hts⟩ [0, 1] [2, 3] (c_X2_expect l D cI cC cE h0 h1 h2 _ ft len pos_29 bad_30 42 pos_32 bad_33 hu34) (cwV 1 hts gX2_readThing_X2_expect rfl rfl rfl (by decide +kernel) ⟨Nat.le_of_ble_eq_true rfl, Nat.le_of_ble_eq_true rfl⟩) hK hP hD hS hA rfl rfl rfl rfl rfl rfl rfl rfl rfl hl.1 rfl (Nat.le_of_ble_eq_true rfl) dX2_readThing_164 ⟨Nat.le_refl 0, Nat.le_refl 0⟩ (fun H locs hP hD hS => ?_)
      refine lv_aload_n hx hb dX2_readThing_167 rfl (lv_at hl 0 rfl) ?_
      refine lv_iload_n hx hb dX2_readThing_168 rfl (lv_at hl 1 rfl) ?_
      refine lv_iconst (v := 4) hx hb dX2_readThing_169 (by decide) ?_
      refine lv_iconst (v := 1) hx hb dX2_readThing_170 (by decide) ?_
      refine lv_bipush (v := 99) hx hb dX2_readThing_171 (by decide) ?_
      obtain ⟨fG_35, pos_36, bad_37, hu38, h⟩ := ob3_el h
      refine kcVv (ci := 2) (q := (RX2, TX2, 5)) (ws1 := (w_X2_readThing cI cC h0 h1 h2 h3 ft fG_35 rG len pos_36 bad_37)) ⟨hx, hb, hml, hown, hts⟩ [0, 1, 2, 3] [] (c_X2_readNumber l D cI cC cE h0 h1 h2 h3 _ ft fG_28 rG len pos_32 bad_33 p1 4 1 99 fG_35 pos_36 bad_37 hu38) (cwV 4 hts gX2_readThing_X2_readNumber rfl rfl rfl (by decide +kernel) ⟨Nat.le_of_ble_eq_true rfl, Nat.le_of_ble_eq_true rfl⟩) hK hP hD hS hA rfl rfl rfl rfl rfl rfl rfl rfl rfl hl.1 rfl (Nat.le_of_ble_eq_true rfl) dX2_readThing_173 ⟨Nat.le_refl 0, Nat.le_refl 0⟩ (fun H locs hP hD hS => ?_)
      refine lv_goto (tgt := 216) hx hb dX2_readThing_176 (by decide) ?_
      obtain ⟨rfl, rfl, rfl⟩ := inj3 (Option.some.inj h)
      exact fin _ _ _ _ dX2_readThing_216 hP hD hS
    · have h := (k_iB h).2 c11
      by_cases c39 : r1 = 114
      · have h := (k_iB h).1 c39
        refine lv_lookup (off := 36) (tgt := 40) hx hb dX2_readThing_4 (by decide) (by show Op.lookupswitch.offset [(46, 175), (97, 98), (114, 36)] (207) _ = _; rw [lv_osw (a := 46) c4 rfl, lv_osw (a := 97) c11 rfl, c39]; rfl) (by decide) ?_
        refine lv_aload_n hx hb dX2_readThing_40 rfl (lv_at hl 0 rfl) ?_
        refine lv_dup hx hb dX2_readThing_41 rfl ?_
        refine va_get (ci := 2) (C := RX2) (T := TX2) (N := 5) hx hb hts hiX2 hown hK hP 0 rfl rfl 3 (by decide) (hts (.fieldLink RX2 39 "RiddleTrade$Offers" "position" "I") (List.mem_of_getElem? (i := 1) rfl)) (fun _ h9 => h9) rfl dX2_readThing_42 ?_
        refine lv_iconst (v := 1) hx hb dX2_readThing_45 (by decide) ?_
        refine lv_iadd hx hb dX2_readThing_46 ?_
        refine va_put (ci := 2) (ty := .int) (C := RX2) (T := TX2) (N := 5) hx hb hts hiX2 tyX2 tyX2_ok nmX2 hown hK hP hD hS 0 rfl rfl 3 (by decide) (hts (.fieldLink RX2 39 "RiddleTrade$Offers" "position" "I") (List.mem_of_getElem? (i := 1) rfl)) (fun _ h9 => h9) rfl (by decide +kernel) rfl rfl (Nat.le_of_ble_eq_true rfl) dX2_readThing_47 (fun H locs hP hD hS => ?_)
        have hP : va_P D vwCl (w_X2_readThing cI cC h0 h1 h2 h3 ft fG rG len (pos + 1) bad) H := hP
        have hD : va_D A (w_X2_readThing cI cC h0 h1 h2 h3 ft fG rG len (pos + 1) bad) := hD
        refine lv_aload_n hx hb dX2_readThing_50 rfl (lv_at hl 0 rfl) ?_
        refine va_get (ci := 2) (C := RX2) (T := TX2) (N := 5) hx hb hts hiX2 hown hK hP 0 rfl rfl 1 (by decide) (hts (.fieldLink RX2 20 "RiddleTrade$Offers" "things" "LRiddleTrade$Table;") (List.mem_of_getElem? (i := 2) rfl)) (fun _ h9 => h9) rfl dX2_readThing_51 ?_
        refine lv_iload_n hx hb dX2_readThing_54 rfl (lv_at hl 1 rfl) ?_
        refine lv_iconst (v := 0) hx hb dX2_readThing_55 (by decide) ?_
        refine lv_iconst (v := 0) hx hb dX2_readThing_56 (by decide) ?_
        obtain ⟨fG_40, hu41, h⟩ := ob1_el h
        refine kcVv (ci := 4) (q := (RX4, TX4, 3)) (ws1 := (w_X2_readThing cI cC h0 h1 h2 h3 ft fG_40 rG len (pos + 1) bad)) ⟨hx, hb, hml, hown, hts⟩ [2, 3] [0, 1] (c_X4_put l D cI cC cE h2 h3 _ 150 fG 5 rG p1 0 0 fG_40 hu41) (cwV 3 hts gX2_readThing_X4_put rfl rfl rfl (by decide +kernel) ⟨Nat.le_of_ble_eq_true rfl, Nat.le_of_ble_eq_true rfl⟩) hK hP hD hS hA rfl rfl rfl rfl rfl rfl rfl rfl rfl hl.1 rfl (Nat.le_of_ble_eq_true rfl) dX2_readThing_57 ⟨Nat.le_refl 0, Nat.le_refl 0⟩ (fun H locs hP hD hS => ?_)
        refine lv_aload_n hx hb dX2_readThing_60 rfl (lv_at hl 0 rfl) ?_
        refine lv_iload_n hx hb dX2_readThing_61 rfl (lv_at hl 1 rfl) ?_
        refine lv_iconst (v := 1) hx hb dX2_readThing_62 (by decide) ?_
        refine lv_iconst (v := 0) hx hb dX2_readThing_63 (by decide) ?_
        refine lv_bipush (v := 7) hx hb dX2_readThing_64 (by decide) ?_
        obtain ⟨fG_42, pos_43, bad_44, hu45, h⟩ := ob3_el h
        refine kcVv (ci := 2) (q := (RX2, TX2, 5)) (ws1 := (w_X2_readThing cI cC h0 h1 h2 h3 ft fG_42 rG len pos_43 bad_44)) ⟨hx, hb, hml, hown, hts⟩ [0, 1, 2, 3] [] (c_X2_readNumber l D cI cC cE h0 h1 h2 h3 _ ft fG_40 rG len (pos + 1) bad p1 1 0 7 fG_42 pos_43 bad_44 hu45) (cwV 4 hts gX2_readThing_X2_readNumber rfl rfl rfl (by decide +kernel) ⟨Nat.le_of_ble_eq_true rfl, Nat.le_of_ble_eq_true rfl⟩) hK hP hD hS hA rfl rfl rfl rfl rfl rfl rfl rfl rfl hl.1 rfl (Nat.le_of_ble_eq_true rfl) dX2_readThing_66 ⟨Nat.le_refl 0, Nat.le_refl 0⟩ (fun H locs hP hD hS => ?_)
        refine lv_aload_n hx hb dX2_readThing_69 rfl (lv_at hl 0 rfl) ?_
        refine lv_bipush (v := 58) hx hb dX2_readThing_70 (by decide) ?_
        obtain ⟨pos_46, bad_47, hu48, h⟩ := ob2_el h
        refine kcVv (ci := 2) (q := (RX2, TX2, 5)) (ws1 := (w_X2_readThing cI cC h0 h1 h2 h3 ft fG_42 rG len pos_46 bad_47)) ⟨hx, hb, hml, hown, hts⟩ [0, 1] [2, 3] (c_X2_expect l D cI cC cE h0 h1 h2 _ ft len pos_43 bad_44 58 pos_46 bad_47 hu48) (cwV 1 hts gX2_readThing_X2_expect rfl rfl rfl (by decide +kernel) ⟨Nat.le_of_ble_eq_true rfl, Nat.le_of_ble_eq_true rfl⟩) hK hP hD hS hA rfl rfl rfl rfl rfl rfl rfl rfl rfl hl.1 rfl (Nat.le_of_ble_eq_true rfl) dX2_readThing_72 ⟨Nat.le_refl 0, Nat.le_refl 0⟩ (fun H locs hP hD hS => ?_)
        refine lv_aload_n hx hb dX2_readThing_75 rfl (lv_at hl 0 rfl) ?_
        refine lv_iload_n hx hb dX2_readThing_76 rfl (lv_at hl 1 rfl) ?_
        refine lv_iconst (v := 2) hx hb dX2_readThing_77 (by decide) ?_
        refine lv_iconst (v := 1) hx hb dX2_readThing_78 (by decide) ?_
        refine lv_bipush (v := 50) hx hb dX2_readThing_79 (by decide) ?_
        obtain ⟨fG_49, pos_50, bad_51, hu52, h⟩ := ob3_el h
        refine kcVv (ci := 2) (q := (RX2, TX2, 5)) (ws1 := (w_X2_readThing cI cC h0 h1 h2 h3 ft fG_49 rG len pos_50 bad_51)) ⟨hx, hb, hml, hown, hts⟩ [0, 1, 2, 3] [] (c_X2_readNumber l D cI cC cE h0 h1 h2 h3 _ ft fG_42 rG len pos_46 bad_47 p1 2 1 50 fG_49 pos_50 bad_51 hu52) (cwV 4 hts gX2_readThing_X2_readNumber rfl rfl rfl (by decide +kernel) ⟨Nat.le_of_ble_eq_true rfl, Nat.le_of_ble_eq_true rfl⟩) hK hP hD hS hA rfl rfl rfl rfl rfl rfl rfl rfl rfl hl.1 rfl (Nat.le_of_ble_eq_true rfl) dX2_readThing_81 ⟨Nat.le_refl 0, Nat.le_refl 0⟩ (fun H locs hP hD hS => ?_)
        refine lv_aload_n hx hb dX2_readThing_84 rfl (lv_at hl 0 rfl) ?_
        refine lv_bipush (v := 61) hx hb dX2_readThing_85 (by decide) ?_
        obtain ⟨pos_53, bad_54, hu55, h⟩ := ob2_el h
        refine kcVv (ci := 2) (q := (RX2, TX2, 5)) (ws1 := (w_X2_readThing cI cC h0 h1 h2 h3 ft fG_49 rG len pos_53 bad_54)) ⟨hx, hb, hml, hown, hts⟩ [0, 1] [2, 3] (c_X2_expect l D cI cC cE h0 h1 h2 _ ft len pos_50 bad_51 61 pos_53 bad_54 hu55) (cwV 1 hts gX2_readThing_X2_expect rfl rfl rfl (by decide +kernel) ⟨Nat.le_of_ble_eq_true rfl, Nat.le_of_ble_eq_true rfl⟩) hK hP hD hS hA rfl rfl rfl rfl rfl rfl rfl rfl rfl hl.1 rfl (Nat.le_of_ble_eq_true rfl) dX2_readThing_87 ⟨Nat.le_refl 0, Nat.le_refl 0⟩ (fun H locs hP hD hS => ?_)
        refine lv_aload_n hx hb dX2_readThing_90 rfl (lv_at hl 0 rfl) ?_
        refine lv_iload_n hx hb dX2_readThing_91 rfl (lv_at hl 1 rfl) ?_
        refine lv_iconst (v := 3) hx hb dX2_readThing_92 (by decide) ?_
        refine lv_iconst (v := 0) hx hb dX2_readThing_93 (by decide) ?_
        refine lv_bipush (v := 99) hx hb dX2_readThing_94 (by decide) ?_
        obtain ⟨fG_56, pos_57, bad_58, hu59, h⟩ := ob3_el h
        refine kcVv (ci := 2) (q := (RX2, TX2, 5)) (ws1 := (w_X2_readThing cI cC h0 h1 h2 h3 ft fG_56 rG len pos_57 bad_58)) ⟨hx, hb, hml, hown, hts⟩ [0, 1, 2, 3] [] (c_X2_readNumber l D cI cC cE h0 h1 h2 h3 _ ft fG_49 rG len pos_53 bad_54 p1 3 0 99 fG_56 pos_57 bad_58 hu59) (cwV 4 hts gX2_readThing_X2_readNumber rfl rfl rfl (by decide +kernel) ⟨Nat.le_of_ble_eq_true rfl, Nat.le_of_ble_eq_true rfl⟩) hK hP hD hS hA rfl rfl rfl rfl rfl rfl rfl rfl rfl hl.1 rfl (Nat.le_of_ble_eq_true rfl) dX2_readThing_96 ⟨Nat.le_refl 0, Nat.le_refl 0⟩ (fun H locs hP hD hS => ?_)
        refine lv_goto (tgt := 216) hx hb dX2_readThing_99 (by decide) ?_
        obtain ⟨rfl, rfl, rfl⟩ := inj3 (Option.some.inj h)
        exact fin _ _ _ _ dX2_readThing_216 hP hD hS
      · have h := (k_iB h).2 c39
        refine lv_lookup (off := 207) (tgt := 211) hx hb dX2_readThing_4 (by decide) (by show Op.lookupswitch.offset [(46, 175), (97, 98), (114, 36)] (207) _ = _; rw [lv_osw (a := 46) c4 rfl, lv_osw (a := 97) c11 rfl, lv_osw (a := 114) c39 rfl]; rfl) (by decide) ?_
        refine lv_aload_n hx hb dX2_readThing_211 rfl (lv_at hl 0 rfl) ?_
        refine lv_iconst (v := 1) hx hb dX2_readThing_212 (by decide) ?_
        refine va_put (ci := 2) (ty := .boolean) (C := RX2) (T := TX2) (N := 5) hx hb hts hiX2 tyX2 tyX2_ok nmX2 hown hK hP hD hS 0 rfl rfl 4 (by decide) (hts (.fieldLink RX2 42 "RiddleTrade$Offers" "faulty" "Z") (List.mem_of_getElem? (i := 3) rfl)) (fun _ h9 => h9) rfl (by decide +kernel) rfl rfl (Nat.le_of_ble_eq_true rfl) dX2_readThing_213 (fun H locs hP hD hS => ?_)
        have hP : va_P D vwCl (w_X2_readThing cI cC h0 h1 h2 h3 ft fG rG len pos 1) H := hP
        have hD : va_D A (w_X2_readThing cI cC h0 h1 h2 h3 ft fG rG len pos 1) := hD
        obtain ⟨rfl, rfl, rfl⟩ := inj3 (Option.some.inj h)
        exact fin _ _ _ _ dX2_readThing_216 hP hD hS
abbrev w_X2_read (cI cC : ClassId) (h0 h1 h2 h3 : Nat) (ft : Nat → Int32) (fG : Nat → Int32) (rG : Int32) (len : Int32) (pos : Int32) (bad : Int32) : va_W := [(h0, .inr (2, [.ref h1, .ref h2, .int len, .int pos, .int bad])), (h1, .inl (cC, 60, .inl ft)), (h2, .inr (4, [.ref h3, .int 5, .int rG])), (h3, .inl (cI, 150, .inl fG))]
def lp_X2_read_19 (ft : Nat → Int32) (len : Int32) : Nat → Int32 → (Nat → Int32) → Int32 → Int32 → Int32 → Option (Int32 × (Nat → Int32) × Int32 × Int32 × Int32)
  | 0 => fun _ _ _ _ _ => none
  | k + 1 => fun x1 fG rG pos bad =>
    if 30 ≤ x1 then (some (pos, fG, rG, pos, bad))
    else (tb2 (d_X4_addRow rG) fun r4 rG_5 =>
    ob3 (d_X2_readThing r4 ft fG len pos bad) fun fG_7 pos_8 bad_9 =>
    if bad_9 = 0 then (if pos_8 = len then (some ((-1), fG_7, rG_5, pos_8, bad_9))
    else (ob2 (d_X2_expect 59 ft len pos_8 bad_9) fun pos_13 bad_14 =>
    (lp_X2_read_19  ft len k) (x1 + 1) fG_7 rG_5 pos_13 bad_14))
    else (some (pos_8, fG_7, rG_5, pos_8, bad_9)))
def d_X2_read (ft : Nat → Int32) (fG : Nat → Int32) (rG : Int32) (len : Int32) (pos : Int32) (bad : Int32) : Option (Int32 × (Nat → Int32) × Int32 × Int32 × Int32) :=
    tb1 (d_X4_dropRows rG) fun rG_1 =>
    lp_X2_read_19  ft len fuel 0 fG rG_1 0 0
set_option maxHeartbeats 4000000 in
set_option maxRecDepth 100000 in
theorem c_X2_read (l : Launch) (D : va_G) (cI cC cE : ClassId) (h0 h1 h2 h3 : Nat) (sz : Nat) (ft : Nat → Int32) (fG : Nat → Int32) (rG : Int32) (len : Int32) (pos : Int32) (bad : Int32) (r0 : Int32) (o_fG : Nat → Int32) (o_rG : Int32) (o_pos : Int32) (o_bad : Int32) (h : d_X2_read ft fG rG len pos bad = some (r0, o_fG, o_rG, o_pos, o_bad)) : Met l yX2_read wsX2_read ({ frames := 4, cells := 0, slots := 0, locals := 89 } : Room) (kP D (kT cI cC cE) [.ref h0] (w_X2_read cI cC h0 h1 h2 h3 ft fG rG len pos bad) sz) (kQi D (kT cI cC cE) (w_X2_read cI cC h0 h1 h2 h3 ft fG rG len pos bad) (w_X2_read cI cC h0 h1 h2 h3 ft o_fG o_rG len o_pos o_bad) sz r0) 0 0 (va_A (w_X2_read cI cC h0 h1 h2 h3 ft fG rG len pos bad) sz) := by
  refine kMetI (cc := cX2_read) (maxL := 2) (own := RX2) (by decide) rfl (Nat.le_of_ble_eq_true rfl) rfl ?_
  intro p e s m below meth c A Q hx hb hml hown hts hP hK hD hA hS hname fin ls hl
  have hl : lv_has ls 2 [(0, .ref h0)] := hl
  have hiX2 : ∀ w ∈ u_ws RX2 TX2 5, w ∈ wsX2_read := by decide +kernel
  have hL19 : ∀ (k : Nat), ∀ (x1 : Int32) (fG : Nat → Int32) (rG : Int32) (pos : Int32) (bad : Int32) (H : Heap) (locs : List Loc), va_P D vwCl (w_X2_read cI cC h0 h1 h2 h3 ft fG rG len pos bad) H → va_D A (w_X2_read cI cC h0 h1 h2 h3 ft fG rG len pos bad) → va_S A s.heap H locs → ∀ (ls : Array Slot), lv_has ls 2 [(0, .ref h0), (1, .int x1)] → lp_X2_read_19  ft len k x1 fG rG pos bad = some (r0, o_fG, o_rG, o_pos, o_bad) → W p l e ({ frames := 4, cells := 0, slots := 0, locals := 89 } : Room) s m [.ref h0].toArray below meth c H locs 0 0 Q (F0 m 19 ls []) := by
    intro k
    induction k with
    | zero =>
      intro x1 fG rG pos bad H locs hP hD hS ls hl h
      exact k_none h
    | succ k ih =>
      intro x1 fG rG pos bad H locs hP hD hS ls hl h
      dsimp only [lp_X2_read_19] at h
      refine lv_iload_n hx hb dX2_read_19 rfl (lv_at hl 1 rfl) ?_
      refine lv_bipush (v := 30) hx hb dX2_read_20 (by decide) ?_
      refine lv_icmp_ge (tgt := 73) hx hb dX2_read_22 (by decide) (fun c3 => ?_) (fun c3 => ?_)
      · have h := (k_iB h).1 c3
        refine lv_aload_n hx hb dX2_read_73 rfl (lv_at hl 0 rfl) ?_
        refine va_get (ci := 2) (C := RX2) (T := TX2) (N := 5) hx hb hts hiX2 hown hK hP 0 rfl rfl 3 (by decide) (hts (.fieldLink RX2 39 "RiddleTrade$Offers" "position" "I") (List.mem_of_getElem? (i := 2) rfl)) (fun _ h9 => h9) rfl dX2_read_74 ?_
        obtain ⟨rfl, rfl, rfl, rfl, rfl⟩ := inj5 (Option.some.inj h)
        exact fin _ _ _ _ dX2_read_77 hP hD hS
      · have h := (k_iB h).2 c3
        refine lv_aload_n hx hb dX2_read_25 rfl (lv_at hl 0 rfl) ?_
        refine lv_aload_n hx hb dX2_read_26 rfl (lv_at hl 0 rfl) ?_
        refine va_get (ci := 2) (C := RX2) (T := TX2) (N := 5) hx hb hts hiX2 hown hK hP 0 rfl rfl 1 (by decide) (hts (.fieldLink RX2 20 "RiddleTrade$Offers" "things" "LRiddleTrade$Table;") (List.mem_of_getElem? (i := 1) rfl)) (fun _ h9 => h9) rfl dX2_read_27 ?_
        obtain ⟨r4, rG_5, hu6, h⟩ := tb2_el h
        refine kcVi (ci := 4) (q := (RX4, TX4, 3)) (ws1 := (w_X2_read cI cC h0 h1 h2 h3 ft fG rG_5 len pos bad)) ⟨hx, hb, hml, hown, hts⟩ [2] [0, 1, 3] (c_X4_addRow l D cI cC cE h2 h3 _ 5 rG r4 rG_5 hu6) (cwV 0 hts gX2_read_X4_addRow rfl rfl rfl (by decide +kernel) ⟨Nat.le_of_ble_eq_true rfl, Nat.le_of_ble_eq_true rfl⟩) hK hP hD hS hA rfl rfl rfl rfl rfl rfl rfl rfl rfl hl.1 rfl (Nat.le_of_ble_eq_true rfl) dX2_read_30 ⟨Nat.le_refl 0, Nat.le_refl 0⟩ (fun H locs hP hD hS => ?_)
        obtain ⟨fG_7, pos_8, bad_9, hu10, h⟩ := ob3_el h
        refine kcVv (ci := 2) (q := (RX2, TX2, 5)) (ws1 := (w_X2_read cI cC h0 h1 h2 h3 ft fG_7 rG_5 len pos_8 bad_9)) ⟨hx, hb, hml, hown, hts⟩ [0, 1, 2, 3] [] (c_X2_readThing l D cI cC cE h0 h1 h2 h3 _ ft fG rG_5 len pos bad r4 fG_7 pos_8 bad_9 hu10) (cwV 1 hts gX2_read_X2_readThing rfl rfl rfl (by decide +kernel) ⟨Nat.le_of_ble_eq_true rfl, Nat.le_of_ble_eq_true rfl⟩) hK hP hD hS hA rfl rfl rfl rfl rfl rfl rfl rfl rfl hl.1 rfl (Nat.le_of_ble_eq_true rfl) dX2_read_33 ⟨Nat.le_refl 0, Nat.le_refl 0⟩ (fun H locs hP hD hS => ?_)
        refine lv_aload_n hx hb dX2_read_36 rfl (lv_at hl 0 rfl) ?_
        refine va_get (ci := 2) (C := RX2) (T := TX2) (N := 5) hx hb hts hiX2 hown hK hP 0 rfl rfl 4 (by decide) (hts (.fieldLink RX2 42 "RiddleTrade$Offers" "faulty" "Z") (List.mem_of_getElem? (i := 3) rfl)) (fun _ h9 => h9) rfl dX2_read_37 ?_
        refine lv_if_eq (tgt := 48) hx hb dX2_read_40 (by decide) (fun c11 => ?_) (fun c11 => ?_)
        · have h := (k_iB h).1 c11
          refine lv_aload_n hx hb dX2_read_48 rfl (lv_at hl 0 rfl) ?_
          refine va_get (ci := 2) (C := RX2) (T := TX2) (N := 5) hx hb hts hiX2 hown hK hP 0 rfl rfl 3 (by decide) (hts (.fieldLink RX2 39 "RiddleTrade$Offers" "position" "I") (List.mem_of_getElem? (i := 2) rfl)) (fun _ h9 => h9) rfl dX2_read_49 ?_
          refine lv_aload_n hx hb dX2_read_52 rfl (lv_at hl 0 rfl) ?_
          refine va_get (ci := 2) (C := RX2) (T := TX2) (N := 5) hx hb hts hiX2 hown hK hP 0 rfl rfl 2 (by decide) (hts (.fieldLink RX2 24 "RiddleTrade$Offers" "length" "I") (List.mem_of_getElem? (i := 4) rfl)) (fun _ h9 => h9) rfl dX2_read_53 ?_
          refine lv_icmp_ne (tgt := 61) hx hb dX2_read_56 (by decide) (fun c12 => ?_) (fun c12 => ?_)
          · have h := (k_iB h).2 c12
            refine lv_aload_n hx hb dX2_read_61 rfl (lv_at hl 0 rfl) ?_
            refine lv_bipush (v := 59) hx hb dX2_read_62 (by decide) ?_
            obtain ⟨pos_13, bad_14, hu15, h⟩ := ob2_el h
            refine kcVv (ci := 2) (q := (RX2, TX2, 5)) (ws1 := (w_X2_read cI cC h0 h1 h2 h3 ft fG_7 rG_5 len pos_13 bad_14)) ⟨hx, hb, hml, hown, hts⟩ [0, 1] [2, 3] (c_X2_expect l D cI cC cE h0 h1 h2 _ ft len pos_8 bad_9 59 pos_13 bad_14 hu15) (cwV 1 hts gX2_read_X2_expect rfl rfl rfl (by decide +kernel) ⟨Nat.le_of_ble_eq_true rfl, Nat.le_of_ble_eq_true rfl⟩) hK hP hD hS hA rfl rfl rfl rfl rfl rfl rfl rfl rfl hl.1 rfl (Nat.le_of_ble_eq_true rfl) dX2_read_64 ⟨Nat.le_refl 0, Nat.le_refl 0⟩ (fun H locs hP hD hS => ?_)
            refine lv_iinc (v := (x1 + 1)) (lv' := [(1, .int (x1 + 1)), (0, .ref h0)]) hx hb dX2_read_67 hl (k := 1) rfl rfl (by decide) rfl (fun ls hl => ?_)
            refine lv_goto (tgt := 19) hx hb dX2_read_70 (by decide) ?_
            exact ih (x1 + 1) fG_7 rG_5 pos_13 bad_14 _ _ hP hD hS _ (lv_sub hl [1, 0] rfl) h
          · have h := (k_iB h).1 c12
            refine lv_iconst (v := (-1)) hx hb dX2_read_59 (by decide) ?_
            obtain ⟨rfl, rfl, rfl, rfl, rfl⟩ := inj5 (Option.some.inj h)
            exact fin _ _ _ _ dX2_read_60 hP hD hS
        · have h := (k_iB h).2 c11
          refine lv_aload_n hx hb dX2_read_43 rfl (lv_at hl 0 rfl) ?_
          refine va_get (ci := 2) (C := RX2) (T := TX2) (N := 5) hx hb hts hiX2 hown hK hP 0 rfl rfl 3 (by decide) (hts (.fieldLink RX2 39 "RiddleTrade$Offers" "position" "I") (List.mem_of_getElem? (i := 2) rfl)) (fun _ h9 => h9) rfl dX2_read_44 ?_
          obtain ⟨rfl, rfl, rfl, rfl, rfl⟩ := inj5 (Option.some.inj h)
          exact fin _ _ _ _ dX2_read_47 hP hD hS
  dsimp only [d_X2_read] at h
  refine lv_aload_n hx hb dX2_read_0 rfl (lv_at hl 0 rfl) ?_
  refine va_get (ci := 2) (C := RX2) (T := TX2) (N := 5) hx hb hts hiX2 hown hK hP 0 rfl rfl 1 (by decide) (hts (.fieldLink RX2 20 "RiddleTrade$Offers" "things" "LRiddleTrade$Table;") (List.mem_of_getElem? (i := 1) rfl)) (fun _ h9 => h9) rfl dX2_read_1 ?_
  obtain ⟨rG_1, hu2, h⟩ := tb1_el h
  refine kcVv (ci := 4) (q := (RX4, TX4, 3)) (ws1 := (w_X2_read cI cC h0 h1 h2 h3 ft fG rG_1 len pos bad)) ⟨hx, hb, hml, hown, hts⟩ [2] [0, 1, 3] (c_X4_dropRows l D cI cC cE h2 h3 _ 5 rG rG_1 hu2) (cwV 0 hts gX2_read_X4_dropRows rfl rfl rfl (by decide +kernel) ⟨Nat.le_of_ble_eq_true rfl, Nat.le_of_ble_eq_true rfl⟩) hK hP hD hS hA rfl rfl rfl rfl rfl rfl rfl rfl rfl hl.1 rfl (Nat.le_of_ble_eq_true rfl) dX2_read_4 ⟨Nat.le_refl 0, Nat.le_refl 0⟩ (fun H locs hP hD hS => ?_)
  refine lv_aload_n hx hb dX2_read_7 rfl (lv_at hl 0 rfl) ?_
  refine lv_iconst (v := 0) hx hb dX2_read_8 (by decide) ?_
  refine va_put (ci := 2) (ty := .int) (C := RX2) (T := TX2) (N := 5) hx hb hts hiX2 tyX2 tyX2_ok nmX2 hown hK hP hD hS 0 rfl rfl 3 (by decide) (hts (.fieldLink RX2 39 "RiddleTrade$Offers" "position" "I") (List.mem_of_getElem? (i := 2) rfl)) (fun _ h9 => h9) rfl (by decide +kernel) rfl rfl (Nat.le_of_ble_eq_true rfl) dX2_read_9 (fun H locs hP hD hS => ?_)
  have hP : va_P D vwCl (w_X2_read cI cC h0 h1 h2 h3 ft fG rG_1 len 0 bad) H := hP
  have hD : va_D A (w_X2_read cI cC h0 h1 h2 h3 ft fG rG_1 len 0 bad) := hD
  refine lv_aload_n hx hb dX2_read_12 rfl (lv_at hl 0 rfl) ?_
  refine lv_iconst (v := 0) hx hb dX2_read_13 (by decide) ?_
  refine va_put (ci := 2) (ty := .boolean) (C := RX2) (T := TX2) (N := 5) hx hb hts hiX2 tyX2 tyX2_ok nmX2 hown hK hP hD hS 0 rfl rfl 4 (by decide) (hts (.fieldLink RX2 42 "RiddleTrade$Offers" "faulty" "Z") (List.mem_of_getElem? (i := 3) rfl)) (fun _ h9 => h9) rfl (by decide +kernel) rfl rfl (Nat.le_of_ble_eq_true rfl) dX2_read_14 (fun H locs hP hD hS => ?_)
  have hP : va_P D vwCl (w_X2_read cI cC h0 h1 h2 h3 ft fG rG_1 len 0 0) H := hP
  have hD : va_D A (w_X2_read cI cC h0 h1 h2 h3 ft fG rG_1 len 0 0) := hD
  refine lv_iconst (v := 0) hx hb dX2_read_17 (by decide) ?_
  refine lv_istore_n (lv' := [(1, .int 0), (0, .ref h0)]) hx hb dX2_read_18 rfl hl (by decide) rfl (fun ls hl => ?_)
  exact hL19   fuel 0 fG rG_1 0 0 _ _ hP hD hS _ (lv_sub hl [1, 0] rfl) h
