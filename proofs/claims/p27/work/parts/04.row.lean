abbrev w_X3_length (cI cC : ClassId) (h0 h1 : Nat) (hd : Int32) (ln : Int32) : va_W := [(h0, .inr (3, [.ref h1, .int hd, .int ln]))]
def d_X3_length (ln : Int32) : Int32 :=
    ln
set_option maxHeartbeats 4000000 in
set_option maxRecDepth 100000 in
theorem c_X3_length (l : Launch) (D : va_G) (cI cC cE : ClassId) (h0 h1 : Nat) (sz : Nat) (hd : Int32) (ln : Int32) (r0 : Int32) (h : d_X3_length ln = r0) : Met l yX3_length wsX3_length ({ frames := 0, cells := 0, slots := 0, locals := 0 } : Room) (kP D (kT cI cC cE) [.ref h0] (w_X3_length cI cC h0 h1 hd ln) sz) (kQi D (kT cI cC cE) (w_X3_length cI cC h0 h1 hd ln) (w_X3_length cI cC h0 h1 hd ln) sz r0) 0 0 (va_A (w_X3_length cI cC h0 h1 hd ln) sz) := by
  refine kMetI (cc := cX3_length) (maxL := 1) (own := RX3) (by decide) rfl (Nat.le_of_ble_eq_true rfl) rfl ?_
  intro p e s m below meth c A Q hx hb hml hown hts hP hK hD hA hS hname fin ls hl
  have hl : lv_has ls 1 [(0, .ref h0)] := hl
  have hiX3 : ∀ w ∈ u_ws RX3 TX3 3, w ∈ wsX3_length := by decide +kernel
  dsimp only [d_X3_length] at h
  refine lv_aload_n hx hb dX3_length_0 rfl (lv_at hl 0 rfl) ?_
  refine va_get (ci := 3) (C := RX3) (T := TX3) (N := 3) hx hb hts hiX3 hown hK hP 0 rfl rfl 2 (by decide) (hts (.fieldLink RX3 15 "RiddleTrade$Row" "length" "I") (List.mem_of_getElem? (i := 1) rfl)) (fun _ h9 => h9) rfl dX3_length_1 ?_
  obtain rfl := h
  exact fin _ _ _ _ dX3_length_4 hP hD hS
abbrev w_X3_at (cI cC : ClassId) (h0 h1 : Nat) (f : Nat → Int32) (hd : Int32) (ln : Int32) : va_W := [(h0, .inr (3, [.ref h1, .int hd, .int ln])), (h1, .inl (cI, 40, .inl f))]
def d_X3_at (p1 : Int32) (f : Nat → Int32) (hd : Int32) (ln : Int32) : Option (Int32) :=
    if p1 < 0 then (some (-5))
    else (if p1 < ln then (if ((hd + p1) - (hd + p1) / 40 * 40) < 0 then (some (-5))
    else (if 40 ≤ ((hd + p1) - (hd + p1) / 40 * 40) then (some (-5))
    else (ob1 (rd 40 f ((hd + p1) - (hd + p1) / 40 * 40)) fun v5 =>
    some v5)))
    else (some (-5)))
set_option maxHeartbeats 4000000 in
set_option maxRecDepth 100000 in
theorem c_X3_at (l : Launch) (D : va_G) (cI cC cE : ClassId) (h0 h1 : Nat) (sz : Nat) (f : Nat → Int32) (hd : Int32) (ln : Int32) (p1 : Int32) (r0 : Int32) (h : d_X3_at p1 f hd ln = some r0) : Met l yX3_at wsX3_at ({ frames := 0, cells := 0, slots := 0, locals := 0 } : Room) (kP D (kT cI cC cE) [.ref h0, .int p1] (w_X3_at cI cC h0 h1 f hd ln) sz) (kQi D (kT cI cC cE) (w_X3_at cI cC h0 h1 f hd ln) (w_X3_at cI cC h0 h1 f hd ln) sz r0) 0 0 (va_A (w_X3_at cI cC h0 h1 f hd ln) sz) := by
  refine kMetI (cc := cX3_at) (maxL := 3) (own := RX3) (by decide) rfl (Nat.le_of_ble_eq_true rfl) rfl ?_
  intro p e s m below meth c A Q hx hb hml hown hts hP hK hD hA hS hname fin ls hl
  have hl : lv_has ls 3 [(0, .ref h0), (1, .int p1)] := hl
  have hiX3 : ∀ w ∈ u_ws RX3 TX3 3, w ∈ wsX3_at := by decide +kernel
  dsimp only [d_X3_at] at h
  refine lv_iload_n hx hb dX3_at_0 rfl (lv_at hl 1 rfl) ?_
  refine lv_if_lt (tgt := 12) hx hb dX3_at_1 (by decide) (fun c1 => ?_) (fun c1 => ?_)
  · have h := (k_iB h).1 c1
    refine lv_bipush (v := (-5)) hx hb dX3_at_12 (by decide) ?_
    obtain rfl := Option.some.inj h
    exact fin _ _ _ _ dX3_at_14 hP hD hS
  · have h := (k_iB h).2 c1
    refine lv_iload_n hx hb dX3_at_4 rfl (lv_at hl 1 rfl) ?_
    refine lv_aload_n hx hb dX3_at_5 rfl (lv_at hl 0 rfl) ?_
    refine va_get (ci := 3) (C := RX3) (T := TX3) (N := 3) hx hb hts hiX3 hown hK hP 0 rfl rfl 2 (by decide) (hts (.fieldLink RX3 15 "RiddleTrade$Row" "length" "I") (List.mem_of_getElem? (i := 1) rfl)) (fun _ h9 => h9) rfl dX3_at_6 ?_
    refine lv_icmp_lt (tgt := 15) hx hb dX3_at_9 (by decide) (fun c2 => ?_) (fun c2 => ?_)
    · have h := (k_iB h).1 c2
      refine lv_aload_n hx hb dX3_at_15 rfl (lv_at hl 0 rfl) ?_
      refine va_get (ci := 3) (C := RX3) (T := TX3) (N := 3) hx hb hts hiX3 hown hK hP 0 rfl rfl 1 (by decide) (hts (.fieldLink RX3 19 "RiddleTrade$Row" "head" "I") (List.mem_of_getElem? (i := 2) rfl)) (fun _ h9 => h9) rfl dX3_at_16 ?_
      refine lv_iload_n hx hb dX3_at_19 rfl (lv_at hl 1 rfl) ?_
      refine lv_iadd hx hb dX3_at_20 ?_
      refine lv_bipush (v := 40) hx hb dX3_at_21 (by decide) ?_
      refine lv_irem hx hb dX3_at_23 (by decide) ?_
      refine lv_istore_n (lv' := [(2, .int ((hd + p1) - (hd + p1) / 40 * 40)), (0, .ref h0), (1, .int p1)]) hx hb dX3_at_24 rfl hl (by decide) rfl (fun ls hl => ?_)
      refine lv_iload_n hx hb dX3_at_25 rfl (lv_at hl 0 rfl) ?_
      refine lv_if_lt (tgt := 47) hx hb dX3_at_26 (by decide) (fun c3 => ?_) (fun c3 => ?_)
      · have h := (k_iB h).1 c3
        refine lv_bipush (v := (-5)) hx hb dX3_at_47 (by decide) ?_
        obtain rfl := Option.some.inj h
        exact fin _ _ _ _ dX3_at_49 hP hD hS
      · have h := (k_iB h).2 c3
        refine lv_iload_n hx hb dX3_at_29 rfl (lv_at hl 0 rfl) ?_
        refine lv_aload_n hx hb dX3_at_30 rfl (lv_at hl 1 rfl) ?_
        refine va_get (ci := 3) (C := RX3) (T := TX3) (N := 3) hx hb hts hiX3 hown hK hP 0 rfl rfl 0 (by decide) (hts (.fieldLink RX3 9 "RiddleTrade$Row" "ring" "[I") (List.mem_of_getElem? (i := 3) rfl)) (fun _ h9 => h9) rfl dX3_at_31 ?_
        refine va_alen (v := 40) hx hb hK hP 1 0 rfl rfl (show Int32.ofNat 40 = 40 from rfl) dX3_at_34 ?_
        refine lv_icmp_ge (tgt := 47) hx hb dX3_at_35 (by decide) (fun c4 => ?_) (fun c4 => ?_)
        · have h := (k_iB h).1 c4
          refine lv_bipush (v := (-5)) hx hb dX3_at_47 (by decide) ?_
          obtain rfl := Option.some.inj h
          exact fin _ _ _ _ dX3_at_49 hP hD hS
        · have h := (k_iB h).2 c4
          refine lv_aload_n hx hb dX3_at_38 rfl (lv_at hl 1 rfl) ?_
          refine va_get (ci := 3) (C := RX3) (T := TX3) (N := 3) hx hb hts hiX3 hown hK hP 0 rfl rfl 0 (by decide) (hts (.fieldLink RX3 9 "RiddleTrade$Row" "ring" "[I") (List.mem_of_getElem? (i := 3) rfl)) (fun _ h9 => h9) rfl dX3_at_39 ?_
          refine lv_iload_n hx hb dX3_at_42 rfl (lv_at hl 0 rfl) ?_
          refine k_iald hx hb hK hP 1 0 rfl rfl h dX3_at_43 (fun v5 h => ?_)
          refine lv_goto (tgt := 49) hx hb dX3_at_44 (by decide) ?_
          obtain rfl := Option.some.inj h
          exact fin _ _ _ _ dX3_at_49 hP hD hS
    · have h := (k_iB h).2 c2
      refine lv_bipush (v := (-5)) hx hb dX3_at_12 (by decide) ?_
      obtain rfl := Option.some.inj h
      exact fin _ _ _ _ dX3_at_14 hP hD hS
abbrev w_X3_placeOf (cI cC : ClassId) (h0 h1 : Nat) (f : Nat → Int32) (hd : Int32) (ln : Int32) : va_W := [(h0, .inr (3, [.ref h1, .int hd, .int ln])), (h1, .inl (cI, 40, .inl f))]
def lp_X3_placeOf_2 (f : Nat → Int32) (hd : Int32) (ln : Int32) (p1 : Int32) : Nat → Int32 → Option (Int32)
  | 0 => fun _ => none
  | k + 1 => fun x2 =>
    if ln ≤ x2 then (some (-5))
    else (ob1 (d_X3_at x2 f hd ln) fun r2 =>
    if r2 = p1 then (some x2)
    else ((lp_X3_placeOf_2  f hd ln p1 k) (x2 + 1)))
def d_X3_placeOf (p1 : Int32) (f : Nat → Int32) (hd : Int32) (ln : Int32) : Option (Int32) :=
    lp_X3_placeOf_2  f hd ln p1 fuel 0
set_option maxHeartbeats 4000000 in
set_option maxRecDepth 100000 in
theorem c_X3_placeOf (l : Launch) (D : va_G) (cI cC cE : ClassId) (h0 h1 : Nat) (sz : Nat) (f : Nat → Int32) (hd : Int32) (ln : Int32) (p1 : Int32) (r0 : Int32) (h : d_X3_placeOf p1 f hd ln = some r0) : Met l yX3_placeOf wsX3_placeOf ({ frames := 1, cells := 0, slots := 0, locals := 22 } : Room) (kP D (kT cI cC cE) [.ref h0, .int p1] (w_X3_placeOf cI cC h0 h1 f hd ln) sz) (kQi D (kT cI cC cE) (w_X3_placeOf cI cC h0 h1 f hd ln) (w_X3_placeOf cI cC h0 h1 f hd ln) sz r0) 0 0 (va_A (w_X3_placeOf cI cC h0 h1 f hd ln) sz) := by
  refine kMetI (cc := cX3_placeOf) (maxL := 3) (own := RX3) (by decide) rfl (Nat.le_of_ble_eq_true rfl) rfl ?_
  intro p e s m below meth c A Q hx hb hml hown hts hP hK hD hA hS hname fin ls hl
  have hl : lv_has ls 3 [(0, .ref h0), (1, .int p1)] := hl
  have hiX3 : ∀ w ∈ u_ws RX3 TX3 3, w ∈ wsX3_placeOf := by decide +kernel
  have hL2 : ∀ (k : Nat), ∀ (x2 : Int32) (H : Heap) (locs : List Loc), va_P D vwCl (w_X3_placeOf cI cC h0 h1 f hd ln) H → va_D A (w_X3_placeOf cI cC h0 h1 f hd ln) → va_S A s.heap H locs → ∀ (ls : Array Slot), lv_has ls 3 [(0, .ref h0), (1, .int p1), (2, .int x2)] → lp_X3_placeOf_2  f hd ln p1 k x2 = some r0 → W p l e ({ frames := 1, cells := 0, slots := 0, locals := 22 } : Room) s m [.ref h0, .int p1].toArray below meth c H locs 0 0 Q (F0 m 2 ls []) := by
    intro k
    induction k with
    | zero =>
      intro x2 H locs hP hD hS ls hl h
      exact k_none h
    | succ k ih =>
      intro x2 H locs hP hD hS ls hl h
      dsimp only [lp_X3_placeOf_2] at h
      refine lv_iload_n hx hb dX3_placeOf_2 rfl (lv_at hl 2 rfl) ?_
      refine lv_aload_n hx hb dX3_placeOf_3 rfl (lv_at hl 0 rfl) ?_
      refine va_get (ci := 3) (C := RX3) (T := TX3) (N := 3) hx hb hts hiX3 hown hK hP 0 rfl rfl 2 (by decide) (hts (.fieldLink RX3 15 "RiddleTrade$Row" "length" "I") (List.mem_of_getElem? (i := 1) rfl)) (fun _ h9 => h9) rfl dX3_placeOf_4 ?_
      refine lv_icmp_ge (tgt := 27) hx hb dX3_placeOf_7 (by decide) (fun c1 => ?_) (fun c1 => ?_)
      · have h := (k_iB h).1 c1
        refine lv_bipush (v := (-5)) hx hb dX3_placeOf_27 (by decide) ?_
        obtain rfl := Option.some.inj h
        exact fin _ _ _ _ dX3_placeOf_29 hP hD hS
      · have h := (k_iB h).2 c1
        refine lv_aload_n hx hb dX3_placeOf_10 rfl (lv_at hl 0 rfl) ?_
        refine lv_iload_n hx hb dX3_placeOf_11 rfl (lv_at hl 2 rfl) ?_
        obtain ⟨r2, hu3, h⟩ := ob1_el h
        refine kcVi (ci := 3) (q := (RX3, TX3, 3)) (ws1 := (w_X3_placeOf cI cC h0 h1 f hd ln)) ⟨hx, hb, hml, hown, hts⟩ [0, 1] [] (c_X3_at l D cI cC cE h0 h1 _ f hd ln x2 r2 hu3) (cwV 1 hts gX3_placeOf_X3_at rfl rfl rfl (by decide +kernel) ⟨Nat.le_of_ble_eq_true rfl, Nat.le_of_ble_eq_true rfl⟩) hK hP hD hS hA rfl rfl rfl rfl rfl rfl rfl rfl rfl hl.1 rfl (Nat.le_of_ble_eq_true rfl) dX3_placeOf_12 ⟨Nat.le_refl 0, Nat.le_refl 0⟩ (fun H locs hP hD hS => ?_)
        refine lv_iload_n hx hb dX3_placeOf_15 rfl (lv_at hl 1 rfl) ?_
        refine lv_icmp_ne (tgt := 21) hx hb dX3_placeOf_16 (by decide) (fun c4 => ?_) (fun c4 => ?_)
        · have h := (k_iB h).2 c4
          refine lv_iinc (v := (x2 + 1)) (lv' := [(2, .int (x2 + 1)), (0, .ref h0), (1, .int p1)]) hx hb dX3_placeOf_21 hl (k := 2) rfl rfl (by decide) rfl (fun ls hl => ?_)
          refine lv_goto (tgt := 2) hx hb dX3_placeOf_24 (by decide) ?_
          exact ih (x2 + 1) _ _ hP hD hS _ (lv_sub hl [1, 2, 0] rfl) h
        · have h := (k_iB h).1 c4
          refine lv_iload_n hx hb dX3_placeOf_19 rfl (lv_at hl 2 rfl) ?_
          obtain rfl := Option.some.inj h
          exact fin _ _ _ _ dX3_placeOf_20 hP hD hS
  dsimp only [d_X3_placeOf] at h
  refine lv_iconst (v := 0) hx hb dX3_placeOf_0 (by decide) ?_
  refine lv_istore_n (lv' := [(2, .int 0), (0, .ref h0), (1, .int p1)]) hx hb dX3_placeOf_1 rfl hl (by decide) rfl (fun ls hl => ?_)
  exact hL2   fuel 0 _ _ hP hD hS _ (lv_sub hl [1, 2, 0] rfl) h
abbrev w_X3_addLast (cI cC : ClassId) (h0 h1 : Nat) (f : Nat → Int32) (hd : Int32) (ln : Int32) : va_W := [(h0, .inr (3, [.ref h1, .int hd, .int ln])), (h1, .inl (cI, 40, .inl f))]
def d_X3_addLast (p1 : Int32) (f : Nat → Int32) (hd : Int32) (ln : Int32) : Option ((Nat → Int32) × Int32) :=
    if 40 ≤ ln then (some (f, ln))
    else (if ((hd + ln) - (hd + ln) / 40 * 40) < 0 then (some (f, ln))
    else (if 40 ≤ ((hd + ln) - (hd + ln) / 40 * 40) then (some (f, ln))
    else (ob1 (wr 40 f ((hd + ln) - (hd + ln) / 40 * 40) p1) fun f_4 =>
    some (f_4, (ln + 1)))))
set_option maxHeartbeats 4000000 in
set_option maxRecDepth 100000 in
theorem c_X3_addLast (l : Launch) (D : va_G) (cI cC cE : ClassId) (h0 h1 : Nat) (sz : Nat) (f : Nat → Int32) (hd : Int32) (ln : Int32) (p1 : Int32) (o_f : Nat → Int32) (o_ln : Int32) (h : d_X3_addLast p1 f hd ln = some (o_f, o_ln)) : Met l yX3_addLast wsX3_addLast ({ frames := 0, cells := 0, slots := 0, locals := 0 } : Room) (kP D (kT cI cC cE) [.ref h0, .int p1] (w_X3_addLast cI cC h0 h1 f hd ln) sz) (kQv D (kT cI cC cE) (w_X3_addLast cI cC h0 h1 f hd ln) (w_X3_addLast cI cC h0 h1 o_f hd o_ln) sz) 0 0 (va_A (w_X3_addLast cI cC h0 h1 f hd ln) sz) := by
  refine kMetV (cc := cX3_addLast) (maxL := 3) (own := RX3) (by decide) rfl (Nat.le_of_ble_eq_true rfl) rfl ?_
  intro p e s m below meth c A Q hx hb hml hown hts hP hK hD hA hS hname fin ls hl
  have hl : lv_has ls 3 [(0, .ref h0), (1, .int p1)] := hl
  have hiX3 : ∀ w ∈ u_ws RX3 TX3 3, w ∈ wsX3_addLast := by decide +kernel
  dsimp only [d_X3_addLast] at h
  refine lv_aload_n hx hb dX3_addLast_0 rfl (lv_at hl 0 rfl) ?_
  refine va_get (ci := 3) (C := RX3) (T := TX3) (N := 3) hx hb hts hiX3 hown hK hP 0 rfl rfl 1 (by decide) (hts (.fieldLink RX3 19 "RiddleTrade$Row" "head" "I") (List.mem_of_getElem? (i := 1) rfl)) (fun _ h9 => h9) rfl dX3_addLast_1 ?_
  refine lv_aload_n hx hb dX3_addLast_4 rfl (lv_at hl 0 rfl) ?_
  refine va_get (ci := 3) (C := RX3) (T := TX3) (N := 3) hx hb hts hiX3 hown hK hP 0 rfl rfl 2 (by decide) (hts (.fieldLink RX3 15 "RiddleTrade$Row" "length" "I") (List.mem_of_getElem? (i := 2) rfl)) (fun _ h9 => h9) rfl dX3_addLast_5 ?_
  refine lv_iadd hx hb dX3_addLast_8 ?_
  refine lv_bipush (v := 40) hx hb dX3_addLast_9 (by decide) ?_
  refine lv_irem hx hb dX3_addLast_11 (by decide) ?_
  refine lv_istore_n (lv' := [(2, .int ((hd + ln) - (hd + ln) / 40 * 40)), (0, .ref h0), (1, .int p1)]) hx hb dX3_addLast_12 rfl hl (by decide) rfl (fun ls hl => ?_)
  refine lv_aload_n hx hb dX3_addLast_13 rfl (lv_at hl 1 rfl) ?_
  refine va_get (ci := 3) (C := RX3) (T := TX3) (N := 3) hx hb hts hiX3 hown hK hP 0 rfl rfl 2 (by decide) (hts (.fieldLink RX3 15 "RiddleTrade$Row" "length" "I") (List.mem_of_getElem? (i := 2) rfl)) (fun _ h9 => h9) rfl dX3_addLast_14 ?_
  refine lv_bipush (v := 40) hx hb dX3_addLast_17 (by decide) ?_
  refine lv_icmp_ge (tgt := 52) hx hb dX3_addLast_19 (by decide) (fun c1 => ?_) (fun c1 => ?_)
  · have h := (k_iB h).1 c1
    obtain ⟨rfl, rfl⟩ := inj2 (Option.some.inj h)
    exact fin _ _ _ _ dX3_addLast_52 hP hD hS
  · have h := (k_iB h).2 c1
    refine lv_iload_n hx hb dX3_addLast_22 rfl (lv_at hl 0 rfl) ?_
    refine lv_if_lt (tgt := 52) hx hb dX3_addLast_23 (by decide) (fun c2 => ?_) (fun c2 => ?_)
    · have h := (k_iB h).1 c2
      obtain ⟨rfl, rfl⟩ := inj2 (Option.some.inj h)
      exact fin _ _ _ _ dX3_addLast_52 hP hD hS
    · have h := (k_iB h).2 c2
      refine lv_iload_n hx hb dX3_addLast_26 rfl (lv_at hl 0 rfl) ?_
      refine lv_aload_n hx hb dX3_addLast_27 rfl (lv_at hl 1 rfl) ?_
      refine va_get (ci := 3) (C := RX3) (T := TX3) (N := 3) hx hb hts hiX3 hown hK hP 0 rfl rfl 0 (by decide) (hts (.fieldLink RX3 9 "RiddleTrade$Row" "ring" "[I") (List.mem_of_getElem? (i := 3) rfl)) (fun _ h9 => h9) rfl dX3_addLast_28 ?_
      refine va_alen (v := 40) hx hb hK hP 1 0 rfl rfl (show Int32.ofNat 40 = 40 from rfl) dX3_addLast_31 ?_
      refine lv_icmp_ge (tgt := 52) hx hb dX3_addLast_32 (by decide) (fun c3 => ?_) (fun c3 => ?_)
      · have h := (k_iB h).1 c3
        obtain ⟨rfl, rfl⟩ := inj2 (Option.some.inj h)
        exact fin _ _ _ _ dX3_addLast_52 hP hD hS
      · have h := (k_iB h).2 c3
        refine lv_aload_n hx hb dX3_addLast_35 rfl (lv_at hl 1 rfl) ?_
        refine va_get (ci := 3) (C := RX3) (T := TX3) (N := 3) hx hb hts hiX3 hown hK hP 0 rfl rfl 0 (by decide) (hts (.fieldLink RX3 9 "RiddleTrade$Row" "ring" "[I") (List.mem_of_getElem? (i := 3) rfl)) (fun _ h9 => h9) rfl dX3_addLast_36 ?_
        refine lv_iload_n hx hb dX3_addLast_39 rfl (lv_at hl 0 rfl) ?_
        refine lv_iload_n hx hb dX3_addLast_40 rfl (lv_at hl 2 rfl) ?_
        refine k_iast hx hb hK hP hD hS 1 0 rfl rfl h dX3_addLast_41 (fun f_4 H locs hP hD hS h => ?_)
        have hP : va_P D vwCl (w_X3_addLast cI cC h0 h1 f_4 hd ln) H := hP
        have hD : va_D A (w_X3_addLast cI cC h0 h1 f_4 hd ln) := hD
        refine lv_aload_n hx hb dX3_addLast_42 rfl (lv_at hl 1 rfl) ?_
        refine lv_dup hx hb dX3_addLast_43 rfl ?_
        refine va_get (ci := 3) (C := RX3) (T := TX3) (N := 3) hx hb hts hiX3 hown hK hP 0 rfl rfl 2 (by decide) (hts (.fieldLink RX3 15 "RiddleTrade$Row" "length" "I") (List.mem_of_getElem? (i := 2) rfl)) (fun _ h9 => h9) rfl dX3_addLast_44 ?_
        refine lv_iconst (v := 1) hx hb dX3_addLast_47 (by decide) ?_
        refine lv_iadd hx hb dX3_addLast_48 ?_
        refine va_put (ci := 3) (ty := .int) (C := RX3) (T := TX3) (N := 3) hx hb hts hiX3 tyX3 tyX3_ok nmX3 hown hK hP hD hS 0 rfl rfl 2 (by decide) (hts (.fieldLink RX3 15 "RiddleTrade$Row" "length" "I") (List.mem_of_getElem? (i := 2) rfl)) (fun _ h9 => h9) rfl (by decide +kernel) rfl rfl (Nat.le_of_ble_eq_true rfl) dX3_addLast_49 (fun H locs hP hD hS => ?_)
        have hP : va_P D vwCl (w_X3_addLast cI cC h0 h1 f_4 hd (ln + 1)) H := hP
        have hD : va_D A (w_X3_addLast cI cC h0 h1 f_4 hd (ln + 1)) := hD
        obtain ⟨rfl, rfl⟩ := inj2 (Option.some.inj h)
        exact fin _ _ _ _ dX3_addLast_52 hP hD hS
abbrev w_X3_takeFirst (cI cC : ClassId) (h0 h1 : Nat) (f : Nat → Int32) (hd : Int32) (ln : Int32) : va_W := [(h0, .inr (3, [.ref h1, .int hd, .int ln])), (h1, .inl (cI, 40, .inl f))]
def d_X3_takeFirst (f : Nat → Int32) (hd : Int32) (ln : Int32) : Option (Int32 × Int32 × Int32) :=
    ob1 (d_X3_at 0 f hd ln) fun r1 =>
    if ln ≤ 0 then (some (r1, hd, ln))
    else (some (r1, ((hd + 1) - (hd + 1) / 40 * 40), (ln - 1)))
set_option maxHeartbeats 4000000 in
set_option maxRecDepth 100000 in
theorem c_X3_takeFirst (l : Launch) (D : va_G) (cI cC cE : ClassId) (h0 h1 : Nat) (sz : Nat) (f : Nat → Int32) (hd : Int32) (ln : Int32) (r0 : Int32) (o_hd : Int32) (o_ln : Int32) (h : d_X3_takeFirst f hd ln = some (r0, o_hd, o_ln)) : Met l yX3_takeFirst wsX3_takeFirst ({ frames := 1, cells := 0, slots := 0, locals := 22 } : Room) (kP D (kT cI cC cE) [.ref h0] (w_X3_takeFirst cI cC h0 h1 f hd ln) sz) (kQi D (kT cI cC cE) (w_X3_takeFirst cI cC h0 h1 f hd ln) (w_X3_takeFirst cI cC h0 h1 f o_hd o_ln) sz r0) 0 0 (va_A (w_X3_takeFirst cI cC h0 h1 f hd ln) sz) := by
  refine kMetI (cc := cX3_takeFirst) (maxL := 2) (own := RX3) (by decide) rfl (Nat.le_of_ble_eq_true rfl) rfl ?_
  intro p e s m below meth c A Q hx hb hml hown hts hP hK hD hA hS hname fin ls hl
  have hl : lv_has ls 2 [(0, .ref h0)] := hl
  have hiX3 : ∀ w ∈ u_ws RX3 TX3 3, w ∈ wsX3_takeFirst := by decide +kernel
  dsimp only [d_X3_takeFirst] at h
  refine lv_aload_n hx hb dX3_takeFirst_0 rfl (lv_at hl 0 rfl) ?_
  refine lv_iconst (v := 0) hx hb dX3_takeFirst_1 (by decide) ?_
  obtain ⟨r1, hu2, h⟩ := ob1_el h
  refine kcVi (ci := 3) (q := (RX3, TX3, 3)) (ws1 := (w_X3_takeFirst cI cC h0 h1 f hd ln)) ⟨hx, hb, hml, hown, hts⟩ [0, 1] [] (c_X3_at l D cI cC cE h0 h1 _ f hd ln 0 r1 hu2) (cwV 1 hts gX3_takeFirst_X3_at rfl rfl rfl (by decide +kernel) ⟨Nat.le_of_ble_eq_true rfl, Nat.le_of_ble_eq_true rfl⟩) hK hP hD hS hA rfl rfl rfl rfl rfl rfl rfl rfl rfl hl.1 rfl (Nat.le_of_ble_eq_true rfl) dX3_takeFirst_2 ⟨Nat.le_refl 0, Nat.le_refl 0⟩ (fun H locs hP hD hS => ?_)
  refine lv_istore_n (lv' := [(1, .int r1), (0, .ref h0)]) hx hb dX3_takeFirst_5 rfl hl (by decide) rfl (fun ls hl => ?_)
  refine lv_aload_n hx hb dX3_takeFirst_6 rfl (lv_at hl 1 rfl) ?_
  refine va_get (ci := 3) (C := RX3) (T := TX3) (N := 3) hx hb hts hiX3 hown hK hP 0 rfl rfl 2 (by decide) (hts (.fieldLink RX3 15 "RiddleTrade$Row" "length" "I") (List.mem_of_getElem? (i := 1) rfl)) (fun _ h9 => h9) rfl dX3_takeFirst_7 ?_
  refine lv_if_le (tgt := 36) hx hb dX3_takeFirst_10 (by decide) (fun c3 => ?_) (fun c3 => ?_)
  · have h := (k_iB h).1 c3
    refine lv_iload_n hx hb dX3_takeFirst_36 rfl (lv_at hl 0 rfl) ?_
    obtain ⟨rfl, rfl, rfl⟩ := inj3 (Option.some.inj h)
    exact fin _ _ _ _ dX3_takeFirst_37 hP hD hS
  · have h := (k_iB h).2 c3
    refine lv_aload_n hx hb dX3_takeFirst_13 rfl (lv_at hl 1 rfl) ?_
    refine lv_aload_n hx hb dX3_takeFirst_14 rfl (lv_at hl 1 rfl) ?_
    refine va_get (ci := 3) (C := RX3) (T := TX3) (N := 3) hx hb hts hiX3 hown hK hP 0 rfl rfl 1 (by decide) (hts (.fieldLink RX3 19 "RiddleTrade$Row" "head" "I") (List.mem_of_getElem? (i := 2) rfl)) (fun _ h9 => h9) rfl dX3_takeFirst_15 ?_
    refine lv_iconst (v := 1) hx hb dX3_takeFirst_18 (by decide) ?_
    refine lv_iadd hx hb dX3_takeFirst_19 ?_
    refine lv_bipush (v := 40) hx hb dX3_takeFirst_20 (by decide) ?_
    refine lv_irem hx hb dX3_takeFirst_22 (by decide) ?_
    refine va_put (ci := 3) (ty := .int) (C := RX3) (T := TX3) (N := 3) hx hb hts hiX3 tyX3 tyX3_ok nmX3 hown hK hP hD hS 0 rfl rfl 1 (by decide) (hts (.fieldLink RX3 19 "RiddleTrade$Row" "head" "I") (List.mem_of_getElem? (i := 2) rfl)) (fun _ h9 => h9) rfl (by decide +kernel) rfl rfl (Nat.le_of_ble_eq_true rfl) dX3_takeFirst_23 (fun H locs hP hD hS => ?_)
    have hP : va_P D vwCl (w_X3_takeFirst cI cC h0 h1 f ((hd + 1) - (hd + 1) / 40 * 40) ln) H := hP
    have hD : va_D A (w_X3_takeFirst cI cC h0 h1 f ((hd + 1) - (hd + 1) / 40 * 40) ln) := hD
    refine lv_aload_n hx hb dX3_takeFirst_26 rfl (lv_at hl 1 rfl) ?_
    refine lv_dup hx hb dX3_takeFirst_27 rfl ?_
    refine va_get (ci := 3) (C := RX3) (T := TX3) (N := 3) hx hb hts hiX3 hown hK hP 0 rfl rfl 2 (by decide) (hts (.fieldLink RX3 15 "RiddleTrade$Row" "length" "I") (List.mem_of_getElem? (i := 1) rfl)) (fun _ h9 => h9) rfl dX3_takeFirst_28 ?_
    refine lv_iconst (v := 1) hx hb dX3_takeFirst_31 (by decide) ?_
    refine lv_isub hx hb dX3_takeFirst_32 ?_
    refine va_put (ci := 3) (ty := .int) (C := RX3) (T := TX3) (N := 3) hx hb hts hiX3 tyX3 tyX3_ok nmX3 hown hK hP hD hS 0 rfl rfl 2 (by decide) (hts (.fieldLink RX3 15 "RiddleTrade$Row" "length" "I") (List.mem_of_getElem? (i := 1) rfl)) (fun _ h9 => h9) rfl (by decide +kernel) rfl rfl (Nat.le_of_ble_eq_true rfl) dX3_takeFirst_33 (fun H locs hP hD hS => ?_)
    have hP : va_P D vwCl (w_X3_takeFirst cI cC h0 h1 f ((hd + 1) - (hd + 1) / 40 * 40) (ln - 1)) H := hP
    have hD : va_D A (w_X3_takeFirst cI cC h0 h1 f ((hd + 1) - (hd + 1) / 40 * 40) (ln - 1)) := hD
    refine lv_iload_n hx hb dX3_takeFirst_36 rfl (lv_at hl 0 rfl) ?_
    obtain ⟨rfl, rfl, rfl⟩ := inj3 (Option.some.inj h)
    exact fin _ _ _ _ dX3_takeFirst_37 hP hD hS
