abbrev w_X6_deliver (cI cC : ClassId) (h0 h_s h_aside h_past h_snapshot h_text : Nat) (m_s : Nat → Int32) (m_past : Nat → Int32) (m_pasts : Int32) (m_isKept : Int32) (m_length : Int32) (m_hasStop : Int32) (m_stopAt : Int32) (m_stopWhy : Int32) (m_spot : Int32) (m_isWrong : Int32) (m_kind : Int32) (m_first : Int32) (m_second : Int32) (m_third : Int32) (m_fourth : Int32) : va_W := [(h0, .inr (6, [.ref h_s, .ref h_aside, .ref h_past, .int m_pasts, .ref h_snapshot, .int m_isKept, .ref h_text, .int m_length, .int m_hasStop, .int m_stopAt, .int m_stopWhy, .int m_spot, .int m_isWrong, .int m_kind, .int m_first, .int m_second, .int m_third, .int m_fourth])), (h_s, .inl (cI, 490, .inl m_s)), (h_past, .inl (cI, 1960, .inl m_past))]
def d_X6_deliver (p1 : Int32) (p2 : Int32) (p3 : Int32) (p4 : Int32) (m_s : Nat → Int32) (m_past : Nat → Int32) (m_pasts : Int32) : Option (Int32 × (Nat → Int32) × (Nat → Int32) × Int32) :=
    ob1 (d_X6_barDeliver p1 p2 p3 p4 m_s) fun r1 =>
    if 0 ≤ r1 then (ob2 (d_X6_records m_s m_past m_pasts) fun m_past_4 m_pasts_5 =>
    ob2 (d_X6_delivers p1 p2 p3 p4 m_s) fun r7 m_s_8 =>
    some (r7, m_s_8, m_past_4, m_pasts_5))
    else (some (r1, m_s, m_past, m_pasts))
set_option maxHeartbeats 4000000 in
set_option maxRecDepth 100000 in
theorem c_X6_deliver (l : Launch) (D : va_G) (cI cC cE : ClassId) (h0 h_s h_aside h_past h_snapshot h_text : Nat) (sz : Nat) (m_s : Nat → Int32) (m_past : Nat → Int32) (m_pasts : Int32) (m_isKept : Int32) (m_length : Int32) (m_hasStop : Int32) (m_stopAt : Int32) (m_stopWhy : Int32) (m_spot : Int32) (m_isWrong : Int32) (m_kind : Int32) (m_first : Int32) (m_second : Int32) (m_third : Int32) (m_fourth : Int32) (p1 : Int32) (p2 : Int32) (p3 : Int32) (p4 : Int32) (r0 : Int32) (o_m_s : Nat → Int32) (o_m_past : Nat → Int32) (o_m_pasts : Int32) (h : d_X6_deliver p1 p2 p3 p4 m_s m_past m_pasts = some (r0, o_m_s, o_m_past, o_m_pasts)) : Met l yX6_deliver wsX6_deliver ({ frames := 3, cells := 0, slots := 0, locals := 67 } : Room) (kP D (kT cI cC cE) [.ref h0, .int p1, .int p2, .int p3, .int p4] (w_X6_deliver cI cC h0 h_s h_aside h_past h_snapshot h_text m_s m_past m_pasts m_isKept m_length m_hasStop m_stopAt m_stopWhy m_spot m_isWrong m_kind m_first m_second m_third m_fourth) sz) (kQi D (kT cI cC cE) (w_X6_deliver cI cC h0 h_s h_aside h_past h_snapshot h_text m_s m_past m_pasts m_isKept m_length m_hasStop m_stopAt m_stopWhy m_spot m_isWrong m_kind m_first m_second m_third m_fourth) (w_X6_deliver cI cC h0 h_s h_aside h_past h_snapshot h_text o_m_s o_m_past o_m_pasts m_isKept m_length m_hasStop m_stopAt m_stopWhy m_spot m_isWrong m_kind m_first m_second m_third m_fourth) sz r0) 0 0 (va_A (w_X6_deliver cI cC h0 h_s h_aside h_past h_snapshot h_text m_s m_past m_pasts m_isKept m_length m_hasStop m_stopAt m_stopWhy m_spot m_isWrong m_kind m_first m_second m_third m_fourth) sz) := by
  refine kMetI (cc := cX6_deliver) (maxL := 6) (own := RX6) (by decide) rfl (Nat.le_of_ble_eq_true rfl) rfl ?_
  intro p e s m below meth c A Q hx hb hml hown hts hP hK hD hA hS hname fin ls hl
  have hl : lv_has ls 6 [(0, .ref h0), (1, .int p1), (2, .int p2), (3, .int p3), (4, .int p4)] := hl
  dsimp only [d_X6_deliver] at h
  refine lv_aload_n hx hb dX6_deliver_0 rfl (lv_at hl 0 rfl) ?_
  refine lv_iload_n hx hb dX6_deliver_1 rfl (lv_at hl 1 rfl) ?_
  refine lv_iload_n hx hb dX6_deliver_2 rfl (lv_at hl 2 rfl) ?_
  refine lv_iload_n hx hb dX6_deliver_3 rfl (lv_at hl 3 rfl) ?_
  refine lv_iload hx hb dX6_deliver_4 (lv_at hl 4 rfl) ?_
  obtain ⟨r1, hu2, h⟩ := ob1_el h
  refine kcVi (ci := 6) (q := (RX6, TX6, 18)) (ws1 := (w_X6_deliver cI cC h0 h_s h_aside h_past h_snapshot h_text m_s m_past m_pasts m_isKept m_length m_hasStop m_stopAt m_stopWhy m_spot m_isWrong m_kind m_first m_second m_third m_fourth)) ⟨hx, hb, hml, hown, hts⟩ [0, 1] [2] (c_X6_barDeliver l D cI cC cE h0 h_s h_aside h_past h_snapshot h_text _ m_s m_pasts m_isKept m_length m_hasStop m_stopAt m_stopWhy m_spot m_isWrong m_kind m_first m_second m_third m_fourth p1 p2 p3 p4 r1 hu2) (cwV 4 hts gX6_deliver_X6_barDeliver rfl rfl rfl (by decide +kernel) ⟨Nat.le_of_ble_eq_true rfl, Nat.le_of_ble_eq_true rfl⟩) hK hP hD hS hA rfl rfl rfl rfl rfl rfl rfl rfl rfl hl.1 rfl (Nat.le_of_ble_eq_true rfl) dX6_deliver_6 ⟨Nat.le_refl 0, Nat.le_refl 0⟩ (fun H locs hP hD hS => ?_)
  refine lv_istore (lv' := [(5, .int r1), (0, .ref h0), (1, .int p1), (2, .int p2), (3, .int p3), (4, .int p4)]) hx hb dX6_deliver_9 hl (by decide) rfl (fun ls hl => ?_)
  refine lv_iload hx hb dX6_deliver_11 (lv_at hl 0 rfl) ?_
  refine lv_if_ge (tgt := 19) hx hb dX6_deliver_13 (by decide) (fun c3 => ?_) (fun c3 => ?_)
  · have h := (k_iB h).1 c3
    refine lv_aload_n hx hb dX6_deliver_19 rfl (lv_at hl 1 rfl) ?_
    obtain ⟨m_past_4, m_pasts_5, hu6, h⟩ := ob2_el h
    refine kcVv (ci := 6) (q := (RX6, TX6, 18)) (ws1 := (w_X6_deliver cI cC h0 h_s h_aside h_past h_snapshot h_text m_s m_past_4 m_pasts_5 m_isKept m_length m_hasStop m_stopAt m_stopWhy m_spot m_isWrong m_kind m_first m_second m_third m_fourth)) ⟨hx, hb, hml, hown, hts⟩ [0, 1, 2] [] (c_X6_records l D cI cC cE h0 h_s h_aside h_past h_snapshot h_text _ m_s m_past m_pasts m_isKept m_length m_hasStop m_stopAt m_stopWhy m_spot m_isWrong m_kind m_first m_second m_third m_fourth m_past_4 m_pasts_5 hu6) (cwV 0 hts gX6_deliver_X6_records rfl rfl rfl (by decide +kernel) ⟨Nat.le_of_ble_eq_true rfl, Nat.le_of_ble_eq_true rfl⟩) hK hP hD hS hA rfl rfl rfl rfl rfl rfl rfl rfl rfl hl.1 rfl (Nat.le_of_ble_eq_true rfl) dX6_deliver_20 ⟨Nat.le_refl 0, Nat.le_refl 0⟩ (fun H locs hP hD hS => ?_)
    refine lv_aload_n hx hb dX6_deliver_23 rfl (lv_at hl 1 rfl) ?_
    refine lv_iload_n hx hb dX6_deliver_24 rfl (lv_at hl 2 rfl) ?_
    refine lv_iload_n hx hb dX6_deliver_25 rfl (lv_at hl 3 rfl) ?_
    refine lv_iload_n hx hb dX6_deliver_26 rfl (lv_at hl 4 rfl) ?_
    refine lv_iload hx hb dX6_deliver_27 (lv_at hl 5 rfl) ?_
    obtain ⟨r7, m_s_8, hu9, h⟩ := ob2_el h
    refine kcVi (ci := 6) (q := (RX6, TX6, 18)) (ws1 := (w_X6_deliver cI cC h0 h_s h_aside h_past h_snapshot h_text m_s_8 m_past_4 m_pasts_5 m_isKept m_length m_hasStop m_stopAt m_stopWhy m_spot m_isWrong m_kind m_first m_second m_third m_fourth)) ⟨hx, hb, hml, hown, hts⟩ [0, 1] [2] (c_X6_delivers l D cI cC cE h0 h_s h_aside h_past h_snapshot h_text _ m_s m_pasts_5 m_isKept m_length m_hasStop m_stopAt m_stopWhy m_spot m_isWrong m_kind m_first m_second m_third m_fourth p1 p2 p3 p4 r7 m_s_8 hu9) (cwV 4 hts gX6_deliver_X6_delivers rfl rfl rfl (by decide +kernel) ⟨Nat.le_of_ble_eq_true rfl, Nat.le_of_ble_eq_true rfl⟩) hK hP hD hS hA rfl rfl rfl rfl rfl rfl rfl rfl rfl hl.1 rfl (Nat.le_of_ble_eq_true rfl) dX6_deliver_29 ⟨Nat.le_refl 0, Nat.le_refl 0⟩ (fun H locs hP hD hS => ?_)
    obtain ⟨rfl, rfl, rfl, rfl⟩ := inj4 (Option.some.inj h)
    exact fin _ _ _ _ dX6_deliver_32 hP hD hS
  · have h := (k_iB h).2 c3
    refine lv_iload hx hb dX6_deliver_16 (lv_at hl 0 rfl) ?_
    obtain ⟨rfl, rfl, rfl, rfl⟩ := inj4 (Option.some.inj h)
    exact fin _ _ _ _ dX6_deliver_18 hP hD hS
abbrev w_X6_adjust (cI cC : ClassId) (h0 h_s h_aside h_past h_snapshot h_text : Nat) (m_s : Nat → Int32) (m_past : Nat → Int32) (m_pasts : Int32) (m_isKept : Int32) (m_length : Int32) (m_hasStop : Int32) (m_stopAt : Int32) (m_stopWhy : Int32) (m_spot : Int32) (m_isWrong : Int32) (m_kind : Int32) (m_first : Int32) (m_second : Int32) (m_third : Int32) (m_fourth : Int32) : va_W := [(h0, .inr (6, [.ref h_s, .ref h_aside, .ref h_past, .int m_pasts, .ref h_snapshot, .int m_isKept, .ref h_text, .int m_length, .int m_hasStop, .int m_stopAt, .int m_stopWhy, .int m_spot, .int m_isWrong, .int m_kind, .int m_first, .int m_second, .int m_third, .int m_fourth])), (h_s, .inl (cI, 490, .inl m_s)), (h_past, .inl (cI, 1960, .inl m_past))]
def d_X6_adjust (m_s : Nat → Int32) (m_past : Nat → Int32) (m_pasts : Int32) : Option (Int32 × (Nat → Int32) × (Nat → Int32) × Int32) :=
    ob1 (rd 490 m_s 477) fun v1 =>
    ob1 (rd 490 m_s 478) fun v2 =>
    if ((d_X6_size v1) + (d_X6_size v2)) = 0 then (some ((-5), m_s, m_past, m_pasts))
    else (ob2 (d_X6_records m_s m_past m_pasts) fun m_past_4 m_pasts_5 =>
    ob1 (wr 490 m_s 477 0) fun m_s_7 =>
    ob1 (wr 490 m_s_7 478 0) fun m_s_8 =>
    some (((d_X6_size v1) + (d_X6_size v2)), m_s_8, m_past_4, m_pasts_5))
set_option maxHeartbeats 4000000 in
set_option maxRecDepth 100000 in
theorem c_X6_adjust (l : Launch) (D : va_G) (cI cC cE : ClassId) (h0 h_s h_aside h_past h_snapshot h_text : Nat) (sz : Nat) (m_s : Nat → Int32) (m_past : Nat → Int32) (m_pasts : Int32) (m_isKept : Int32) (m_length : Int32) (m_hasStop : Int32) (m_stopAt : Int32) (m_stopWhy : Int32) (m_spot : Int32) (m_isWrong : Int32) (m_kind : Int32) (m_first : Int32) (m_second : Int32) (m_third : Int32) (m_fourth : Int32) (r0 : Int32) (o_m_s : Nat → Int32) (o_m_past : Nat → Int32) (o_m_pasts : Int32) (h : d_X6_adjust m_s m_past m_pasts = some (r0, o_m_s, o_m_past, o_m_pasts)) : Met l yX6_adjust wsX6_adjust ({ frames := 1, cells := 0, slots := 0, locals := 21 } : Room) (kP D (kT cI cC cE) [.ref h0] (w_X6_adjust cI cC h0 h_s h_aside h_past h_snapshot h_text m_s m_past m_pasts m_isKept m_length m_hasStop m_stopAt m_stopWhy m_spot m_isWrong m_kind m_first m_second m_third m_fourth) sz) (kQi D (kT cI cC cE) (w_X6_adjust cI cC h0 h_s h_aside h_past h_snapshot h_text m_s m_past m_pasts m_isKept m_length m_hasStop m_stopAt m_stopWhy m_spot m_isWrong m_kind m_first m_second m_third m_fourth) (w_X6_adjust cI cC h0 h_s h_aside h_past h_snapshot h_text o_m_s o_m_past o_m_pasts m_isKept m_length m_hasStop m_stopAt m_stopWhy m_spot m_isWrong m_kind m_first m_second m_third m_fourth) sz r0) 0 0 (va_A (w_X6_adjust cI cC h0 h_s h_aside h_past h_snapshot h_text m_s m_past m_pasts m_isKept m_length m_hasStop m_stopAt m_stopWhy m_spot m_isWrong m_kind m_first m_second m_third m_fourth) sz) := by
  refine kMetI (cc := cX6_adjust) (maxL := 2) (own := RX6) (by decide) rfl (Nat.le_of_ble_eq_true rfl) rfl ?_
  intro p e s m below meth c A Q hx hb hml hown hts hP hK hD hA hS hname fin ls hl
  have hl : lv_has ls 2 [(0, .ref h0)] := hl
  have hiX6 : ∀ w ∈ u_ws RX6 TX6 18, w ∈ wsX6_adjust := by decide +kernel
  dsimp only [d_X6_adjust] at h
  refine lv_aload_n hx hb dX6_adjust_0 rfl (lv_at hl 0 rfl) ?_
  refine va_get (ci := 6) (C := RX6) (T := TX6) (N := 18) hx hb hts hiX6 hown hK hP 0 rfl rfl 0 (by decide) (hts (.fieldLink RX6 7 "RiddleTradeModel" "s" "[I") (List.mem_of_getElem? (i := 1) rfl)) (fun _ h9 => h9) rfl dX6_adjust_1 ?_
  refine lv_sipush (v := 477) hx hb dX6_adjust_4 (by decide) ?_
  refine k_iald hx hb hK hP 1 0 rfl rfl h dX6_adjust_7 (fun v1 h => ?_)
  refine kcSi (ws1 := (w_X6_adjust cI cC h0 h_s h_aside h_past h_snapshot h_text m_s m_past m_pasts m_isKept m_length m_hasStop m_stopAt m_stopWhy m_spot m_isWrong m_kind m_first m_second m_third m_fourth)) ⟨hx, hb, hml, hown, hts⟩ [] [0, 1, 2] (c_X6_size l D cI cC cE _ v1 (d_X6_size v1) rfl) (va_cwS 1 hts gX6_adjust_X6_size rfl rfl rfl (by decide +kernel) ⟨Nat.le_of_ble_eq_true rfl, Nat.le_of_ble_eq_true rfl⟩) hK hP hD hS hA rfl rfl rfl rfl rfl rfl rfl hl.1 rfl (Nat.le_of_ble_eq_true rfl) dX6_adjust_8 ⟨Nat.le_refl 0, Nat.le_refl 0⟩ (fun H locs hP hD hS => ?_)
  refine lv_aload_n hx hb dX6_adjust_11 rfl (lv_at hl 0 rfl) ?_
  refine va_get (ci := 6) (C := RX6) (T := TX6) (N := 18) hx hb hts hiX6 hown hK hP 0 rfl rfl 0 (by decide) (hts (.fieldLink RX6 7 "RiddleTradeModel" "s" "[I") (List.mem_of_getElem? (i := 1) rfl)) (fun _ h9 => h9) rfl dX6_adjust_12 ?_
  refine lv_sipush (v := 478) hx hb dX6_adjust_15 (by decide) ?_
  refine k_iald hx hb hK hP 1 0 rfl rfl h dX6_adjust_18 (fun v2 h => ?_)
  refine kcSi (ws1 := (w_X6_adjust cI cC h0 h_s h_aside h_past h_snapshot h_text m_s m_past m_pasts m_isKept m_length m_hasStop m_stopAt m_stopWhy m_spot m_isWrong m_kind m_first m_second m_third m_fourth)) ⟨hx, hb, hml, hown, hts⟩ [] [0, 1, 2] (c_X6_size l D cI cC cE _ v2 (d_X6_size v2) rfl) (va_cwS 1 hts gX6_adjust_X6_size rfl rfl rfl (by decide +kernel) ⟨Nat.le_of_ble_eq_true rfl, Nat.le_of_ble_eq_true rfl⟩) hK hP hD hS hA rfl rfl rfl rfl rfl rfl rfl hl.1 rfl (Nat.le_of_ble_eq_true rfl) dX6_adjust_19 ⟨Nat.le_refl 0, Nat.le_refl 0⟩ (fun H locs hP hD hS => ?_)
  refine lv_iadd hx hb dX6_adjust_22 ?_
  refine lv_istore_n (lv' := [(1, .int ((d_X6_size v1) + (d_X6_size v2))), (0, .ref h0)]) hx hb dX6_adjust_23 rfl hl (by decide) rfl (fun ls hl => ?_)
  refine lv_iload_n hx hb dX6_adjust_24 rfl (lv_at hl 0 rfl) ?_
  refine lv_if_ne (tgt := 31) hx hb dX6_adjust_25 (by decide) (fun c3 => ?_) (fun c3 => ?_)
  · have h := (k_iB h).2 c3
    refine lv_aload_n hx hb dX6_adjust_31 rfl (lv_at hl 1 rfl) ?_
    obtain ⟨m_past_4, m_pasts_5, hu6, h⟩ := ob2_el h
    refine kcVv (ci := 6) (q := (RX6, TX6, 18)) (ws1 := (w_X6_adjust cI cC h0 h_s h_aside h_past h_snapshot h_text m_s m_past_4 m_pasts_5 m_isKept m_length m_hasStop m_stopAt m_stopWhy m_spot m_isWrong m_kind m_first m_second m_third m_fourth)) ⟨hx, hb, hml, hown, hts⟩ [0, 1, 2] [] (c_X6_records l D cI cC cE h0 h_s h_aside h_past h_snapshot h_text _ m_s m_past m_pasts m_isKept m_length m_hasStop m_stopAt m_stopWhy m_spot m_isWrong m_kind m_first m_second m_third m_fourth m_past_4 m_pasts_5 hu6) (cwV 0 hts gX6_adjust_X6_records rfl rfl rfl (by decide +kernel) ⟨Nat.le_of_ble_eq_true rfl, Nat.le_of_ble_eq_true rfl⟩) hK hP hD hS hA rfl rfl rfl rfl rfl rfl rfl rfl rfl hl.1 rfl (Nat.le_of_ble_eq_true rfl) dX6_adjust_32 ⟨Nat.le_refl 0, Nat.le_refl 0⟩ (fun H locs hP hD hS => ?_)
    refine lv_aload_n hx hb dX6_adjust_35 rfl (lv_at hl 1 rfl) ?_
    refine va_get (ci := 6) (C := RX6) (T := TX6) (N := 18) hx hb hts hiX6 hown hK hP 0 rfl rfl 0 (by decide) (hts (.fieldLink RX6 7 "RiddleTradeModel" "s" "[I") (List.mem_of_getElem? (i := 1) rfl)) (fun _ h9 => h9) rfl dX6_adjust_36 ?_
    refine lv_sipush (v := 477) hx hb dX6_adjust_39 (by decide) ?_
    refine lv_iconst (v := 0) hx hb dX6_adjust_42 (by decide) ?_
    refine k_iast hx hb hK hP hD hS 1 0 rfl rfl h dX6_adjust_43 (fun m_s_7 H locs hP hD hS h => ?_)
    have hP : va_P D vwCl (w_X6_adjust cI cC h0 h_s h_aside h_past h_snapshot h_text m_s_7 m_past_4 m_pasts_5 m_isKept m_length m_hasStop m_stopAt m_stopWhy m_spot m_isWrong m_kind m_first m_second m_third m_fourth) H := hP
    have hD : va_D A (w_X6_adjust cI cC h0 h_s h_aside h_past h_snapshot h_text m_s_7 m_past_4 m_pasts_5 m_isKept m_length m_hasStop m_stopAt m_stopWhy m_spot m_isWrong m_kind m_first m_second m_third m_fourth) := hD
    refine lv_aload_n hx hb dX6_adjust_44 rfl (lv_at hl 1 rfl) ?_
    refine va_get (ci := 6) (C := RX6) (T := TX6) (N := 18) hx hb hts hiX6 hown hK hP 0 rfl rfl 0 (by decide) (hts (.fieldLink RX6 7 "RiddleTradeModel" "s" "[I") (List.mem_of_getElem? (i := 1) rfl)) (fun _ h9 => h9) rfl dX6_adjust_45 ?_
    refine lv_sipush (v := 478) hx hb dX6_adjust_48 (by decide) ?_
    refine lv_iconst (v := 0) hx hb dX6_adjust_51 (by decide) ?_
    refine k_iast hx hb hK hP hD hS 1 0 rfl rfl h dX6_adjust_52 (fun m_s_8 H locs hP hD hS h => ?_)
    have hP : va_P D vwCl (w_X6_adjust cI cC h0 h_s h_aside h_past h_snapshot h_text m_s_8 m_past_4 m_pasts_5 m_isKept m_length m_hasStop m_stopAt m_stopWhy m_spot m_isWrong m_kind m_first m_second m_third m_fourth) H := hP
    have hD : va_D A (w_X6_adjust cI cC h0 h_s h_aside h_past h_snapshot h_text m_s_8 m_past_4 m_pasts_5 m_isKept m_length m_hasStop m_stopAt m_stopWhy m_spot m_isWrong m_kind m_first m_second m_third m_fourth) := hD
    refine lv_iload_n hx hb dX6_adjust_53 rfl (lv_at hl 0 rfl) ?_
    obtain ⟨rfl, rfl, rfl, rfl⟩ := inj4 (Option.some.inj h)
    exact fin _ _ _ _ dX6_adjust_54 hP hD hS
  · have h := (k_iB h).1 c3
    refine lv_bipush (v := (-5)) hx hb dX6_adjust_28 (by decide) ?_
    obtain ⟨rfl, rfl, rfl, rfl⟩ := inj4 (Option.some.inj h)
    exact fin _ _ _ _ dX6_adjust_30 hP hD hS
abbrev w_X6_set (cI cC : ClassId) (h0 h_s h_aside h_past h_snapshot h_text : Nat) (m_s : Nat → Int32) (m_past : Nat → Int32) (m_pasts : Int32) (m_isKept : Int32) (m_length : Int32) (m_hasStop : Int32) (m_stopAt : Int32) (m_stopWhy : Int32) (m_spot : Int32) (m_isWrong : Int32) (m_kind : Int32) (m_first : Int32) (m_second : Int32) (m_third : Int32) (m_fourth : Int32) : va_W := [(h0, .inr (6, [.ref h_s, .ref h_aside, .ref h_past, .int m_pasts, .ref h_snapshot, .int m_isKept, .ref h_text, .int m_length, .int m_hasStop, .int m_stopAt, .int m_stopWhy, .int m_spot, .int m_isWrong, .int m_kind, .int m_first, .int m_second, .int m_third, .int m_fourth])), (h_s, .inl (cI, 490, .inl m_s)), (h_past, .inl (cI, 1960, .inl m_past))]
def j_X6_set_44 (p1 : Int32) (p2 : Int32) (m_s : Nat → Int32) (m_past : Nat → Int32) (m_pasts : Int32) : Option (Int32 × (Nat → Int32) × (Nat → Int32) × Int32) :=
    ob1 (rd 490 m_s (479 + p1)) fun v5 =>
    if v5 = p2 then (some ((-5), m_s, m_past, m_pasts))
    else (ob2 (d_X6_records m_s m_past m_pasts) fun m_past_7 m_pasts_8 =>
    ob1 (rd 490 m_s (479 + p1)) fun v10 =>
    ob1 (wr 490 m_s (479 + p1) p2) fun m_s_11 =>
    some (v10, m_s_11, m_past_7, m_pasts_8))
def d_X6_set (p1 : Int32) (p2 : Int32) (m_s : Nat → Int32) (m_past : Nat → Int32) (m_pasts : Int32) : Option (Int32 × (Nat → Int32) × (Nat → Int32) × Int32) :=
    if (d_X6_in p1 0 3) = 0 then (some ((-1), m_s, m_past, m_pasts))
    else (if p1 = 2 then (if p1 = 3 then (if (d_X6_in p2 1 500) = 0 then (some ((-2), m_s, m_past, m_pasts))
    else (j_X6_set_44  p1 p2 m_s m_past m_pasts))
    else (if (d_X6_in p2 1 9) = 0 then (some ((-2), m_s, m_past, m_pasts))
    else (j_X6_set_44  p1 p2 m_s m_past m_pasts)))
    else (if p1 = 3 then (if (d_X6_in p2 0 500) = 0 then (some ((-2), m_s, m_past, m_pasts))
    else (j_X6_set_44  p1 p2 m_s m_past m_pasts))
    else (if (d_X6_in p2 0 9) = 0 then (some ((-2), m_s, m_past, m_pasts))
    else (j_X6_set_44  p1 p2 m_s m_past m_pasts))))
set_option maxHeartbeats 4000000 in
set_option maxRecDepth 100000 in
theorem c_X6_set (l : Launch) (D : va_G) (cI cC cE : ClassId) (h0 h_s h_aside h_past h_snapshot h_text : Nat) (sz : Nat) (m_s : Nat → Int32) (m_past : Nat → Int32) (m_pasts : Int32) (m_isKept : Int32) (m_length : Int32) (m_hasStop : Int32) (m_stopAt : Int32) (m_stopWhy : Int32) (m_spot : Int32) (m_isWrong : Int32) (m_kind : Int32) (m_first : Int32) (m_second : Int32) (m_third : Int32) (m_fourth : Int32) (p1 : Int32) (p2 : Int32) (r0 : Int32) (o_m_s : Nat → Int32) (o_m_past : Nat → Int32) (o_m_pasts : Int32) (h : d_X6_set p1 p2 m_s m_past m_pasts = some (r0, o_m_s, o_m_past, o_m_pasts)) : Met l yX6_set wsX6_set ({ frames := 1, cells := 0, slots := 0, locals := 22 } : Room) (kP D (kT cI cC cE) [.ref h0, .int p1, .int p2] (w_X6_set cI cC h0 h_s h_aside h_past h_snapshot h_text m_s m_past m_pasts m_isKept m_length m_hasStop m_stopAt m_stopWhy m_spot m_isWrong m_kind m_first m_second m_third m_fourth) sz) (kQi D (kT cI cC cE) (w_X6_set cI cC h0 h_s h_aside h_past h_snapshot h_text m_s m_past m_pasts m_isKept m_length m_hasStop m_stopAt m_stopWhy m_spot m_isWrong m_kind m_first m_second m_third m_fourth) (w_X6_set cI cC h0 h_s h_aside h_past h_snapshot h_text o_m_s o_m_past o_m_pasts m_isKept m_length m_hasStop m_stopAt m_stopWhy m_spot m_isWrong m_kind m_first m_second m_third m_fourth) sz r0) 0 0 (va_A (w_X6_set cI cC h0 h_s h_aside h_past h_snapshot h_text m_s m_past m_pasts m_isKept m_length m_hasStop m_stopAt m_stopWhy m_spot m_isWrong m_kind m_first m_second m_third m_fourth) sz) := by
  refine kMetI (cc := cX6_set) (maxL := 4) (own := RX6) (by decide) rfl (Nat.le_of_ble_eq_true rfl) rfl ?_
  intro p e s m below meth c A Q hx hb hml hown hts hP hK hD hA hS hname fin ls hl
  have hl : lv_has ls 4 [(0, .ref h0), (1, .int p1), (2, .int p2)] := hl
  have hiX6 : ∀ w ∈ u_ws RX6 TX6 18, w ∈ wsX6_set := by decide +kernel
  have hJ44 : ∀ (m_s : Nat → Int32) (m_past : Nat → Int32) (m_pasts : Int32) (H : Heap) (locs : List Loc), va_P D vwCl (w_X6_set cI cC h0 h_s h_aside h_past h_snapshot h_text m_s m_past m_pasts m_isKept m_length m_hasStop m_stopAt m_stopWhy m_spot m_isWrong m_kind m_first m_second m_third m_fourth) H → va_D A (w_X6_set cI cC h0 h_s h_aside h_past h_snapshot h_text m_s m_past m_pasts m_isKept m_length m_hasStop m_stopAt m_stopWhy m_spot m_isWrong m_kind m_first m_second m_third m_fourth) → va_S A s.heap H locs → ∀ (ls : Array Slot), lv_has ls 4 [(0, .ref h0), (1, .int p1), (2, .int p2)] → j_X6_set_44  p1 p2 m_s m_past m_pasts = some (r0, o_m_s, o_m_past, o_m_pasts) → W p l e ({ frames := 1, cells := 0, slots := 0, locals := 22 } : Room) s m [.ref h0, .int p1, .int p2].toArray below meth c H locs 0 0 Q (F0 m 44 ls []) := by
    intro m_s m_past m_pasts H locs hP hD hS ls hl h
    dsimp only [j_X6_set_44] at h
    refine lv_aload_n hx hb dX6_set_44 rfl (lv_at hl 0 rfl) ?_
    refine va_get (ci := 6) (C := RX6) (T := TX6) (N := 18) hx hb hts hiX6 hown hK hP 0 rfl rfl 0 (by decide) (hts (.fieldLink RX6 7 "RiddleTradeModel" "s" "[I") (List.mem_of_getElem? (i := 1) rfl)) (fun _ h9 => h9) rfl dX6_set_45 ?_
    refine lv_sipush (v := 479) hx hb dX6_set_48 (by decide) ?_
    refine lv_iload_n hx hb dX6_set_51 rfl (lv_at hl 1 rfl) ?_
    refine lv_iadd hx hb dX6_set_52 ?_
    refine k_iald hx hb hK hP 1 0 rfl rfl h dX6_set_53 (fun v5 h => ?_)
    refine lv_iload_n hx hb dX6_set_54 rfl (lv_at hl 2 rfl) ?_
    refine lv_icmp_ne (tgt := 61) hx hb dX6_set_55 (by decide) (fun c6 => ?_) (fun c6 => ?_)
    · have h := (k_iB h).2 c6
      refine lv_aload_n hx hb dX6_set_61 rfl (lv_at hl 0 rfl) ?_
      obtain ⟨m_past_7, m_pasts_8, hu9, h⟩ := ob2_el h
      refine kcVv (ci := 6) (q := (RX6, TX6, 18)) (ws1 := (w_X6_set cI cC h0 h_s h_aside h_past h_snapshot h_text m_s m_past_7 m_pasts_8 m_isKept m_length m_hasStop m_stopAt m_stopWhy m_spot m_isWrong m_kind m_first m_second m_third m_fourth)) ⟨hx, hb, hml, hown, hts⟩ [0, 1, 2] [] (c_X6_records l D cI cC cE h0 h_s h_aside h_past h_snapshot h_text _ m_s m_past m_pasts m_isKept m_length m_hasStop m_stopAt m_stopWhy m_spot m_isWrong m_kind m_first m_second m_third m_fourth m_past_7 m_pasts_8 hu9) (cwV 0 hts gX6_set_X6_records rfl rfl rfl (by decide +kernel) ⟨Nat.le_of_ble_eq_true rfl, Nat.le_of_ble_eq_true rfl⟩) hK hP hD hS hA rfl rfl rfl rfl rfl rfl rfl rfl rfl hl.1 rfl (Nat.le_of_ble_eq_true rfl) dX6_set_62 ⟨Nat.le_refl 0, Nat.le_refl 0⟩ (fun H locs hP hD hS => ?_)
      refine lv_aload_n hx hb dX6_set_65 rfl (lv_at hl 0 rfl) ?_
      refine va_get (ci := 6) (C := RX6) (T := TX6) (N := 18) hx hb hts hiX6 hown hK hP 0 rfl rfl 0 (by decide) (hts (.fieldLink RX6 7 "RiddleTradeModel" "s" "[I") (List.mem_of_getElem? (i := 1) rfl)) (fun _ h9 => h9) rfl dX6_set_66 ?_
      refine lv_sipush (v := 479) hx hb dX6_set_69 (by decide) ?_
      refine lv_iload_n hx hb dX6_set_72 rfl (lv_at hl 1 rfl) ?_
      refine lv_iadd hx hb dX6_set_73 ?_
      refine k_iald hx hb hK hP 1 0 rfl rfl h dX6_set_74 (fun v10 h => ?_)
      refine lv_istore_n (lv' := [(3, .int v10), (0, .ref h0), (1, .int p1), (2, .int p2)]) hx hb dX6_set_75 rfl hl (by decide) rfl (fun ls hl => ?_)
      refine lv_aload_n hx hb dX6_set_76 rfl (lv_at hl 1 rfl) ?_
      refine va_get (ci := 6) (C := RX6) (T := TX6) (N := 18) hx hb hts hiX6 hown hK hP 0 rfl rfl 0 (by decide) (hts (.fieldLink RX6 7 "RiddleTradeModel" "s" "[I") (List.mem_of_getElem? (i := 1) rfl)) (fun _ h9 => h9) rfl dX6_set_77 ?_
      refine lv_sipush (v := 479) hx hb dX6_set_80 (by decide) ?_
      refine lv_iload_n hx hb dX6_set_83 rfl (lv_at hl 2 rfl) ?_
      refine lv_iadd hx hb dX6_set_84 ?_
      refine lv_iload_n hx hb dX6_set_85 rfl (lv_at hl 3 rfl) ?_
      refine k_iast hx hb hK hP hD hS 1 0 rfl rfl h dX6_set_86 (fun m_s_11 H locs hP hD hS h => ?_)
      have hP : va_P D vwCl (w_X6_set cI cC h0 h_s h_aside h_past h_snapshot h_text m_s_11 m_past_7 m_pasts_8 m_isKept m_length m_hasStop m_stopAt m_stopWhy m_spot m_isWrong m_kind m_first m_second m_third m_fourth) H := hP
      have hD : va_D A (w_X6_set cI cC h0 h_s h_aside h_past h_snapshot h_text m_s_11 m_past_7 m_pasts_8 m_isKept m_length m_hasStop m_stopAt m_stopWhy m_spot m_isWrong m_kind m_first m_second m_third m_fourth) := hD
      refine lv_iload_n hx hb dX6_set_87 rfl (lv_at hl 0 rfl) ?_
      obtain ⟨rfl, rfl, rfl, rfl⟩ := inj4 (Option.some.inj h)
      exact fin _ _ _ _ dX6_set_88 hP hD hS
    · have h := (k_iB h).1 c6
      refine lv_bipush (v := (-5)) hx hb dX6_set_58 (by decide) ?_
      obtain ⟨rfl, rfl, rfl, rfl⟩ := inj4 (Option.some.inj h)
      exact fin _ _ _ _ dX6_set_60 hP hD hS
  dsimp only [d_X6_set] at h
  refine lv_iload_n hx hb dX6_set_0 rfl (lv_at hl 1 rfl) ?_
  refine lv_iconst (v := 0) hx hb dX6_set_1 (by decide) ?_
  refine lv_iconst (v := 3) hx hb dX6_set_2 (by decide) ?_
  refine kcSi (ws1 := (w_X6_set cI cC h0 h_s h_aside h_past h_snapshot h_text m_s m_past m_pasts m_isKept m_length m_hasStop m_stopAt m_stopWhy m_spot m_isWrong m_kind m_first m_second m_third m_fourth)) ⟨hx, hb, hml, hown, hts⟩ [] [0, 1, 2] (c_X6_in l D cI cC cE _ p1 0 3 (d_X6_in p1 0 3) rfl) (va_cwS 3 hts gX6_set_X6_in rfl rfl rfl (by decide +kernel) ⟨Nat.le_of_ble_eq_true rfl, Nat.le_of_ble_eq_true rfl⟩) hK hP hD hS hA rfl rfl rfl rfl rfl rfl rfl hl.1 rfl (Nat.le_of_ble_eq_true rfl) dX6_set_3 ⟨Nat.le_refl 0, Nat.le_refl 0⟩ (fun H locs hP hD hS => ?_)
  refine lv_if_ne (tgt := 11) hx hb dX6_set_6 (by decide) (fun c1 => ?_) (fun c1 => ?_)
  · have h := (k_iB h).2 c1
    refine lv_iload_n hx hb dX6_set_11 rfl (lv_at hl 2 rfl) ?_
    refine lv_iload_n hx hb dX6_set_12 rfl (lv_at hl 1 rfl) ?_
    refine lv_iconst (v := 2) hx hb dX6_set_13 (by decide) ?_
    refine lv_icmp_ne (tgt := 21) hx hb dX6_set_14 (by decide) (fun c2 => ?_) (fun c2 => ?_)
    · have h := (k_iB h).2 c2
      refine lv_iconst (v := 0) hx hb dX6_set_21 (by decide) ?_
      refine lv_iload_n hx hb dX6_set_22 rfl (lv_at hl 1 rfl) ?_
      refine lv_iconst (v := 3) hx hb dX6_set_23 (by decide) ?_
      refine lv_icmp_ne (tgt := 33) hx hb dX6_set_24 (by decide) (fun c3 => ?_) (fun c3 => ?_)
      · have h := (k_iB h).2 c3
        refine lv_bipush (v := 9) hx hb dX6_set_33 (by decide) ?_
        refine kcSi (ws1 := (w_X6_set cI cC h0 h_s h_aside h_past h_snapshot h_text m_s m_past m_pasts m_isKept m_length m_hasStop m_stopAt m_stopWhy m_spot m_isWrong m_kind m_first m_second m_third m_fourth)) ⟨hx, hb, hml, hown, hts⟩ [] [0, 1, 2] (c_X6_in l D cI cC cE _ p2 0 9 (d_X6_in p2 0 9) rfl) (va_cwS 3 hts gX6_set_X6_in rfl rfl rfl (by decide +kernel) ⟨Nat.le_of_ble_eq_true rfl, Nat.le_of_ble_eq_true rfl⟩) hK hP hD hS hA rfl rfl rfl rfl rfl rfl rfl hl.1 rfl (Nat.le_of_ble_eq_true rfl) dX6_set_35 ⟨Nat.le_refl 0, Nat.le_refl 0⟩ (fun H locs hP hD hS => ?_)
        refine lv_if_ne (tgt := 44) hx hb dX6_set_38 (by decide) (fun c4 => ?_) (fun c4 => ?_)
        · have h := (k_iB h).2 c4
          exact hJ44   m_s m_past m_pasts _ _ hP hD hS _ (lv_sub hl [0, 1, 2] rfl) h
        · have h := (k_iB h).1 c4
          refine lv_bipush (v := (-2)) hx hb dX6_set_41 (by decide) ?_
          obtain ⟨rfl, rfl, rfl, rfl⟩ := inj4 (Option.some.inj h)
          exact fin _ _ _ _ dX6_set_43 hP hD hS
      · have h := (k_iB h).1 c3
        refine lv_sipush (v := 500) hx hb dX6_set_27 (by decide) ?_
        refine lv_goto (tgt := 35) hx hb dX6_set_30 (by decide) ?_
        refine kcSi (ws1 := (w_X6_set cI cC h0 h_s h_aside h_past h_snapshot h_text m_s m_past m_pasts m_isKept m_length m_hasStop m_stopAt m_stopWhy m_spot m_isWrong m_kind m_first m_second m_third m_fourth)) ⟨hx, hb, hml, hown, hts⟩ [] [0, 1, 2] (c_X6_in l D cI cC cE _ p2 0 500 (d_X6_in p2 0 500) rfl) (va_cwS 3 hts gX6_set_X6_in rfl rfl rfl (by decide +kernel) ⟨Nat.le_of_ble_eq_true rfl, Nat.le_of_ble_eq_true rfl⟩) hK hP hD hS hA rfl rfl rfl rfl rfl rfl rfl hl.1 rfl (Nat.le_of_ble_eq_true rfl) dX6_set_35 ⟨Nat.le_refl 0, Nat.le_refl 0⟩ (fun H locs hP hD hS => ?_)
        refine lv_if_ne (tgt := 44) hx hb dX6_set_38 (by decide) (fun c12 => ?_) (fun c12 => ?_)
        · have h := (k_iB h).2 c12
          exact hJ44   m_s m_past m_pasts _ _ hP hD hS _ (lv_sub hl [0, 1, 2] rfl) h
        · have h := (k_iB h).1 c12
          refine lv_bipush (v := (-2)) hx hb dX6_set_41 (by decide) ?_
          obtain ⟨rfl, rfl, rfl, rfl⟩ := inj4 (Option.some.inj h)
          exact fin _ _ _ _ dX6_set_43 hP hD hS
    · have h := (k_iB h).1 c2
      refine lv_iconst (v := 1) hx hb dX6_set_17 (by decide) ?_
      refine lv_goto (tgt := 22) hx hb dX6_set_18 (by decide) ?_
      refine lv_iload_n hx hb dX6_set_22 rfl (lv_at hl 1 rfl) ?_
      refine lv_iconst (v := 3) hx hb dX6_set_23 (by decide) ?_
      refine lv_icmp_ne (tgt := 33) hx hb dX6_set_24 (by decide) (fun c13 => ?_) (fun c13 => ?_)
      · have h := (k_iB h).2 c13
        refine lv_bipush (v := 9) hx hb dX6_set_33 (by decide) ?_
        refine kcSi (ws1 := (w_X6_set cI cC h0 h_s h_aside h_past h_snapshot h_text m_s m_past m_pasts m_isKept m_length m_hasStop m_stopAt m_stopWhy m_spot m_isWrong m_kind m_first m_second m_third m_fourth)) ⟨hx, hb, hml, hown, hts⟩ [] [0, 1, 2] (c_X6_in l D cI cC cE _ p2 1 9 (d_X6_in p2 1 9) rfl) (va_cwS 3 hts gX6_set_X6_in rfl rfl rfl (by decide +kernel) ⟨Nat.le_of_ble_eq_true rfl, Nat.le_of_ble_eq_true rfl⟩) hK hP hD hS hA rfl rfl rfl rfl rfl rfl rfl hl.1 rfl (Nat.le_of_ble_eq_true rfl) dX6_set_35 ⟨Nat.le_refl 0, Nat.le_refl 0⟩ (fun H locs hP hD hS => ?_)
        refine lv_if_ne (tgt := 44) hx hb dX6_set_38 (by decide) (fun c14 => ?_) (fun c14 => ?_)
        · have h := (k_iB h).2 c14
          exact hJ44   m_s m_past m_pasts _ _ hP hD hS _ (lv_sub hl [0, 1, 2] rfl) h
        · have h := (k_iB h).1 c14
          refine lv_bipush (v := (-2)) hx hb dX6_set_41 (by decide) ?_
          obtain ⟨rfl, rfl, rfl, rfl⟩ := inj4 (Option.some.inj h)
          exact fin _ _ _ _ dX6_set_43 hP hD hS
      · have h := (k_iB h).1 c13
        refine lv_sipush (v := 500) hx hb dX6_set_27 (by decide) ?_
        refine lv_goto (tgt := 35) hx hb dX6_set_30 (by decide) ?_
        refine kcSi (ws1 := (w_X6_set cI cC h0 h_s h_aside h_past h_snapshot h_text m_s m_past m_pasts m_isKept m_length m_hasStop m_stopAt m_stopWhy m_spot m_isWrong m_kind m_first m_second m_third m_fourth)) ⟨hx, hb, hml, hown, hts⟩ [] [0, 1, 2] (c_X6_in l D cI cC cE _ p2 1 500 (d_X6_in p2 1 500) rfl) (va_cwS 3 hts gX6_set_X6_in rfl rfl rfl (by decide +kernel) ⟨Nat.le_of_ble_eq_true rfl, Nat.le_of_ble_eq_true rfl⟩) hK hP hD hS hA rfl rfl rfl rfl rfl rfl rfl hl.1 rfl (Nat.le_of_ble_eq_true rfl) dX6_set_35 ⟨Nat.le_refl 0, Nat.le_refl 0⟩ (fun H locs hP hD hS => ?_)
        refine lv_if_ne (tgt := 44) hx hb dX6_set_38 (by decide) (fun c15 => ?_) (fun c15 => ?_)
        · have h := (k_iB h).2 c15
          exact hJ44   m_s m_past m_pasts _ _ hP hD hS _ (lv_sub hl [0, 1, 2] rfl) h
        · have h := (k_iB h).1 c15
          refine lv_bipush (v := (-2)) hx hb dX6_set_41 (by decide) ?_
          obtain ⟨rfl, rfl, rfl, rfl⟩ := inj4 (Option.some.inj h)
          exact fin _ _ _ _ dX6_set_43 hP hD hS
  · have h := (k_iB h).1 c1
    refine lv_iconst (v := (-1)) hx hb dX6_set_9 (by decide) ?_
    obtain ⟨rfl, rfl, rfl, rfl⟩ := inj4 (Option.some.inj h)
    exact fin _ _ _ _ dX6_set_10 hP hD hS
abbrev w_X6_tells (cI cC : ClassId) (h0 h_s h_aside h_past h_snapshot h_text : Nat) (m_s : Nat → Int32) (m_pasts : Int32) (m_isKept : Int32) (m_length : Int32) (m_hasStop : Int32) (m_stopAt : Int32) (m_stopWhy : Int32) (m_spot : Int32) (m_isWrong : Int32) (m_kind : Int32) (m_first : Int32) (m_second : Int32) (m_third : Int32) (m_fourth : Int32) : va_W := [(h0, .inr (6, [.ref h_s, .ref h_aside, .ref h_past, .int m_pasts, .ref h_snapshot, .int m_isKept, .ref h_text, .int m_length, .int m_hasStop, .int m_stopAt, .int m_stopWhy, .int m_spot, .int m_isWrong, .int m_kind, .int m_first, .int m_second, .int m_third, .int m_fourth])), (h_s, .inl (cI, 490, .inl m_s))]
def d_X6_tells (p1 : Int32) (p2 : Int32) (m_s : Nat → Int32) : Option (Int32) :=
    ob1 (rd 490 m_s (477 + p1)) fun v1 =>
    if 0 ≤ (p2 + v1) then (some (p2 + v1))
    else (some 0)
set_option maxHeartbeats 4000000 in
set_option maxRecDepth 100000 in
theorem c_X6_tells (l : Launch) (D : va_G) (cI cC cE : ClassId) (h0 h_s h_aside h_past h_snapshot h_text : Nat) (sz : Nat) (m_s : Nat → Int32) (m_pasts : Int32) (m_isKept : Int32) (m_length : Int32) (m_hasStop : Int32) (m_stopAt : Int32) (m_stopWhy : Int32) (m_spot : Int32) (m_isWrong : Int32) (m_kind : Int32) (m_first : Int32) (m_second : Int32) (m_third : Int32) (m_fourth : Int32) (p1 : Int32) (p2 : Int32) (r0 : Int32) (h : d_X6_tells p1 p2 m_s = some r0) : Met l yX6_tells wsX6_tells ({ frames := 0, cells := 0, slots := 0, locals := 0 } : Room) (kP D (kT cI cC cE) [.ref h0, .int p1, .int p2] (w_X6_tells cI cC h0 h_s h_aside h_past h_snapshot h_text m_s m_pasts m_isKept m_length m_hasStop m_stopAt m_stopWhy m_spot m_isWrong m_kind m_first m_second m_third m_fourth) sz) (kQi D (kT cI cC cE) (w_X6_tells cI cC h0 h_s h_aside h_past h_snapshot h_text m_s m_pasts m_isKept m_length m_hasStop m_stopAt m_stopWhy m_spot m_isWrong m_kind m_first m_second m_third m_fourth) (w_X6_tells cI cC h0 h_s h_aside h_past h_snapshot h_text m_s m_pasts m_isKept m_length m_hasStop m_stopAt m_stopWhy m_spot m_isWrong m_kind m_first m_second m_third m_fourth) sz r0) 0 0 (va_A (w_X6_tells cI cC h0 h_s h_aside h_past h_snapshot h_text m_s m_pasts m_isKept m_length m_hasStop m_stopAt m_stopWhy m_spot m_isWrong m_kind m_first m_second m_third m_fourth) sz) := by
  refine kMetI (cc := cX6_tells) (maxL := 4) (own := RX6) (by decide) rfl (Nat.le_of_ble_eq_true rfl) rfl ?_
  intro p e s m below meth c A Q hx hb hml hown hts hP hK hD hA hS hname fin ls hl
  have hl : lv_has ls 4 [(0, .ref h0), (1, .int p1), (2, .int p2)] := hl
  have hiX6 : ∀ w ∈ u_ws RX6 TX6 18, w ∈ wsX6_tells := by decide +kernel
  dsimp only [d_X6_tells] at h
  refine lv_iload_n hx hb dX6_tells_0 rfl (lv_at hl 2 rfl) ?_
  refine lv_aload_n hx hb dX6_tells_1 rfl (lv_at hl 0 rfl) ?_
  refine va_get (ci := 6) (C := RX6) (T := TX6) (N := 18) hx hb hts hiX6 hown hK hP 0 rfl rfl 0 (by decide) (hts (.fieldLink RX6 7 "RiddleTradeModel" "s" "[I") (List.mem_of_getElem? (i := 1) rfl)) (fun _ h9 => h9) rfl dX6_tells_2 ?_
  refine lv_sipush (v := 477) hx hb dX6_tells_5 (by decide) ?_
  refine lv_iload_n hx hb dX6_tells_8 rfl (lv_at hl 1 rfl) ?_
  refine lv_iadd hx hb dX6_tells_9 ?_
  refine k_iald hx hb hK hP 1 0 rfl rfl h dX6_tells_10 (fun v1 h => ?_)
  refine lv_iadd hx hb dX6_tells_11 ?_
  refine lv_istore_n (lv' := [(3, .int (p2 + v1)), (0, .ref h0), (1, .int p1), (2, .int p2)]) hx hb dX6_tells_12 rfl hl (by decide) rfl (fun ls hl => ?_)
  refine lv_iload_n hx hb dX6_tells_13 rfl (lv_at hl 0 rfl) ?_
  refine lv_if_ge (tgt := 21) hx hb dX6_tells_14 (by decide) (fun c2 => ?_) (fun c2 => ?_)
  · have h := (k_iB h).1 c2
    refine lv_iload_n hx hb dX6_tells_21 rfl (lv_at hl 0 rfl) ?_
    obtain rfl := Option.some.inj h
    exact fin _ _ _ _ dX6_tells_22 hP hD hS
  · have h := (k_iB h).2 c2
    refine lv_iconst (v := 0) hx hb dX6_tells_17 (by decide) ?_
    refine lv_goto (tgt := 22) hx hb dX6_tells_18 (by decide) ?_
    obtain rfl := Option.some.inj h
    exact fin _ _ _ _ dX6_tells_22 hP hD hS
abbrev w_X6_drifts (cI cC : ClassId) (h0 h_s h_aside h_past h_snapshot h_text : Nat) (m_s : Nat → Int32) (m_pasts : Int32) (m_isKept : Int32) (m_length : Int32) (m_hasStop : Int32) (m_stopAt : Int32) (m_stopWhy : Int32) (m_spot : Int32) (m_isWrong : Int32) (m_kind : Int32) (m_first : Int32) (m_second : Int32) (m_third : Int32) (m_fourth : Int32) : va_W := [(h0, .inr (6, [.ref h_s, .ref h_aside, .ref h_past, .int m_pasts, .ref h_snapshot, .int m_isKept, .ref h_text, .int m_length, .int m_hasStop, .int m_stopAt, .int m_stopWhy, .int m_spot, .int m_isWrong, .int m_kind, .int m_first, .int m_second, .int m_third, .int m_fourth])), (h_s, .inl (cI, 490, .inl m_s))]
def j_X6_drifts_21 (p1 : Int32) (x2 : Int32) (m_s : Nat → Int32) : Option ((Nat → Int32)) :=
    ob1 (rd 490 m_s 480) fun v3 =>
    if v3 < (d_X6_size x2) then (if x2 ≤ 0 then (ob1 (wr 490 m_s (477 + p1) v3) fun m_s_6 =>
    some m_s_6)
    else (ob1 (wr 490 m_s (477 + p1) (-v3)) fun m_s_7 =>
    some m_s_7))
    else (ob1 (wr 490 m_s (477 + p1) x2) fun m_s_8 =>
    some m_s_8)
def d_X6_drifts (p1 : Int32) (m_s : Nat → Int32) : Option ((Nat → Int32)) :=
    ob1 (rd 490 m_s (477 + p1)) fun v1 =>
    if p1 = 0 then (j_X6_drifts_21  p1 (v1 + 1) m_s)
    else (j_X6_drifts_21  p1 (v1 + (-1)) m_s)
set_option maxHeartbeats 4000000 in
set_option maxRecDepth 100000 in
theorem c_X6_drifts (l : Launch) (D : va_G) (cI cC cE : ClassId) (h0 h_s h_aside h_past h_snapshot h_text : Nat) (sz : Nat) (m_s : Nat → Int32) (m_pasts : Int32) (m_isKept : Int32) (m_length : Int32) (m_hasStop : Int32) (m_stopAt : Int32) (m_stopWhy : Int32) (m_spot : Int32) (m_isWrong : Int32) (m_kind : Int32) (m_first : Int32) (m_second : Int32) (m_third : Int32) (m_fourth : Int32) (p1 : Int32) (o_m_s : Nat → Int32) (h : d_X6_drifts p1 m_s = some o_m_s) : Met l yX6_drifts wsX6_drifts ({ frames := 1, cells := 0, slots := 0, locals := 20 } : Room) (kP D (kT cI cC cE) [.ref h0, .int p1] (w_X6_drifts cI cC h0 h_s h_aside h_past h_snapshot h_text m_s m_pasts m_isKept m_length m_hasStop m_stopAt m_stopWhy m_spot m_isWrong m_kind m_first m_second m_third m_fourth) sz) (kQv D (kT cI cC cE) (w_X6_drifts cI cC h0 h_s h_aside h_past h_snapshot h_text m_s m_pasts m_isKept m_length m_hasStop m_stopAt m_stopWhy m_spot m_isWrong m_kind m_first m_second m_third m_fourth) (w_X6_drifts cI cC h0 h_s h_aside h_past h_snapshot h_text o_m_s m_pasts m_isKept m_length m_hasStop m_stopAt m_stopWhy m_spot m_isWrong m_kind m_first m_second m_third m_fourth) sz) 0 0 (va_A (w_X6_drifts cI cC h0 h_s h_aside h_past h_snapshot h_text m_s m_pasts m_isKept m_length m_hasStop m_stopAt m_stopWhy m_spot m_isWrong m_kind m_first m_second m_third m_fourth) sz) := by
  refine kMetV (cc := cX6_drifts) (maxL := 4) (own := RX6) (by decide) rfl (Nat.le_of_ble_eq_true rfl) rfl ?_
  intro p e s m below meth c A Q hx hb hml hown hts hP hK hD hA hS hname fin ls hl
  have hl : lv_has ls 4 [(0, .ref h0), (1, .int p1)] := hl
  have hiX6 : ∀ w ∈ u_ws RX6 TX6 18, w ∈ wsX6_drifts := by decide +kernel
  have hJ21 : ∀ (x2 : Int32) (m_s : Nat → Int32) (H : Heap) (locs : List Loc), va_P D vwCl (w_X6_drifts cI cC h0 h_s h_aside h_past h_snapshot h_text m_s m_pasts m_isKept m_length m_hasStop m_stopAt m_stopWhy m_spot m_isWrong m_kind m_first m_second m_third m_fourth) H → va_D A (w_X6_drifts cI cC h0 h_s h_aside h_past h_snapshot h_text m_s m_pasts m_isKept m_length m_hasStop m_stopAt m_stopWhy m_spot m_isWrong m_kind m_first m_second m_third m_fourth) → va_S A s.heap H locs → ∀ (ls : Array Slot), lv_has ls 4 [(0, .ref h0), (1, .int p1), (2, .int x2)] → j_X6_drifts_21  p1 x2 m_s = some o_m_s → W p l e ({ frames := 1, cells := 0, slots := 0, locals := 20 } : Room) s m [.ref h0, .int p1].toArray below meth c H locs 0 0 Q (F0 m 21 ls []) := by
    intro x2 m_s H locs hP hD hS ls hl h
    dsimp only [j_X6_drifts_21] at h
    refine lv_aload_n hx hb dX6_drifts_21 rfl (lv_at hl 0 rfl) ?_
    refine va_get (ci := 6) (C := RX6) (T := TX6) (N := 18) hx hb hts hiX6 hown hK hP 0 rfl rfl 0 (by decide) (hts (.fieldLink RX6 7 "RiddleTradeModel" "s" "[I") (List.mem_of_getElem? (i := 1) rfl)) (fun _ h9 => h9) rfl dX6_drifts_22 ?_
    refine lv_sipush (v := 480) hx hb dX6_drifts_25 (by decide) ?_
    refine k_iald hx hb hK hP 1 0 rfl rfl h dX6_drifts_28 (fun v3 h => ?_)
    refine lv_istore_n (lv' := [(3, .int v3), (0, .ref h0), (1, .int p1), (2, .int x2)]) hx hb dX6_drifts_29 rfl hl (by decide) rfl (fun ls hl => ?_)
    refine lv_aload_n hx hb dX6_drifts_30 rfl (lv_at hl 1 rfl) ?_
    refine va_get (ci := 6) (C := RX6) (T := TX6) (N := 18) hx hb hts hiX6 hown hK hP 0 rfl rfl 0 (by decide) (hts (.fieldLink RX6 7 "RiddleTradeModel" "s" "[I") (List.mem_of_getElem? (i := 1) rfl)) (fun _ h9 => h9) rfl dX6_drifts_31 ?_
    refine lv_sipush (v := 477) hx hb dX6_drifts_34 (by decide) ?_
    refine lv_iload_n hx hb dX6_drifts_37 rfl (lv_at hl 2 rfl) ?_
    refine lv_iadd hx hb dX6_drifts_38 ?_
    refine lv_iload_n hx hb dX6_drifts_39 rfl (lv_at hl 3 rfl) ?_
    refine kcSi (ws1 := (w_X6_drifts cI cC h0 h_s h_aside h_past h_snapshot h_text m_s m_pasts m_isKept m_length m_hasStop m_stopAt m_stopWhy m_spot m_isWrong m_kind m_first m_second m_third m_fourth)) ⟨hx, hb, hml, hown, hts⟩ [] [0, 1] (c_X6_size l D cI cC cE _ x2 (d_X6_size x2) rfl) (va_cwS 1 hts gX6_drifts_X6_size rfl rfl rfl (by decide +kernel) ⟨Nat.le_of_ble_eq_true rfl, Nat.le_of_ble_eq_true rfl⟩) hK hP hD hS hA rfl rfl rfl rfl rfl rfl rfl hl.1 rfl (Nat.le_of_ble_eq_true rfl) dX6_drifts_40 ⟨Nat.le_refl 0, Nat.le_refl 0⟩ (fun H locs hP hD hS => ?_)
    refine lv_iload_n hx hb dX6_drifts_43 rfl (lv_at hl 0 rfl) ?_
    refine lv_icmp_gt (tgt := 51) hx hb dX6_drifts_44 (by decide) (fun c4 => ?_) (fun c4 => ?_)
    · have h := (k_iB h).1 c4
      refine lv_iload_n hx hb dX6_drifts_51 rfl (lv_at hl 3 rfl) ?_
      refine lv_if_le (tgt := 60) hx hb dX6_drifts_52 (by decide) (fun c5 => ?_) (fun c5 => ?_)
      · have h := (k_iB h).1 c5
        refine lv_iload_n hx hb dX6_drifts_60 rfl (lv_at hl 0 rfl) ?_
        refine k_iast hx hb hK hP hD hS 1 0 rfl rfl h dX6_drifts_61 (fun m_s_6 H locs hP hD hS h => ?_)
        have hP : va_P D vwCl (w_X6_drifts cI cC h0 h_s h_aside h_past h_snapshot h_text m_s_6 m_pasts m_isKept m_length m_hasStop m_stopAt m_stopWhy m_spot m_isWrong m_kind m_first m_second m_third m_fourth) H := hP
        have hD : va_D A (w_X6_drifts cI cC h0 h_s h_aside h_past h_snapshot h_text m_s_6 m_pasts m_isKept m_length m_hasStop m_stopAt m_stopWhy m_spot m_isWrong m_kind m_first m_second m_third m_fourth) := hD
        obtain rfl := Option.some.inj h
        exact fin _ _ _ _ dX6_drifts_62 hP hD hS
      · have h := (k_iB h).2 c5
        refine lv_iload_n hx hb dX6_drifts_55 rfl (lv_at hl 0 rfl) ?_
        refine lv_ineg hx hb dX6_drifts_56 ?_
        refine lv_goto (tgt := 61) hx hb dX6_drifts_57 (by decide) ?_
        refine k_iast hx hb hK hP hD hS 1 0 rfl rfl h dX6_drifts_61 (fun m_s_7 H locs hP hD hS h => ?_)
        have hP : va_P D vwCl (w_X6_drifts cI cC h0 h_s h_aside h_past h_snapshot h_text m_s_7 m_pasts m_isKept m_length m_hasStop m_stopAt m_stopWhy m_spot m_isWrong m_kind m_first m_second m_third m_fourth) H := hP
        have hD : va_D A (w_X6_drifts cI cC h0 h_s h_aside h_past h_snapshot h_text m_s_7 m_pasts m_isKept m_length m_hasStop m_stopAt m_stopWhy m_spot m_isWrong m_kind m_first m_second m_third m_fourth) := hD
        obtain rfl := Option.some.inj h
        exact fin _ _ _ _ dX6_drifts_62 hP hD hS
    · have h := (k_iB h).2 c4
      refine lv_iload_n hx hb dX6_drifts_47 rfl (lv_at hl 3 rfl) ?_
      refine lv_goto (tgt := 61) hx hb dX6_drifts_48 (by decide) ?_
      refine k_iast hx hb hK hP hD hS 1 0 rfl rfl h dX6_drifts_61 (fun m_s_8 H locs hP hD hS h => ?_)
      have hP : va_P D vwCl (w_X6_drifts cI cC h0 h_s h_aside h_past h_snapshot h_text m_s_8 m_pasts m_isKept m_length m_hasStop m_stopAt m_stopWhy m_spot m_isWrong m_kind m_first m_second m_third m_fourth) H := hP
      have hD : va_D A (w_X6_drifts cI cC h0 h_s h_aside h_past h_snapshot h_text m_s_8 m_pasts m_isKept m_length m_hasStop m_stopAt m_stopWhy m_spot m_isWrong m_kind m_first m_second m_third m_fourth) := hD
      obtain rfl := Option.some.inj h
      exact fin _ _ _ _ dX6_drifts_62 hP hD hS
  dsimp only [d_X6_drifts] at h
  refine lv_aload_n hx hb dX6_drifts_0 rfl (lv_at hl 0 rfl) ?_
  refine va_get (ci := 6) (C := RX6) (T := TX6) (N := 18) hx hb hts hiX6 hown hK hP 0 rfl rfl 0 (by decide) (hts (.fieldLink RX6 7 "RiddleTradeModel" "s" "[I") (List.mem_of_getElem? (i := 1) rfl)) (fun _ h9 => h9) rfl dX6_drifts_1 ?_
  refine lv_sipush (v := 477) hx hb dX6_drifts_4 (by decide) ?_
  refine lv_iload_n hx hb dX6_drifts_7 rfl (lv_at hl 1 rfl) ?_
  refine lv_iadd hx hb dX6_drifts_8 ?_
  refine k_iald hx hb hK hP 1 0 rfl rfl h dX6_drifts_9 (fun v1 h => ?_)
  refine lv_iload_n hx hb dX6_drifts_10 rfl (lv_at hl 1 rfl) ?_
  refine lv_if_ne (tgt := 18) hx hb dX6_drifts_11 (by decide) (fun c2 => ?_) (fun c2 => ?_)
  · have h := (k_iB h).2 c2
    refine lv_iconst (v := (-1)) hx hb dX6_drifts_18 (by decide) ?_
    refine lv_iadd hx hb dX6_drifts_19 ?_
    refine lv_istore_n (lv' := [(2, .int (v1 + (-1))), (0, .ref h0), (1, .int p1)]) hx hb dX6_drifts_20 rfl hl (by decide) rfl (fun ls hl => ?_)
    exact hJ21   (v1 + (-1)) m_s _ _ hP hD hS _ (lv_sub hl [1, 2, 0] rfl) h
  · have h := (k_iB h).1 c2
    refine lv_iconst (v := 1) hx hb dX6_drifts_14 (by decide) ?_
    refine lv_goto (tgt := 19) hx hb dX6_drifts_15 (by decide) ?_
    refine lv_iadd hx hb dX6_drifts_19 ?_
    refine lv_istore_n (lv' := [(2, .int (v1 + 1)), (0, .ref h0), (1, .int p1)]) hx hb dX6_drifts_20 rfl hl (by decide) rfl (fun ls hl => ?_)
    exact hJ21   (v1 + 1) m_s _ _ hP hD hS _ (lv_sub hl [1, 2, 0] rfl) h
abbrev w_X6_payment (cI cC : ClassId) (h0 h_s h_aside h_past h_snapshot h_text : Nat) (m_s : Nat → Int32) (m_pasts : Int32) (m_isKept : Int32) (m_length : Int32) (m_hasStop : Int32) (m_stopAt : Int32) (m_stopWhy : Int32) (m_spot : Int32) (m_isWrong : Int32) (m_kind : Int32) (m_first : Int32) (m_second : Int32) (m_third : Int32) (m_fourth : Int32) : va_W := [(h0, .inr (6, [.ref h_s, .ref h_aside, .ref h_past, .int m_pasts, .ref h_snapshot, .int m_isKept, .ref h_text, .int m_length, .int m_hasStop, .int m_stopAt, .int m_stopWhy, .int m_spot, .int m_isWrong, .int m_kind, .int m_first, .int m_second, .int m_third, .int m_fourth])), (h_s, .inl (cI, 490, .inl m_s))]
def d_X6_payment (p1 : Int32) (p2 : Int32) (p3 : Int32) (m_s : Nat → Int32) : Option (Int32) :=
    ob1 (rd 490 m_s (d_X6_ofA p1 1)) fun v1 =>
    ob1 (rd 490 m_s (d_X6_ofR v1 1)) fun v2 =>
    some (v2 + ((p2 + p3) / 10))
set_option maxHeartbeats 4000000 in
set_option maxRecDepth 100000 in
theorem c_X6_payment (l : Launch) (D : va_G) (cI cC cE : ClassId) (h0 h_s h_aside h_past h_snapshot h_text : Nat) (sz : Nat) (m_s : Nat → Int32) (m_pasts : Int32) (m_isKept : Int32) (m_length : Int32) (m_hasStop : Int32) (m_stopAt : Int32) (m_stopWhy : Int32) (m_spot : Int32) (m_isWrong : Int32) (m_kind : Int32) (m_first : Int32) (m_second : Int32) (m_third : Int32) (m_fourth : Int32) (p1 : Int32) (p2 : Int32) (p3 : Int32) (r0 : Int32) (h : d_X6_payment p1 p2 p3 m_s = some r0) : Met l yX6_payment wsX6_payment ({ frames := 1, cells := 0, slots := 0, locals := 21 } : Room) (kP D (kT cI cC cE) [.ref h0, .int p1, .int p2, .int p3] (w_X6_payment cI cC h0 h_s h_aside h_past h_snapshot h_text m_s m_pasts m_isKept m_length m_hasStop m_stopAt m_stopWhy m_spot m_isWrong m_kind m_first m_second m_third m_fourth) sz) (kQi D (kT cI cC cE) (w_X6_payment cI cC h0 h_s h_aside h_past h_snapshot h_text m_s m_pasts m_isKept m_length m_hasStop m_stopAt m_stopWhy m_spot m_isWrong m_kind m_first m_second m_third m_fourth) (w_X6_payment cI cC h0 h_s h_aside h_past h_snapshot h_text m_s m_pasts m_isKept m_length m_hasStop m_stopAt m_stopWhy m_spot m_isWrong m_kind m_first m_second m_third m_fourth) sz r0) 0 0 (va_A (w_X6_payment cI cC h0 h_s h_aside h_past h_snapshot h_text m_s m_pasts m_isKept m_length m_hasStop m_stopAt m_stopWhy m_spot m_isWrong m_kind m_first m_second m_third m_fourth) sz) := by
  refine kMetI (cc := cX6_payment) (maxL := 4) (own := RX6) (by decide) rfl (Nat.le_of_ble_eq_true rfl) rfl ?_
  intro p e s m below meth c A Q hx hb hml hown hts hP hK hD hA hS hname fin ls hl
  have hl : lv_has ls 4 [(0, .ref h0), (1, .int p1), (2, .int p2), (3, .int p3)] := hl
  have hiX6 : ∀ w ∈ u_ws RX6 TX6 18, w ∈ wsX6_payment := by decide +kernel
  dsimp only [d_X6_payment] at h
  refine lv_aload_n hx hb dX6_payment_0 rfl (lv_at hl 0 rfl) ?_
  refine va_get (ci := 6) (C := RX6) (T := TX6) (N := 18) hx hb hts hiX6 hown hK hP 0 rfl rfl 0 (by decide) (hts (.fieldLink RX6 7 "RiddleTradeModel" "s" "[I") (List.mem_of_getElem? (i := 1) rfl)) (fun _ h9 => h9) rfl dX6_payment_1 ?_
  refine lv_aload_n hx hb dX6_payment_4 rfl (lv_at hl 0 rfl) ?_
  refine va_get (ci := 6) (C := RX6) (T := TX6) (N := 18) hx hb hts hiX6 hown hK hP 0 rfl rfl 0 (by decide) (hts (.fieldLink RX6 7 "RiddleTradeModel" "s" "[I") (List.mem_of_getElem? (i := 1) rfl)) (fun _ h9 => h9) rfl dX6_payment_5 ?_
  refine lv_iload_n hx hb dX6_payment_8 rfl (lv_at hl 1 rfl) ?_
  refine lv_iconst (v := 1) hx hb dX6_payment_9 (by decide) ?_
  refine kcSi (ws1 := (w_X6_payment cI cC h0 h_s h_aside h_past h_snapshot h_text m_s m_pasts m_isKept m_length m_hasStop m_stopAt m_stopWhy m_spot m_isWrong m_kind m_first m_second m_third m_fourth)) ⟨hx, hb, hml, hown, hts⟩ [] [0, 1] (c_X6_ofA l D cI cC cE _ p1 1 (d_X6_ofA p1 1) rfl) (va_cwS 2 hts gX6_payment_X6_ofA rfl rfl rfl (by decide +kernel) ⟨Nat.le_of_ble_eq_true rfl, Nat.le_of_ble_eq_true rfl⟩) hK hP hD hS hA rfl rfl rfl rfl rfl rfl rfl hl.1 rfl (Nat.le_of_ble_eq_true rfl) dX6_payment_10 ⟨Nat.le_refl 0, Nat.le_refl 0⟩ (fun H locs hP hD hS => ?_)
  refine k_iald hx hb hK hP 1 0 rfl rfl h dX6_payment_13 (fun v1 h => ?_)
  refine lv_iconst (v := 1) hx hb dX6_payment_14 (by decide) ?_
  refine kcSi (ws1 := (w_X6_payment cI cC h0 h_s h_aside h_past h_snapshot h_text m_s m_pasts m_isKept m_length m_hasStop m_stopAt m_stopWhy m_spot m_isWrong m_kind m_first m_second m_third m_fourth)) ⟨hx, hb, hml, hown, hts⟩ [] [0, 1] (c_X6_ofR l D cI cC cE _ v1 1 (d_X6_ofR v1 1) rfl) (va_cwS 2 hts gX6_payment_X6_ofR rfl rfl rfl (by decide +kernel) ⟨Nat.le_of_ble_eq_true rfl, Nat.le_of_ble_eq_true rfl⟩) hK hP hD hS hA rfl rfl rfl rfl rfl rfl rfl hl.1 rfl (Nat.le_of_ble_eq_true rfl) dX6_payment_15 ⟨Nat.le_refl 0, Nat.le_refl 0⟩ (fun H locs hP hD hS => ?_)
  refine k_iald hx hb hK hP 1 0 rfl rfl h dX6_payment_18 (fun v2 h => ?_)
  refine lv_iload_n hx hb dX6_payment_19 rfl (lv_at hl 2 rfl) ?_
  refine lv_iload_n hx hb dX6_payment_20 rfl (lv_at hl 3 rfl) ?_
  refine lv_iadd hx hb dX6_payment_21 ?_
  refine lv_bipush (v := 10) hx hb dX6_payment_22 (by decide) ?_
  refine lv_idiv hx hb dX6_payment_24 (by decide) ?_
  refine lv_iadd hx hb dX6_payment_25 ?_
  obtain rfl := Option.some.inj h
  exact fin _ _ _ _ dX6_payment_26 hP hD hS
abbrev w_X6_canPay (cI cC : ClassId) (h0 h_s h_aside h_past h_snapshot h_text : Nat) (m_s : Nat → Int32) (m_pasts : Int32) (m_isKept : Int32) (m_length : Int32) (m_hasStop : Int32) (m_stopAt : Int32) (m_stopWhy : Int32) (m_spot : Int32) (m_isWrong : Int32) (m_kind : Int32) (m_first : Int32) (m_second : Int32) (m_third : Int32) (m_fourth : Int32) : va_W := [(h0, .inr (6, [.ref h_s, .ref h_aside, .ref h_past, .int m_pasts, .ref h_snapshot, .int m_isKept, .ref h_text, .int m_length, .int m_hasStop, .int m_stopAt, .int m_stopWhy, .int m_spot, .int m_isWrong, .int m_kind, .int m_first, .int m_second, .int m_third, .int m_fourth])), (h_s, .inl (cI, 490, .inl m_s))]
def d_X6_canPay (p1 : Int32) (p2 : Int32) (m_s : Nat → Int32) : Option (Int32) :=
    ob1 (rd 490 m_s (d_X6_ofA p1 1)) fun v1 =>
    ob1 (rd 490 m_s (d_X6_ofR v1 0)) fun v2 =>
    ob1 (rd 490 m_s (0 + v2)) fun v3 =>
    ob1 (rd 490 m_s 482) fun v4 =>
    if (v3 - p2) < (-v4) then (some 0)
    else (some 1)
set_option maxHeartbeats 4000000 in
set_option maxRecDepth 100000 in
theorem c_X6_canPay (l : Launch) (D : va_G) (cI cC cE : ClassId) (h0 h_s h_aside h_past h_snapshot h_text : Nat) (sz : Nat) (m_s : Nat → Int32) (m_pasts : Int32) (m_isKept : Int32) (m_length : Int32) (m_hasStop : Int32) (m_stopAt : Int32) (m_stopWhy : Int32) (m_spot : Int32) (m_isWrong : Int32) (m_kind : Int32) (m_first : Int32) (m_second : Int32) (m_third : Int32) (m_fourth : Int32) (p1 : Int32) (p2 : Int32) (r0 : Int32) (h : d_X6_canPay p1 p2 m_s = some r0) : Met l yX6_canPay wsX6_canPay ({ frames := 1, cells := 0, slots := 0, locals := 21 } : Room) (kP D (kT cI cC cE) [.ref h0, .int p1, .int p2] (w_X6_canPay cI cC h0 h_s h_aside h_past h_snapshot h_text m_s m_pasts m_isKept m_length m_hasStop m_stopAt m_stopWhy m_spot m_isWrong m_kind m_first m_second m_third m_fourth) sz) (kQi D (kT cI cC cE) (w_X6_canPay cI cC h0 h_s h_aside h_past h_snapshot h_text m_s m_pasts m_isKept m_length m_hasStop m_stopAt m_stopWhy m_spot m_isWrong m_kind m_first m_second m_third m_fourth) (w_X6_canPay cI cC h0 h_s h_aside h_past h_snapshot h_text m_s m_pasts m_isKept m_length m_hasStop m_stopAt m_stopWhy m_spot m_isWrong m_kind m_first m_second m_third m_fourth) sz r0) 0 0 (va_A (w_X6_canPay cI cC h0 h_s h_aside h_past h_snapshot h_text m_s m_pasts m_isKept m_length m_hasStop m_stopAt m_stopWhy m_spot m_isWrong m_kind m_first m_second m_third m_fourth) sz) := by
  refine kMetZ (cc := cX6_canPay) (maxL := 4) (own := RX6) (by decide) rfl (Nat.le_of_ble_eq_true rfl) rfl ?_
  intro p e s m below meth c A Q hx hb hml hown hts hP hK hD hA hS hname fin ls hl
  have hl : lv_has ls 4 [(0, .ref h0), (1, .int p1), (2, .int p2)] := hl
  have hiX6 : ∀ w ∈ u_ws RX6 TX6 18, w ∈ wsX6_canPay := by decide +kernel
  dsimp only [d_X6_canPay] at h
  refine lv_aload_n hx hb dX6_canPay_0 rfl (lv_at hl 0 rfl) ?_
  refine va_get (ci := 6) (C := RX6) (T := TX6) (N := 18) hx hb hts hiX6 hown hK hP 0 rfl rfl 0 (by decide) (hts (.fieldLink RX6 7 "RiddleTradeModel" "s" "[I") (List.mem_of_getElem? (i := 1) rfl)) (fun _ h9 => h9) rfl dX6_canPay_1 ?_
  refine lv_aload_n hx hb dX6_canPay_4 rfl (lv_at hl 0 rfl) ?_
  refine va_get (ci := 6) (C := RX6) (T := TX6) (N := 18) hx hb hts hiX6 hown hK hP 0 rfl rfl 0 (by decide) (hts (.fieldLink RX6 7 "RiddleTradeModel" "s" "[I") (List.mem_of_getElem? (i := 1) rfl)) (fun _ h9 => h9) rfl dX6_canPay_5 ?_
  refine lv_iload_n hx hb dX6_canPay_8 rfl (lv_at hl 1 rfl) ?_
  refine lv_iconst (v := 1) hx hb dX6_canPay_9 (by decide) ?_
  refine kcSi (ws1 := (w_X6_canPay cI cC h0 h_s h_aside h_past h_snapshot h_text m_s m_pasts m_isKept m_length m_hasStop m_stopAt m_stopWhy m_spot m_isWrong m_kind m_first m_second m_third m_fourth)) ⟨hx, hb, hml, hown, hts⟩ [] [0, 1] (c_X6_ofA l D cI cC cE _ p1 1 (d_X6_ofA p1 1) rfl) (va_cwS 2 hts gX6_canPay_X6_ofA rfl rfl rfl (by decide +kernel) ⟨Nat.le_of_ble_eq_true rfl, Nat.le_of_ble_eq_true rfl⟩) hK hP hD hS hA rfl rfl rfl rfl rfl rfl rfl hl.1 rfl (Nat.le_of_ble_eq_true rfl) dX6_canPay_10 ⟨Nat.le_refl 0, Nat.le_refl 0⟩ (fun H locs hP hD hS => ?_)
  refine k_iald hx hb hK hP 1 0 rfl rfl h dX6_canPay_13 (fun v1 h => ?_)
  refine lv_iconst (v := 0) hx hb dX6_canPay_14 (by decide) ?_
  refine kcSi (ws1 := (w_X6_canPay cI cC h0 h_s h_aside h_past h_snapshot h_text m_s m_pasts m_isKept m_length m_hasStop m_stopAt m_stopWhy m_spot m_isWrong m_kind m_first m_second m_third m_fourth)) ⟨hx, hb, hml, hown, hts⟩ [] [0, 1] (c_X6_ofR l D cI cC cE _ v1 0 (d_X6_ofR v1 0) rfl) (va_cwS 2 hts gX6_canPay_X6_ofR rfl rfl rfl (by decide +kernel) ⟨Nat.le_of_ble_eq_true rfl, Nat.le_of_ble_eq_true rfl⟩) hK hP hD hS hA rfl rfl rfl rfl rfl rfl rfl hl.1 rfl (Nat.le_of_ble_eq_true rfl) dX6_canPay_15 ⟨Nat.le_refl 0, Nat.le_refl 0⟩ (fun H locs hP hD hS => ?_)
  refine k_iald hx hb hK hP 1 0 rfl rfl h dX6_canPay_18 (fun v2 h => ?_)
  refine lv_istore_n (lv' := [(3, .int v2), (0, .ref h0), (1, .int p1), (2, .int p2)]) hx hb dX6_canPay_19 rfl hl (by decide) rfl (fun ls hl => ?_)
  refine lv_aload_n hx hb dX6_canPay_20 rfl (lv_at hl 1 rfl) ?_
  refine va_get (ci := 6) (C := RX6) (T := TX6) (N := 18) hx hb hts hiX6 hown hK hP 0 rfl rfl 0 (by decide) (hts (.fieldLink RX6 7 "RiddleTradeModel" "s" "[I") (List.mem_of_getElem? (i := 1) rfl)) (fun _ h9 => h9) rfl dX6_canPay_21 ?_
  refine lv_iconst (v := 0) hx hb dX6_canPay_24 (by decide) ?_
  refine lv_iload_n hx hb dX6_canPay_25 rfl (lv_at hl 0 rfl) ?_
  refine lv_iadd hx hb dX6_canPay_26 ?_
  refine k_iald hx hb hK hP 1 0 rfl rfl h dX6_canPay_27 (fun v3 h => ?_)
  refine lv_iload_n hx hb dX6_canPay_28 rfl (lv_at hl 3 rfl) ?_
  refine lv_isub hx hb dX6_canPay_29 ?_
  refine lv_aload_n hx hb dX6_canPay_30 rfl (lv_at hl 1 rfl) ?_
  refine va_get (ci := 6) (C := RX6) (T := TX6) (N := 18) hx hb hts hiX6 hown hK hP 0 rfl rfl 0 (by decide) (hts (.fieldLink RX6 7 "RiddleTradeModel" "s" "[I") (List.mem_of_getElem? (i := 1) rfl)) (fun _ h9 => h9) rfl dX6_canPay_31 ?_
  refine lv_sipush (v := 482) hx hb dX6_canPay_34 (by decide) ?_
  refine k_iald hx hb hK hP 1 0 rfl rfl h dX6_canPay_37 (fun v4 h => ?_)
  refine lv_ineg hx hb dX6_canPay_38 ?_
  refine lv_icmp_lt (tgt := 46) hx hb dX6_canPay_39 (by decide) (fun c5 => ?_) (fun c5 => ?_)
  · have h := (k_iB h).1 c5
    refine lv_iconst (v := 0) hx hb dX6_canPay_46 (by decide) ?_
    obtain rfl := Option.some.inj h
    exact fin _ _ _ _ rfl dX6_canPay_47 hP hD hS
  · have h := (k_iB h).2 c5
    refine lv_iconst (v := 1) hx hb dX6_canPay_42 (by decide) ?_
    refine lv_goto (tgt := 47) hx hb dX6_canPay_43 (by decide) ?_
    obtain rfl := Option.some.inj h
    exact fin _ _ _ _ rfl dX6_canPay_47 hP hD hS
abbrev w_X6_refuses (cI cC : ClassId) (h0 h_s h_aside h_past h_snapshot h_text : Nat) (m_s : Nat → Int32) (m_pasts : Int32) (m_isKept : Int32) (m_length : Int32) (m_hasStop : Int32) (m_stopAt : Int32) (m_stopWhy : Int32) (m_spot : Int32) (m_isWrong : Int32) (m_kind : Int32) (m_first : Int32) (m_second : Int32) (m_third : Int32) (m_fourth : Int32) : va_W := [(h0, .inr (6, [.ref h_s, .ref h_aside, .ref h_past, .int m_pasts, .ref h_snapshot, .int m_isKept, .ref h_text, .int m_length, .int m_hasStop, .int m_stopAt, .int m_stopWhy, .int m_spot, .int m_isWrong, .int m_kind, .int m_first, .int m_second, .int m_third, .int m_fourth])), (h_s, .inl (cI, 490, .inl m_s))]
def d_X6_refuses (p1 : Int32) (p2 : Int32) (m_s : Nat → Int32) : Option ((Nat → Int32)) :=
    ob1 (wr 490 m_s (d_X6_ofA p1 4) 2) fun m_s_1 =>
    ob1 (wr 490 m_s_1 (d_X6_ofA p1 5) p2) fun m_s_2 =>
    some m_s_2
set_option maxHeartbeats 4000000 in
set_option maxRecDepth 100000 in
theorem c_X6_refuses (l : Launch) (D : va_G) (cI cC cE : ClassId) (h0 h_s h_aside h_past h_snapshot h_text : Nat) (sz : Nat) (m_s : Nat → Int32) (m_pasts : Int32) (m_isKept : Int32) (m_length : Int32) (m_hasStop : Int32) (m_stopAt : Int32) (m_stopWhy : Int32) (m_spot : Int32) (m_isWrong : Int32) (m_kind : Int32) (m_first : Int32) (m_second : Int32) (m_third : Int32) (m_fourth : Int32) (p1 : Int32) (p2 : Int32) (o_m_s : Nat → Int32) (h : d_X6_refuses p1 p2 m_s = some o_m_s) : Met l yX6_refuses wsX6_refuses ({ frames := 1, cells := 0, slots := 0, locals := 21 } : Room) (kP D (kT cI cC cE) [.ref h0, .int p1, .int p2] (w_X6_refuses cI cC h0 h_s h_aside h_past h_snapshot h_text m_s m_pasts m_isKept m_length m_hasStop m_stopAt m_stopWhy m_spot m_isWrong m_kind m_first m_second m_third m_fourth) sz) (kQv D (kT cI cC cE) (w_X6_refuses cI cC h0 h_s h_aside h_past h_snapshot h_text m_s m_pasts m_isKept m_length m_hasStop m_stopAt m_stopWhy m_spot m_isWrong m_kind m_first m_second m_third m_fourth) (w_X6_refuses cI cC h0 h_s h_aside h_past h_snapshot h_text o_m_s m_pasts m_isKept m_length m_hasStop m_stopAt m_stopWhy m_spot m_isWrong m_kind m_first m_second m_third m_fourth) sz) 0 0 (va_A (w_X6_refuses cI cC h0 h_s h_aside h_past h_snapshot h_text m_s m_pasts m_isKept m_length m_hasStop m_stopAt m_stopWhy m_spot m_isWrong m_kind m_first m_second m_third m_fourth) sz) := by
  refine kMetV (cc := cX6_refuses) (maxL := 3) (own := RX6) (by decide) rfl (Nat.le_of_ble_eq_true rfl) rfl ?_
  intro p e s m below meth c A Q hx hb hml hown hts hP hK hD hA hS hname fin ls hl
  have hl : lv_has ls 3 [(0, .ref h0), (1, .int p1), (2, .int p2)] := hl
  have hiX6 : ∀ w ∈ u_ws RX6 TX6 18, w ∈ wsX6_refuses := by decide +kernel
  dsimp only [d_X6_refuses] at h
  refine lv_aload_n hx hb dX6_refuses_0 rfl (lv_at hl 0 rfl) ?_
  refine va_get (ci := 6) (C := RX6) (T := TX6) (N := 18) hx hb hts hiX6 hown hK hP 0 rfl rfl 0 (by decide) (hts (.fieldLink RX6 7 "RiddleTradeModel" "s" "[I") (List.mem_of_getElem? (i := 1) rfl)) (fun _ h9 => h9) rfl dX6_refuses_1 ?_
  refine lv_iload_n hx hb dX6_refuses_4 rfl (lv_at hl 1 rfl) ?_
  refine lv_iconst (v := 4) hx hb dX6_refuses_5 (by decide) ?_
  refine kcSi (ws1 := (w_X6_refuses cI cC h0 h_s h_aside h_past h_snapshot h_text m_s m_pasts m_isKept m_length m_hasStop m_stopAt m_stopWhy m_spot m_isWrong m_kind m_first m_second m_third m_fourth)) ⟨hx, hb, hml, hown, hts⟩ [] [0, 1] (c_X6_ofA l D cI cC cE _ p1 4 (d_X6_ofA p1 4) rfl) (va_cwS 2 hts gX6_refuses_X6_ofA rfl rfl rfl (by decide +kernel) ⟨Nat.le_of_ble_eq_true rfl, Nat.le_of_ble_eq_true rfl⟩) hK hP hD hS hA rfl rfl rfl rfl rfl rfl rfl hl.1 rfl (Nat.le_of_ble_eq_true rfl) dX6_refuses_6 ⟨Nat.le_refl 0, Nat.le_refl 0⟩ (fun H locs hP hD hS => ?_)
  refine lv_iconst (v := 2) hx hb dX6_refuses_9 (by decide) ?_
  refine k_iast hx hb hK hP hD hS 1 0 rfl rfl h dX6_refuses_10 (fun m_s_1 H locs hP hD hS h => ?_)
  have hP : va_P D vwCl (w_X6_refuses cI cC h0 h_s h_aside h_past h_snapshot h_text m_s_1 m_pasts m_isKept m_length m_hasStop m_stopAt m_stopWhy m_spot m_isWrong m_kind m_first m_second m_third m_fourth) H := hP
  have hD : va_D A (w_X6_refuses cI cC h0 h_s h_aside h_past h_snapshot h_text m_s_1 m_pasts m_isKept m_length m_hasStop m_stopAt m_stopWhy m_spot m_isWrong m_kind m_first m_second m_third m_fourth) := hD
  refine lv_aload_n hx hb dX6_refuses_11 rfl (lv_at hl 0 rfl) ?_
  refine va_get (ci := 6) (C := RX6) (T := TX6) (N := 18) hx hb hts hiX6 hown hK hP 0 rfl rfl 0 (by decide) (hts (.fieldLink RX6 7 "RiddleTradeModel" "s" "[I") (List.mem_of_getElem? (i := 1) rfl)) (fun _ h9 => h9) rfl dX6_refuses_12 ?_
  refine lv_iload_n hx hb dX6_refuses_15 rfl (lv_at hl 1 rfl) ?_
  refine lv_iconst (v := 5) hx hb dX6_refuses_16 (by decide) ?_
  refine kcSi (ws1 := (w_X6_refuses cI cC h0 h_s h_aside h_past h_snapshot h_text m_s_1 m_pasts m_isKept m_length m_hasStop m_stopAt m_stopWhy m_spot m_isWrong m_kind m_first m_second m_third m_fourth)) ⟨hx, hb, hml, hown, hts⟩ [] [0, 1] (c_X6_ofA l D cI cC cE _ p1 5 (d_X6_ofA p1 5) rfl) (va_cwS 2 hts gX6_refuses_X6_ofA rfl rfl rfl (by decide +kernel) ⟨Nat.le_of_ble_eq_true rfl, Nat.le_of_ble_eq_true rfl⟩) hK hP hD hS hA rfl rfl rfl rfl rfl rfl rfl hl.1 rfl (Nat.le_of_ble_eq_true rfl) dX6_refuses_17 ⟨Nat.le_refl 0, Nat.le_refl 0⟩ (fun H locs hP hD hS => ?_)
  refine lv_iload_n hx hb dX6_refuses_20 rfl (lv_at hl 2 rfl) ?_
  refine k_iast hx hb hK hP hD hS 1 0 rfl rfl h dX6_refuses_21 (fun m_s_2 H locs hP hD hS h => ?_)
  have hP : va_P D vwCl (w_X6_refuses cI cC h0 h_s h_aside h_past h_snapshot h_text m_s_2 m_pasts m_isKept m_length m_hasStop m_stopAt m_stopWhy m_spot m_isWrong m_kind m_first m_second m_third m_fourth) H := hP
  have hD : va_D A (w_X6_refuses cI cC h0 h_s h_aside h_past h_snapshot h_text m_s_2 m_pasts m_isKept m_length m_hasStop m_stopAt m_stopWhy m_spot m_isWrong m_kind m_first m_second m_third m_fourth) := hD
  obtain rfl := Option.some.inj h
  exact fin _ _ _ _ dX6_refuses_22 hP hD hS
abbrev w_X6_takes (cI cC : ClassId) (h0 h_s h_aside h_past h_snapshot h_text : Nat) (m_s : Nat → Int32) (m_pasts : Int32) (m_isKept : Int32) (m_length : Int32) (m_hasStop : Int32) (m_stopAt : Int32) (m_stopWhy : Int32) (m_spot : Int32) (m_isWrong : Int32) (m_kind : Int32) (m_first : Int32) (m_second : Int32) (m_third : Int32) (m_fourth : Int32) : va_W := [(h0, .inr (6, [.ref h_s, .ref h_aside, .ref h_past, .int m_pasts, .ref h_snapshot, .int m_isKept, .ref h_text, .int m_length, .int m_hasStop, .int m_stopAt, .int m_stopWhy, .int m_spot, .int m_isWrong, .int m_kind, .int m_first, .int m_second, .int m_third, .int m_fourth])), (h_s, .inl (cI, 490, .inl m_s))]
def d_X6_takes (p1 : Int32) (m_s : Nat → Int32) : Option ((Nat → Int32)) :=
    ob1 (rd 490 m_s (d_X6_ofA p1 1)) fun v1 =>
    ob1 (rd 490 m_s (d_X6_ofR v1 3)) fun v2 =>
    if v2 = 0 then (ob1 (rd 490 m_s (d_X6_ofR v1 2)) fun v4 =>
    ob1 (rd 490 m_s (d_X6_ofA p1 2)) fun v5 =>
    if v4 = v5 then (ob1 (rd 490 m_s (d_X6_ofA p1 3)) fun v7 =>
    ob1 (d_X6_tells 0 v7 m_s) fun r8 =>
    ob1 (d_X6_drifts 0 m_s) fun m_s_10 =>
    ob1 (rd 490 m_s_10 (d_X6_ofA p1 3)) fun v12 =>
    ob1 (d_X6_tells 1 v12 m_s_10) fun r13 =>
    ob1 (d_X6_drifts 1 m_s_10) fun m_s_15 =>
    ob1 (rd 490 m_s_15 488) fun v17 =>
    ob1 (wr 490 m_s_15 488 (v17 + 2)) fun m_s_18 =>
    ob1 (rd 490 m_s_18 479) fun v19 =>
    if (d_X6_size (r8 - r13)) ≤ v19 then (ob1 (d_X6_payment p1 r8 r13 m_s_18) fun r21 =>
    ob1 (d_X6_canPay p1 r21 m_s_18) fun r23 =>
    if r23 = 0 then (ob1 (d_X6_queues p1 m_s_18) fun m_s_38 =>
    some m_s_38)
    else (ob1 (rd 490 m_s_18 (d_X6_ofR v1 0)) fun v26 =>
    ob1 (rd 490 m_s_18 (0 + v26)) fun v27 =>
    ob1 (wr 490 m_s_18 (0 + v26) (v27 - r21)) fun m_s_28 =>
    ob1 (rd 490 m_s_28 (d_X6_ofA p1 0)) fun v29 =>
    ob1 (rd 490 m_s_28 (0 + v29)) fun v30 =>
    ob1 (wr 490 m_s_28 (0 + v29) (v30 + r21)) fun m_s_31 =>
    ob1 (rd 490 m_s_31 489) fun v32 =>
    ob1 (wr 490 m_s_31 489 (v32 + r21)) fun m_s_33 =>
    ob1 (wr 490 m_s_33 (d_X6_ofA p1 4) 1) fun m_s_34 =>
    ob1 (wr 490 m_s_34 (d_X6_ofA p1 7) r21) fun m_s_35 =>
    ob1 (wr 490 m_s_35 (d_X6_ofR v1 3) 1) fun m_s_36 =>
    ob1 (wr 490 m_s_36 (d_X6_ofR v1 4) (p1 + 1)) fun m_s_37 =>
    some m_s_37))
    else (ob1 (rd 490 m_s_18 (d_X6_ofA p1 6)) fun v40 =>
    ob1 (wr 490 m_s_18 (d_X6_ofA p1 6) (v40 + 1)) fun m_s_41 =>
    ob1 (rd 490 m_s_41 487) fun v42 =>
    ob1 (wr 490 m_s_41 487 (v42 + 1)) fun m_s_43 =>
    ob1 (rd 490 m_s_43 (d_X6_ofA p1 6)) fun v44 =>
    if v44 = 3 then (ob1 (d_X6_refuses p1 3 m_s_43) fun m_s_48 =>
    some m_s_48)
    else (ob1 (d_X6_queues p1 m_s_43) fun m_s_46 =>
    some m_s_46)))
    else (ob1 (d_X6_refuses p1 2 m_s) fun m_s_50 =>
    some m_s_50))
    else (ob1 (d_X6_refuses p1 1 m_s) fun m_s_52 =>
    some m_s_52)
set_option maxHeartbeats 4000000 in
set_option maxRecDepth 100000 in
theorem c_X6_takes (l : Launch) (D : va_G) (cI cC cE : ClassId) (h0 h_s h_aside h_past h_snapshot h_text : Nat) (sz : Nat) (m_s : Nat → Int32) (m_pasts : Int32) (m_isKept : Int32) (m_length : Int32) (m_hasStop : Int32) (m_stopAt : Int32) (m_stopWhy : Int32) (m_spot : Int32) (m_isWrong : Int32) (m_kind : Int32) (m_first : Int32) (m_second : Int32) (m_third : Int32) (m_fourth : Int32) (p1 : Int32) (o_m_s : Nat → Int32) (h : d_X6_takes p1 m_s = some o_m_s) : Met l yX6_takes wsX6_takes ({ frames := 2, cells := 0, slots := 0, locals := 44 } : Room) (kP D (kT cI cC cE) [.ref h0, .int p1] (w_X6_takes cI cC h0 h_s h_aside h_past h_snapshot h_text m_s m_pasts m_isKept m_length m_hasStop m_stopAt m_stopWhy m_spot m_isWrong m_kind m_first m_second m_third m_fourth) sz) (kQv D (kT cI cC cE) (w_X6_takes cI cC h0 h_s h_aside h_past h_snapshot h_text m_s m_pasts m_isKept m_length m_hasStop m_stopAt m_stopWhy m_spot m_isWrong m_kind m_first m_second m_third m_fourth) (w_X6_takes cI cC h0 h_s h_aside h_past h_snapshot h_text o_m_s m_pasts m_isKept m_length m_hasStop m_stopAt m_stopWhy m_spot m_isWrong m_kind m_first m_second m_third m_fourth) sz) 0 0 (va_A (w_X6_takes cI cC h0 h_s h_aside h_past h_snapshot h_text m_s m_pasts m_isKept m_length m_hasStop m_stopAt m_stopWhy m_spot m_isWrong m_kind m_first m_second m_third m_fourth) sz) := by
  refine kMetV (cc := cX6_takes) (maxL := 6) (own := RX6) (by decide) rfl (Nat.le_of_ble_eq_true rfl) rfl ?_
  intro p e s m below meth c A Q hx hb hml hown hts hP hK hD hA hS hname fin ls hl
  have hl : lv_has ls 6 [(0, .ref h0), (1, .int p1)] := hl
  have hiX6 : ∀ w ∈ u_ws RX6 TX6 18, w ∈ wsX6_takes := by decide +kernel
  dsimp only [d_X6_takes] at h
  refine lv_aload_n hx hb dX6_takes_0 rfl (lv_at hl 0 rfl) ?_
  refine va_get (ci := 6) (C := RX6) (T := TX6) (N := 18) hx hb hts hiX6 hown hK hP 0 rfl rfl 0 (by decide) (hts (.fieldLink RX6 7 "RiddleTradeModel" "s" "[I") (List.mem_of_getElem? (i := 1) rfl)) (fun _ h9 => h9) rfl dX6_takes_1 ?_
  refine lv_iload_n hx hb dX6_takes_4 rfl (lv_at hl 1 rfl) ?_
  refine lv_iconst (v := 1) hx hb dX6_takes_5 (by decide) ?_
  refine kcSi (ws1 := (w_X6_takes cI cC h0 h_s h_aside h_past h_snapshot h_text m_s m_pasts m_isKept m_length m_hasStop m_stopAt m_stopWhy m_spot m_isWrong m_kind m_first m_second m_third m_fourth)) ⟨hx, hb, hml, hown, hts⟩ [] [0, 1] (c_X6_ofA l D cI cC cE _ p1 1 (d_X6_ofA p1 1) rfl) (va_cwS 2 hts gX6_takes_X6_ofA rfl rfl rfl (by decide +kernel) ⟨Nat.le_of_ble_eq_true rfl, Nat.le_of_ble_eq_true rfl⟩) hK hP hD hS hA rfl rfl rfl rfl rfl rfl rfl hl.1 rfl (Nat.le_of_ble_eq_true rfl) dX6_takes_6 ⟨Nat.le_refl 0, Nat.le_refl 0⟩ (fun H locs hP hD hS => ?_)
  refine k_iald hx hb hK hP 1 0 rfl rfl h dX6_takes_9 (fun v1 h => ?_)
  refine lv_istore_n (lv' := [(2, .int v1), (0, .ref h0), (1, .int p1)]) hx hb dX6_takes_10 rfl hl (by decide) rfl (fun ls hl => ?_)
  refine lv_aload_n hx hb dX6_takes_11 rfl (lv_at hl 1 rfl) ?_
  refine va_get (ci := 6) (C := RX6) (T := TX6) (N := 18) hx hb hts hiX6 hown hK hP 0 rfl rfl 0 (by decide) (hts (.fieldLink RX6 7 "RiddleTradeModel" "s" "[I") (List.mem_of_getElem? (i := 1) rfl)) (fun _ h9 => h9) rfl dX6_takes_12 ?_
  refine lv_iload_n hx hb dX6_takes_15 rfl (lv_at hl 0 rfl) ?_
  refine lv_iconst (v := 3) hx hb dX6_takes_16 (by decide) ?_
  refine kcSi (ws1 := (w_X6_takes cI cC h0 h_s h_aside h_past h_snapshot h_text m_s m_pasts m_isKept m_length m_hasStop m_stopAt m_stopWhy m_spot m_isWrong m_kind m_first m_second m_third m_fourth)) ⟨hx, hb, hml, hown, hts⟩ [] [0, 1] (c_X6_ofR l D cI cC cE _ v1 3 (d_X6_ofR v1 3) rfl) (va_cwS 2 hts gX6_takes_X6_ofR rfl rfl rfl (by decide +kernel) ⟨Nat.le_of_ble_eq_true rfl, Nat.le_of_ble_eq_true rfl⟩) hK hP hD hS hA rfl rfl rfl rfl rfl rfl rfl hl.1 rfl (Nat.le_of_ble_eq_true rfl) dX6_takes_17 ⟨Nat.le_refl 0, Nat.le_refl 0⟩ (fun H locs hP hD hS => ?_)
  refine k_iald hx hb hK hP 1 0 rfl rfl h dX6_takes_20 (fun v2 h => ?_)
  refine lv_if_eq (tgt := 31) hx hb dX6_takes_21 (by decide) (fun c3 => ?_) (fun c3 => ?_)
  · have h := (k_iB h).1 c3
    refine lv_aload_n hx hb dX6_takes_31 rfl (lv_at hl 1 rfl) ?_
    refine va_get (ci := 6) (C := RX6) (T := TX6) (N := 18) hx hb hts hiX6 hown hK hP 0 rfl rfl 0 (by decide) (hts (.fieldLink RX6 7 "RiddleTradeModel" "s" "[I") (List.mem_of_getElem? (i := 1) rfl)) (fun _ h9 => h9) rfl dX6_takes_32 ?_
    refine lv_iload_n hx hb dX6_takes_35 rfl (lv_at hl 0 rfl) ?_
    refine lv_iconst (v := 2) hx hb dX6_takes_36 (by decide) ?_
    refine kcSi (ws1 := (w_X6_takes cI cC h0 h_s h_aside h_past h_snapshot h_text m_s m_pasts m_isKept m_length m_hasStop m_stopAt m_stopWhy m_spot m_isWrong m_kind m_first m_second m_third m_fourth)) ⟨hx, hb, hml, hown, hts⟩ [] [0, 1] (c_X6_ofR l D cI cC cE _ v1 2 (d_X6_ofR v1 2) rfl) (va_cwS 2 hts gX6_takes_X6_ofR rfl rfl rfl (by decide +kernel) ⟨Nat.le_of_ble_eq_true rfl, Nat.le_of_ble_eq_true rfl⟩) hK hP hD hS hA rfl rfl rfl rfl rfl rfl rfl hl.1 rfl (Nat.le_of_ble_eq_true rfl) dX6_takes_37 ⟨Nat.le_refl 0, Nat.le_refl 0⟩ (fun H locs hP hD hS => ?_)
    refine k_iald hx hb hK hP 1 0 rfl rfl h dX6_takes_40 (fun v4 h => ?_)
    refine lv_aload_n hx hb dX6_takes_41 rfl (lv_at hl 1 rfl) ?_
    refine va_get (ci := 6) (C := RX6) (T := TX6) (N := 18) hx hb hts hiX6 hown hK hP 0 rfl rfl 0 (by decide) (hts (.fieldLink RX6 7 "RiddleTradeModel" "s" "[I") (List.mem_of_getElem? (i := 1) rfl)) (fun _ h9 => h9) rfl dX6_takes_42 ?_
    refine lv_iload_n hx hb dX6_takes_45 rfl (lv_at hl 2 rfl) ?_
    refine lv_iconst (v := 2) hx hb dX6_takes_46 (by decide) ?_
    refine kcSi (ws1 := (w_X6_takes cI cC h0 h_s h_aside h_past h_snapshot h_text m_s m_pasts m_isKept m_length m_hasStop m_stopAt m_stopWhy m_spot m_isWrong m_kind m_first m_second m_third m_fourth)) ⟨hx, hb, hml, hown, hts⟩ [] [0, 1] (c_X6_ofA l D cI cC cE _ p1 2 (d_X6_ofA p1 2) rfl) (va_cwS 2 hts gX6_takes_X6_ofA rfl rfl rfl (by decide +kernel) ⟨Nat.le_of_ble_eq_true rfl, Nat.le_of_ble_eq_true rfl⟩) hK hP hD hS hA rfl rfl rfl rfl rfl rfl rfl hl.1 rfl (Nat.le_of_ble_eq_true rfl) dX6_takes_47 ⟨Nat.le_refl 0, Nat.le_refl 0⟩ (fun H locs hP hD hS => ?_)
    refine k_iald hx hb hK hP 1 0 rfl rfl h dX6_takes_50 (fun v5 h => ?_)
    refine lv_icmp_eq (tgt := 61) hx hb dX6_takes_51 (by decide) (fun c6 => ?_) (fun c6 => ?_)
    · have h := (k_iB h).1 c6
      refine lv_aload_n hx hb dX6_takes_61 rfl (lv_at hl 1 rfl) ?_
      refine lv_iconst (v := 0) hx hb dX6_takes_62 (by decide) ?_
      refine lv_aload_n hx hb dX6_takes_63 rfl (lv_at hl 1 rfl) ?_
      refine va_get (ci := 6) (C := RX6) (T := TX6) (N := 18) hx hb hts hiX6 hown hK hP 0 rfl rfl 0 (by decide) (hts (.fieldLink RX6 7 "RiddleTradeModel" "s" "[I") (List.mem_of_getElem? (i := 1) rfl)) (fun _ h9 => h9) rfl dX6_takes_64 ?_
      refine lv_iload_n hx hb dX6_takes_67 rfl (lv_at hl 2 rfl) ?_
      refine lv_iconst (v := 3) hx hb dX6_takes_68 (by decide) ?_
      refine kcSi (ws1 := (w_X6_takes cI cC h0 h_s h_aside h_past h_snapshot h_text m_s m_pasts m_isKept m_length m_hasStop m_stopAt m_stopWhy m_spot m_isWrong m_kind m_first m_second m_third m_fourth)) ⟨hx, hb, hml, hown, hts⟩ [] [0, 1] (c_X6_ofA l D cI cC cE _ p1 3 (d_X6_ofA p1 3) rfl) (va_cwS 2 hts gX6_takes_X6_ofA rfl rfl rfl (by decide +kernel) ⟨Nat.le_of_ble_eq_true rfl, Nat.le_of_ble_eq_true rfl⟩) hK hP hD hS hA rfl rfl rfl rfl rfl rfl rfl hl.1 rfl (Nat.le_of_ble_eq_true rfl) dX6_takes_69 ⟨Nat.le_refl 0, Nat.le_refl 0⟩ (fun H locs hP hD hS => ?_)
      refine k_iald hx hb hK hP 1 0 rfl rfl h dX6_takes_72 (fun v7 h => ?_)
      obtain ⟨r8, hu9, h⟩ := ob1_el h
      refine kcVi (ci := 6) (q := (RX6, TX6, 18)) (ws1 := (w_X6_takes cI cC h0 h_s h_aside h_past h_snapshot h_text m_s m_pasts m_isKept m_length m_hasStop m_stopAt m_stopWhy m_spot m_isWrong m_kind m_first m_second m_third m_fourth)) ⟨hx, hb, hml, hown, hts⟩ [0, 1] [] (c_X6_tells l D cI cC cE h0 h_s h_aside h_past h_snapshot h_text _ m_s m_pasts m_isKept m_length m_hasStop m_stopAt m_stopWhy m_spot m_isWrong m_kind m_first m_second m_third m_fourth 0 v7 r8 hu9) (cwV 2 hts gX6_takes_X6_tells rfl rfl rfl (by decide +kernel) ⟨Nat.le_of_ble_eq_true rfl, Nat.le_of_ble_eq_true rfl⟩) hK hP hD hS hA rfl rfl rfl rfl rfl rfl rfl rfl rfl hl.1 rfl (Nat.le_of_ble_eq_true rfl) dX6_takes_73 ⟨Nat.le_refl 0, Nat.le_refl 0⟩ (fun H locs hP hD hS => ?_)
      refine lv_istore_n (lv' := [(3, .int r8), (2, .int v1), (0, .ref h0), (1, .int p1)]) hx hb dX6_takes_76 rfl hl (by decide) rfl (fun ls hl => ?_)
      refine lv_aload_n hx hb dX6_takes_77 rfl (lv_at hl 2 rfl) ?_
      refine lv_iconst (v := 0) hx hb dX6_takes_78 (by decide) ?_
      obtain ⟨m_s_10, hu11, h⟩ := ob1_el h
      refine kcVv (ci := 6) (q := (RX6, TX6, 18)) (ws1 := (w_X6_takes cI cC h0 h_s h_aside h_past h_snapshot h_text m_s_10 m_pasts m_isKept m_length m_hasStop m_stopAt m_stopWhy m_spot m_isWrong m_kind m_first m_second m_third m_fourth)) ⟨hx, hb, hml, hown, hts⟩ [0, 1] [] (c_X6_drifts l D cI cC cE h0 h_s h_aside h_past h_snapshot h_text _ m_s m_pasts m_isKept m_length m_hasStop m_stopAt m_stopWhy m_spot m_isWrong m_kind m_first m_second m_third m_fourth 0 m_s_10 hu11) (cwV 1 hts gX6_takes_X6_drifts rfl rfl rfl (by decide +kernel) ⟨Nat.le_of_ble_eq_true rfl, Nat.le_of_ble_eq_true rfl⟩) hK hP hD hS hA rfl rfl rfl rfl rfl rfl rfl rfl rfl hl.1 rfl (Nat.le_of_ble_eq_true rfl) dX6_takes_79 ⟨Nat.le_refl 0, Nat.le_refl 0⟩ (fun H locs hP hD hS => ?_)
      refine lv_aload_n hx hb dX6_takes_82 rfl (lv_at hl 2 rfl) ?_
      refine lv_iconst (v := 1) hx hb dX6_takes_83 (by decide) ?_
      refine lv_aload_n hx hb dX6_takes_84 rfl (lv_at hl 2 rfl) ?_
      refine va_get (ci := 6) (C := RX6) (T := TX6) (N := 18) hx hb hts hiX6 hown hK hP 0 rfl rfl 0 (by decide) (hts (.fieldLink RX6 7 "RiddleTradeModel" "s" "[I") (List.mem_of_getElem? (i := 1) rfl)) (fun _ h9 => h9) rfl dX6_takes_85 ?_
      refine lv_iload_n hx hb dX6_takes_88 rfl (lv_at hl 3 rfl) ?_
      refine lv_iconst (v := 3) hx hb dX6_takes_89 (by decide) ?_
      refine kcSi (ws1 := (w_X6_takes cI cC h0 h_s h_aside h_past h_snapshot h_text m_s_10 m_pasts m_isKept m_length m_hasStop m_stopAt m_stopWhy m_spot m_isWrong m_kind m_first m_second m_third m_fourth)) ⟨hx, hb, hml, hown, hts⟩ [] [0, 1] (c_X6_ofA l D cI cC cE _ p1 3 (d_X6_ofA p1 3) rfl) (va_cwS 2 hts gX6_takes_X6_ofA rfl rfl rfl (by decide +kernel) ⟨Nat.le_of_ble_eq_true rfl, Nat.le_of_ble_eq_true rfl⟩) hK hP hD hS hA rfl rfl rfl rfl rfl rfl rfl hl.1 rfl (Nat.le_of_ble_eq_true rfl) dX6_takes_90 ⟨Nat.le_refl 0, Nat.le_refl 0⟩ (fun H locs hP hD hS => ?_)
      refine k_iald hx hb hK hP 1 0 rfl rfl h dX6_takes_93 (fun v12 h => ?_)
      obtain ⟨r13, hu14, h⟩ := ob1_el h
      refine kcVi (ci := 6) (q := (RX6, TX6, 18)) (ws1 := (w_X6_takes cI cC h0 h_s h_aside h_past h_snapshot h_text m_s_10 m_pasts m_isKept m_length m_hasStop m_stopAt m_stopWhy m_spot m_isWrong m_kind m_first m_second m_third m_fourth)) ⟨hx, hb, hml, hown, hts⟩ [0, 1] [] (c_X6_tells l D cI cC cE h0 h_s h_aside h_past h_snapshot h_text _ m_s_10 m_pasts m_isKept m_length m_hasStop m_stopAt m_stopWhy m_spot m_isWrong m_kind m_first m_second m_third m_fourth 1 v12 r13 hu14) (cwV 2 hts gX6_takes_X6_tells rfl rfl rfl (by decide +kernel) ⟨Nat.le_of_ble_eq_true rfl, Nat.le_of_ble_eq_true rfl⟩) hK hP hD hS hA rfl rfl rfl rfl rfl rfl rfl rfl rfl hl.1 rfl (Nat.le_of_ble_eq_true rfl) dX6_takes_94 ⟨Nat.le_refl 0, Nat.le_refl 0⟩ (fun H locs hP hD hS => ?_)
      refine lv_istore (lv' := [(4, .int r13), (3, .int r8), (2, .int v1), (0, .ref h0), (1, .int p1)]) hx hb dX6_takes_97 hl (by decide) rfl (fun ls hl => ?_)
      refine lv_aload_n hx hb dX6_takes_99 rfl (lv_at hl 3 rfl) ?_
      refine lv_iconst (v := 1) hx hb dX6_takes_100 (by decide) ?_
      obtain ⟨m_s_15, hu16, h⟩ := ob1_el h
      refine kcVv (ci := 6) (q := (RX6, TX6, 18)) (ws1 := (w_X6_takes cI cC h0 h_s h_aside h_past h_snapshot h_text m_s_15 m_pasts m_isKept m_length m_hasStop m_stopAt m_stopWhy m_spot m_isWrong m_kind m_first m_second m_third m_fourth)) ⟨hx, hb, hml, hown, hts⟩ [0, 1] [] (c_X6_drifts l D cI cC cE h0 h_s h_aside h_past h_snapshot h_text _ m_s_10 m_pasts m_isKept m_length m_hasStop m_stopAt m_stopWhy m_spot m_isWrong m_kind m_first m_second m_third m_fourth 1 m_s_15 hu16) (cwV 1 hts gX6_takes_X6_drifts rfl rfl rfl (by decide +kernel) ⟨Nat.le_of_ble_eq_true rfl, Nat.le_of_ble_eq_true rfl⟩) hK hP hD hS hA rfl rfl rfl rfl rfl rfl rfl rfl rfl hl.1 rfl (Nat.le_of_ble_eq_true rfl) dX6_takes_101 ⟨Nat.le_refl 0, Nat.le_refl 0⟩ (fun H locs hP hD hS => ?_)
      refine lv_aload_n hx hb dX6_takes_104 rfl (lv_at hl 3 rfl) ?_
      refine va_get (ci := 6) (C := RX6) (T := TX6) (N := 18) hx hb hts hiX6 hown hK hP 0 rfl rfl 0 (by decide) (hts (.fieldLink RX6 7 "RiddleTradeModel" "s" "[I") (List.mem_of_getElem? (i := 1) rfl)) (fun _ h9 => h9) rfl dX6_takes_105 ?_
      refine lv_sipush (v := 488) hx hb dX6_takes_108 (by decide) ?_
      refine lv_dup2_11 hx hb dX6_takes_111 rfl rfl ?_
      refine k_iald hx hb hK hP 1 0 rfl rfl h dX6_takes_112 (fun v17 h => ?_)
      refine lv_iconst (v := 2) hx hb dX6_takes_113 (by decide) ?_
      refine lv_iadd hx hb dX6_takes_114 ?_
      refine k_iast hx hb hK hP hD hS 1 0 rfl rfl h dX6_takes_115 (fun m_s_18 H locs hP hD hS h => ?_)
      have hP : va_P D vwCl (w_X6_takes cI cC h0 h_s h_aside h_past h_snapshot h_text m_s_18 m_pasts m_isKept m_length m_hasStop m_stopAt m_stopWhy m_spot m_isWrong m_kind m_first m_second m_third m_fourth) H := hP
      have hD : va_D A (w_X6_takes cI cC h0 h_s h_aside h_past h_snapshot h_text m_s_18 m_pasts m_isKept m_length m_hasStop m_stopAt m_stopWhy m_spot m_isWrong m_kind m_first m_second m_third m_fourth) := hD
      refine lv_iload_n hx hb dX6_takes_116 rfl (lv_at hl 1 rfl) ?_
      refine lv_iload hx hb dX6_takes_117 (lv_at hl 0 rfl) ?_
      refine lv_isub hx hb dX6_takes_119 ?_
      refine kcSi (ws1 := (w_X6_takes cI cC h0 h_s h_aside h_past h_snapshot h_text m_s_18 m_pasts m_isKept m_length m_hasStop m_stopAt m_stopWhy m_spot m_isWrong m_kind m_first m_second m_third m_fourth)) ⟨hx, hb, hml, hown, hts⟩ [] [0, 1] (c_X6_size l D cI cC cE _ (r8 - r13) (d_X6_size (r8 - r13)) rfl) (va_cwS 1 hts gX6_takes_X6_size rfl rfl rfl (by decide +kernel) ⟨Nat.le_of_ble_eq_true rfl, Nat.le_of_ble_eq_true rfl⟩) hK hP hD hS hA rfl rfl rfl rfl rfl rfl rfl hl.1 rfl (Nat.le_of_ble_eq_true rfl) dX6_takes_120 ⟨Nat.le_refl 0, Nat.le_refl 0⟩ (fun H locs hP hD hS => ?_)
      refine lv_aload_n hx hb dX6_takes_123 rfl (lv_at hl 3 rfl) ?_
      refine va_get (ci := 6) (C := RX6) (T := TX6) (N := 18) hx hb hts hiX6 hown hK hP 0 rfl rfl 0 (by decide) (hts (.fieldLink RX6 7 "RiddleTradeModel" "s" "[I") (List.mem_of_getElem? (i := 1) rfl)) (fun _ h9 => h9) rfl dX6_takes_124 ?_
      refine lv_sipush (v := 479) hx hb dX6_takes_127 (by decide) ?_
      refine k_iald hx hb hK hP 1 0 rfl rfl h dX6_takes_130 (fun v19 h => ?_)
      refine lv_icmp_le (tgt := 191) hx hb dX6_takes_131 (by decide) (fun c20 => ?_) (fun c20 => ?_)
      · have h := (k_iB h).1 c20
        refine lv_aload_n hx hb dX6_takes_191 rfl (lv_at hl 3 rfl) ?_
        refine lv_iload_n hx hb dX6_takes_192 rfl (lv_at hl 4 rfl) ?_
        refine lv_iload_n hx hb dX6_takes_193 rfl (lv_at hl 1 rfl) ?_
        refine lv_iload hx hb dX6_takes_194 (lv_at hl 0 rfl) ?_
        obtain ⟨r21, hu22, h⟩ := ob1_el h
        refine kcVi (ci := 6) (q := (RX6, TX6, 18)) (ws1 := (w_X6_takes cI cC h0 h_s h_aside h_past h_snapshot h_text m_s_18 m_pasts m_isKept m_length m_hasStop m_stopAt m_stopWhy m_spot m_isWrong m_kind m_first m_second m_third m_fourth)) ⟨hx, hb, hml, hown, hts⟩ [0, 1] [] (c_X6_payment l D cI cC cE h0 h_s h_aside h_past h_snapshot h_text _ m_s_18 m_pasts m_isKept m_length m_hasStop m_stopAt m_stopWhy m_spot m_isWrong m_kind m_first m_second m_third m_fourth p1 r8 r13 r21 hu22) (cwV 3 hts gX6_takes_X6_payment rfl rfl rfl (by decide +kernel) ⟨Nat.le_of_ble_eq_true rfl, Nat.le_of_ble_eq_true rfl⟩) hK hP hD hS hA rfl rfl rfl rfl rfl rfl rfl rfl rfl hl.1 rfl (Nat.le_of_ble_eq_true rfl) dX6_takes_196 ⟨Nat.le_refl 0, Nat.le_refl 0⟩ (fun H locs hP hD hS => ?_)
        refine lv_istore (lv' := [(5, .int r21), (4, .int r13), (3, .int r8), (2, .int v1), (0, .ref h0), (1, .int p1)]) hx hb dX6_takes_199 hl (by decide) rfl (fun ls hl => ?_)
        refine lv_aload_n hx hb dX6_takes_201 rfl (lv_at hl 4 rfl) ?_
        refine lv_iload_n hx hb dX6_takes_202 rfl (lv_at hl 5 rfl) ?_
        refine lv_iload hx hb dX6_takes_203 (lv_at hl 0 rfl) ?_
        obtain ⟨r23, hu24, h⟩ := ob1_el h
        refine kcVi (ci := 6) (q := (RX6, TX6, 18)) (ws1 := (w_X6_takes cI cC h0 h_s h_aside h_past h_snapshot h_text m_s_18 m_pasts m_isKept m_length m_hasStop m_stopAt m_stopWhy m_spot m_isWrong m_kind m_first m_second m_third m_fourth)) ⟨hx, hb, hml, hown, hts⟩ [0, 1] [] (c_X6_canPay l D cI cC cE h0 h_s h_aside h_past h_snapshot h_text _ m_s_18 m_pasts m_isKept m_length m_hasStop m_stopAt m_stopWhy m_spot m_isWrong m_kind m_first m_second m_third m_fourth p1 r21 r23 hu24) (cwV 2 hts gX6_takes_X6_canPay rfl rfl rfl (by decide +kernel) ⟨Nat.le_of_ble_eq_true rfl, Nat.le_of_ble_eq_true rfl⟩) hK hP hD hS hA rfl rfl rfl rfl rfl rfl rfl rfl rfl hl.1 rfl (Nat.le_of_ble_eq_true rfl) dX6_takes_205 ⟨Nat.le_refl 0, Nat.le_refl 0⟩ (fun H locs hP hD hS => ?_)
        refine lv_if_ne (tgt := 217) hx hb dX6_takes_208 (by decide) (fun c25 => ?_) (fun c25 => ?_)
        · have h := (k_iB h).2 c25
          refine lv_aload_n hx hb dX6_takes_217 rfl (lv_at hl 4 rfl) ?_
          refine va_get (ci := 6) (C := RX6) (T := TX6) (N := 18) hx hb hts hiX6 hown hK hP 0 rfl rfl 0 (by decide) (hts (.fieldLink RX6 7 "RiddleTradeModel" "s" "[I") (List.mem_of_getElem? (i := 1) rfl)) (fun _ h9 => h9) rfl dX6_takes_218 ?_
          refine lv_iconst (v := 0) hx hb dX6_takes_221 (by decide) ?_
          refine lv_aload_n hx hb dX6_takes_222 rfl (lv_at hl 4 rfl) ?_
          refine va_get (ci := 6) (C := RX6) (T := TX6) (N := 18) hx hb hts hiX6 hown hK hP 0 rfl rfl 0 (by decide) (hts (.fieldLink RX6 7 "RiddleTradeModel" "s" "[I") (List.mem_of_getElem? (i := 1) rfl)) (fun _ h9 => h9) rfl dX6_takes_223 ?_
          refine lv_iload_n hx hb dX6_takes_226 rfl (lv_at hl 3 rfl) ?_
          refine lv_iconst (v := 0) hx hb dX6_takes_227 (by decide) ?_
          refine kcSi (ws1 := (w_X6_takes cI cC h0 h_s h_aside h_past h_snapshot h_text m_s_18 m_pasts m_isKept m_length m_hasStop m_stopAt m_stopWhy m_spot m_isWrong m_kind m_first m_second m_third m_fourth)) ⟨hx, hb, hml, hown, hts⟩ [] [0, 1] (c_X6_ofR l D cI cC cE _ v1 0 (d_X6_ofR v1 0) rfl) (va_cwS 2 hts gX6_takes_X6_ofR rfl rfl rfl (by decide +kernel) ⟨Nat.le_of_ble_eq_true rfl, Nat.le_of_ble_eq_true rfl⟩) hK hP hD hS hA rfl rfl rfl rfl rfl rfl rfl hl.1 rfl (Nat.le_of_ble_eq_true rfl) dX6_takes_228 ⟨Nat.le_refl 0, Nat.le_refl 0⟩ (fun H locs hP hD hS => ?_)
          refine k_iald hx hb hK hP 1 0 rfl rfl h dX6_takes_231 (fun v26 h => ?_)
          refine lv_iadd hx hb dX6_takes_232 ?_
          refine lv_dup2_11 hx hb dX6_takes_233 rfl rfl ?_
          refine k_iald hx hb hK hP 1 0 rfl rfl h dX6_takes_234 (fun v27 h => ?_)
          refine lv_iload hx hb dX6_takes_235 (lv_at hl 0 rfl) ?_
          refine lv_isub hx hb dX6_takes_237 ?_
          refine k_iast hx hb hK hP hD hS 1 0 rfl rfl h dX6_takes_238 (fun m_s_28 H locs hP hD hS h => ?_)
          have hP : va_P D vwCl (w_X6_takes cI cC h0 h_s h_aside h_past h_snapshot h_text m_s_28 m_pasts m_isKept m_length m_hasStop m_stopAt m_stopWhy m_spot m_isWrong m_kind m_first m_second m_third m_fourth) H := hP
          have hD : va_D A (w_X6_takes cI cC h0 h_s h_aside h_past h_snapshot h_text m_s_28 m_pasts m_isKept m_length m_hasStop m_stopAt m_stopWhy m_spot m_isWrong m_kind m_first m_second m_third m_fourth) := hD
          refine lv_aload_n hx hb dX6_takes_239 rfl (lv_at hl 4 rfl) ?_
          refine va_get (ci := 6) (C := RX6) (T := TX6) (N := 18) hx hb hts hiX6 hown hK hP 0 rfl rfl 0 (by decide) (hts (.fieldLink RX6 7 "RiddleTradeModel" "s" "[I") (List.mem_of_getElem? (i := 1) rfl)) (fun _ h9 => h9) rfl dX6_takes_240 ?_
          refine lv_iconst (v := 0) hx hb dX6_takes_243 (by decide) ?_
          refine lv_aload_n hx hb dX6_takes_244 rfl (lv_at hl 4 rfl) ?_
          refine va_get (ci := 6) (C := RX6) (T := TX6) (N := 18) hx hb hts hiX6 hown hK hP 0 rfl rfl 0 (by decide) (hts (.fieldLink RX6 7 "RiddleTradeModel" "s" "[I") (List.mem_of_getElem? (i := 1) rfl)) (fun _ h9 => h9) rfl dX6_takes_245 ?_
          refine lv_iload_n hx hb dX6_takes_248 rfl (lv_at hl 5 rfl) ?_
          refine lv_iconst (v := 0) hx hb dX6_takes_249 (by decide) ?_
          refine kcSi (ws1 := (w_X6_takes cI cC h0 h_s h_aside h_past h_snapshot h_text m_s_28 m_pasts m_isKept m_length m_hasStop m_stopAt m_stopWhy m_spot m_isWrong m_kind m_first m_second m_third m_fourth)) ⟨hx, hb, hml, hown, hts⟩ [] [0, 1] (c_X6_ofA l D cI cC cE _ p1 0 (d_X6_ofA p1 0) rfl) (va_cwS 2 hts gX6_takes_X6_ofA rfl rfl rfl (by decide +kernel) ⟨Nat.le_of_ble_eq_true rfl, Nat.le_of_ble_eq_true rfl⟩) hK hP hD hS hA rfl rfl rfl rfl rfl rfl rfl hl.1 rfl (Nat.le_of_ble_eq_true rfl) dX6_takes_250 ⟨Nat.le_refl 0, Nat.le_refl 0⟩ (fun H locs hP hD hS => ?_)
          refine k_iald hx hb hK hP 1 0 rfl rfl h dX6_takes_253 (fun v29 h => ?_)
          refine lv_iadd hx hb dX6_takes_254 ?_
          refine lv_dup2_11 hx hb dX6_takes_255 rfl rfl ?_
          refine k_iald hx hb hK hP 1 0 rfl rfl h dX6_takes_256 (fun v30 h => ?_)
          refine lv_iload hx hb dX6_takes_257 (lv_at hl 0 rfl) ?_
          refine lv_iadd hx hb dX6_takes_259 ?_
          refine k_iast hx hb hK hP hD hS 1 0 rfl rfl h dX6_takes_260 (fun m_s_31 H locs hP hD hS h => ?_)
          have hP : va_P D vwCl (w_X6_takes cI cC h0 h_s h_aside h_past h_snapshot h_text m_s_31 m_pasts m_isKept m_length m_hasStop m_stopAt m_stopWhy m_spot m_isWrong m_kind m_first m_second m_third m_fourth) H := hP
          have hD : va_D A (w_X6_takes cI cC h0 h_s h_aside h_past h_snapshot h_text m_s_31 m_pasts m_isKept m_length m_hasStop m_stopAt m_stopWhy m_spot m_isWrong m_kind m_first m_second m_third m_fourth) := hD
          refine lv_aload_n hx hb dX6_takes_261 rfl (lv_at hl 4 rfl) ?_
          refine va_get (ci := 6) (C := RX6) (T := TX6) (N := 18) hx hb hts hiX6 hown hK hP 0 rfl rfl 0 (by decide) (hts (.fieldLink RX6 7 "RiddleTradeModel" "s" "[I") (List.mem_of_getElem? (i := 1) rfl)) (fun _ h9 => h9) rfl dX6_takes_262 ?_
          refine lv_sipush (v := 489) hx hb dX6_takes_265 (by decide) ?_
          refine lv_dup2_11 hx hb dX6_takes_268 rfl rfl ?_
          refine k_iald hx hb hK hP 1 0 rfl rfl h dX6_takes_269 (fun v32 h => ?_)
          refine lv_iload hx hb dX6_takes_270 (lv_at hl 0 rfl) ?_
          refine lv_iadd hx hb dX6_takes_272 ?_
          refine k_iast hx hb hK hP hD hS 1 0 rfl rfl h dX6_takes_273 (fun m_s_33 H locs hP hD hS h => ?_)
          have hP : va_P D vwCl (w_X6_takes cI cC h0 h_s h_aside h_past h_snapshot h_text m_s_33 m_pasts m_isKept m_length m_hasStop m_stopAt m_stopWhy m_spot m_isWrong m_kind m_first m_second m_third m_fourth) H := hP
          have hD : va_D A (w_X6_takes cI cC h0 h_s h_aside h_past h_snapshot h_text m_s_33 m_pasts m_isKept m_length m_hasStop m_stopAt m_stopWhy m_spot m_isWrong m_kind m_first m_second m_third m_fourth) := hD
          refine lv_aload_n hx hb dX6_takes_274 rfl (lv_at hl 4 rfl) ?_
          refine va_get (ci := 6) (C := RX6) (T := TX6) (N := 18) hx hb hts hiX6 hown hK hP 0 rfl rfl 0 (by decide) (hts (.fieldLink RX6 7 "RiddleTradeModel" "s" "[I") (List.mem_of_getElem? (i := 1) rfl)) (fun _ h9 => h9) rfl dX6_takes_275 ?_
          refine lv_iload_n hx hb dX6_takes_278 rfl (lv_at hl 5 rfl) ?_
          refine lv_iconst (v := 4) hx hb dX6_takes_279 (by decide) ?_
          refine kcSi (ws1 := (w_X6_takes cI cC h0 h_s h_aside h_past h_snapshot h_text m_s_33 m_pasts m_isKept m_length m_hasStop m_stopAt m_stopWhy m_spot m_isWrong m_kind m_first m_second m_third m_fourth)) ⟨hx, hb, hml, hown, hts⟩ [] [0, 1] (c_X6_ofA l D cI cC cE _ p1 4 (d_X6_ofA p1 4) rfl) (va_cwS 2 hts gX6_takes_X6_ofA rfl rfl rfl (by decide +kernel) ⟨Nat.le_of_ble_eq_true rfl, Nat.le_of_ble_eq_true rfl⟩) hK hP hD hS hA rfl rfl rfl rfl rfl rfl rfl hl.1 rfl (Nat.le_of_ble_eq_true rfl) dX6_takes_280 ⟨Nat.le_refl 0, Nat.le_refl 0⟩ (fun H locs hP hD hS => ?_)
          refine lv_iconst (v := 1) hx hb dX6_takes_283 (by decide) ?_
          refine k_iast hx hb hK hP hD hS 1 0 rfl rfl h dX6_takes_284 (fun m_s_34 H locs hP hD hS h => ?_)
          have hP : va_P D vwCl (w_X6_takes cI cC h0 h_s h_aside h_past h_snapshot h_text m_s_34 m_pasts m_isKept m_length m_hasStop m_stopAt m_stopWhy m_spot m_isWrong m_kind m_first m_second m_third m_fourth) H := hP
          have hD : va_D A (w_X6_takes cI cC h0 h_s h_aside h_past h_snapshot h_text m_s_34 m_pasts m_isKept m_length m_hasStop m_stopAt m_stopWhy m_spot m_isWrong m_kind m_first m_second m_third m_fourth) := hD
          refine lv_aload_n hx hb dX6_takes_285 rfl (lv_at hl 4 rfl) ?_
          refine va_get (ci := 6) (C := RX6) (T := TX6) (N := 18) hx hb hts hiX6 hown hK hP 0 rfl rfl 0 (by decide) (hts (.fieldLink RX6 7 "RiddleTradeModel" "s" "[I") (List.mem_of_getElem? (i := 1) rfl)) (fun _ h9 => h9) rfl dX6_takes_286 ?_
          refine lv_iload_n hx hb dX6_takes_289 rfl (lv_at hl 5 rfl) ?_
          refine lv_bipush (v := 7) hx hb dX6_takes_290 (by decide) ?_
          refine kcSi (ws1 := (w_X6_takes cI cC h0 h_s h_aside h_past h_snapshot h_text m_s_34 m_pasts m_isKept m_length m_hasStop m_stopAt m_stopWhy m_spot m_isWrong m_kind m_first m_second m_third m_fourth)) ⟨hx, hb, hml, hown, hts⟩ [] [0, 1] (c_X6_ofA l D cI cC cE _ p1 7 (d_X6_ofA p1 7) rfl) (va_cwS 2 hts gX6_takes_X6_ofA rfl rfl rfl (by decide +kernel) ⟨Nat.le_of_ble_eq_true rfl, Nat.le_of_ble_eq_true rfl⟩) hK hP hD hS hA rfl rfl rfl rfl rfl rfl rfl hl.1 rfl (Nat.le_of_ble_eq_true rfl) dX6_takes_292 ⟨Nat.le_refl 0, Nat.le_refl 0⟩ (fun H locs hP hD hS => ?_)
          refine lv_iload hx hb dX6_takes_295 (lv_at hl 0 rfl) ?_
          refine k_iast hx hb hK hP hD hS 1 0 rfl rfl h dX6_takes_297 (fun m_s_35 H locs hP hD hS h => ?_)
          have hP : va_P D vwCl (w_X6_takes cI cC h0 h_s h_aside h_past h_snapshot h_text m_s_35 m_pasts m_isKept m_length m_hasStop m_stopAt m_stopWhy m_spot m_isWrong m_kind m_first m_second m_third m_fourth) H := hP
          have hD : va_D A (w_X6_takes cI cC h0 h_s h_aside h_past h_snapshot h_text m_s_35 m_pasts m_isKept m_length m_hasStop m_stopAt m_stopWhy m_spot m_isWrong m_kind m_first m_second m_third m_fourth) := hD
          refine lv_aload_n hx hb dX6_takes_298 rfl (lv_at hl 4 rfl) ?_
          refine va_get (ci := 6) (C := RX6) (T := TX6) (N := 18) hx hb hts hiX6 hown hK hP 0 rfl rfl 0 (by decide) (hts (.fieldLink RX6 7 "RiddleTradeModel" "s" "[I") (List.mem_of_getElem? (i := 1) rfl)) (fun _ h9 => h9) rfl dX6_takes_299 ?_
          refine lv_iload_n hx hb dX6_takes_302 rfl (lv_at hl 3 rfl) ?_
          refine lv_iconst (v := 3) hx hb dX6_takes_303 (by decide) ?_
          refine kcSi (ws1 := (w_X6_takes cI cC h0 h_s h_aside h_past h_snapshot h_text m_s_35 m_pasts m_isKept m_length m_hasStop m_stopAt m_stopWhy m_spot m_isWrong m_kind m_first m_second m_third m_fourth)) ⟨hx, hb, hml, hown, hts⟩ [] [0, 1] (c_X6_ofR l D cI cC cE _ v1 3 (d_X6_ofR v1 3) rfl) (va_cwS 2 hts gX6_takes_X6_ofR rfl rfl rfl (by decide +kernel) ⟨Nat.le_of_ble_eq_true rfl, Nat.le_of_ble_eq_true rfl⟩) hK hP hD hS hA rfl rfl rfl rfl rfl rfl rfl hl.1 rfl (Nat.le_of_ble_eq_true rfl) dX6_takes_304 ⟨Nat.le_refl 0, Nat.le_refl 0⟩ (fun H locs hP hD hS => ?_)
          refine lv_iconst (v := 1) hx hb dX6_takes_307 (by decide) ?_
          refine k_iast hx hb hK hP hD hS 1 0 rfl rfl h dX6_takes_308 (fun m_s_36 H locs hP hD hS h => ?_)
          have hP : va_P D vwCl (w_X6_takes cI cC h0 h_s h_aside h_past h_snapshot h_text m_s_36 m_pasts m_isKept m_length m_hasStop m_stopAt m_stopWhy m_spot m_isWrong m_kind m_first m_second m_third m_fourth) H := hP
          have hD : va_D A (w_X6_takes cI cC h0 h_s h_aside h_past h_snapshot h_text m_s_36 m_pasts m_isKept m_length m_hasStop m_stopAt m_stopWhy m_spot m_isWrong m_kind m_first m_second m_third m_fourth) := hD
          refine lv_aload_n hx hb dX6_takes_309 rfl (lv_at hl 4 rfl) ?_
          refine va_get (ci := 6) (C := RX6) (T := TX6) (N := 18) hx hb hts hiX6 hown hK hP 0 rfl rfl 0 (by decide) (hts (.fieldLink RX6 7 "RiddleTradeModel" "s" "[I") (List.mem_of_getElem? (i := 1) rfl)) (fun _ h9 => h9) rfl dX6_takes_310 ?_
          refine lv_iload_n hx hb dX6_takes_313 rfl (lv_at hl 3 rfl) ?_
          refine lv_iconst (v := 4) hx hb dX6_takes_314 (by decide) ?_
          refine kcSi (ws1 := (w_X6_takes cI cC h0 h_s h_aside h_past h_snapshot h_text m_s_36 m_pasts m_isKept m_length m_hasStop m_stopAt m_stopWhy m_spot m_isWrong m_kind m_first m_second m_third m_fourth)) ⟨hx, hb, hml, hown, hts⟩ [] [0, 1] (c_X6_ofR l D cI cC cE _ v1 4 (d_X6_ofR v1 4) rfl) (va_cwS 2 hts gX6_takes_X6_ofR rfl rfl rfl (by decide +kernel) ⟨Nat.le_of_ble_eq_true rfl, Nat.le_of_ble_eq_true rfl⟩) hK hP hD hS hA rfl rfl rfl rfl rfl rfl rfl hl.1 rfl (Nat.le_of_ble_eq_true rfl) dX6_takes_315 ⟨Nat.le_refl 0, Nat.le_refl 0⟩ (fun H locs hP hD hS => ?_)
          refine lv_iload_n hx hb dX6_takes_318 rfl (lv_at hl 5 rfl) ?_
          refine lv_iconst (v := 1) hx hb dX6_takes_319 (by decide) ?_
          refine lv_iadd hx hb dX6_takes_320 ?_
          refine k_iast hx hb hK hP hD hS 1 0 rfl rfl h dX6_takes_321 (fun m_s_37 H locs hP hD hS h => ?_)
          have hP : va_P D vwCl (w_X6_takes cI cC h0 h_s h_aside h_past h_snapshot h_text m_s_37 m_pasts m_isKept m_length m_hasStop m_stopAt m_stopWhy m_spot m_isWrong m_kind m_first m_second m_third m_fourth) H := hP
          have hD : va_D A (w_X6_takes cI cC h0 h_s h_aside h_past h_snapshot h_text m_s_37 m_pasts m_isKept m_length m_hasStop m_stopAt m_stopWhy m_spot m_isWrong m_kind m_first m_second m_third m_fourth) := hD
          obtain rfl := Option.some.inj h
          exact fin _ _ _ _ dX6_takes_322 hP hD hS
        · have h := (k_iB h).1 c25
          refine lv_aload_n hx hb dX6_takes_211 rfl (lv_at hl 4 rfl) ?_
          refine lv_iload_n hx hb dX6_takes_212 rfl (lv_at hl 5 rfl) ?_
          obtain ⟨m_s_38, hu39, h⟩ := ob1_el h
          refine kcVv (ci := 6) (q := (RX6, TX6, 18)) (ws1 := (w_X6_takes cI cC h0 h_s h_aside h_past h_snapshot h_text m_s_38 m_pasts m_isKept m_length m_hasStop m_stopAt m_stopWhy m_spot m_isWrong m_kind m_first m_second m_third m_fourth)) ⟨hx, hb, hml, hown, hts⟩ [0, 1] [] (c_X6_queues l D cI cC cE h0 h_s h_aside h_past h_snapshot h_text _ m_s_18 m_pasts m_isKept m_length m_hasStop m_stopAt m_stopWhy m_spot m_isWrong m_kind m_first m_second m_third m_fourth p1 m_s_38 hu39) (cwV 1 hts gX6_takes_X6_queues rfl rfl rfl (by decide +kernel) ⟨Nat.le_of_ble_eq_true rfl, Nat.le_of_ble_eq_true rfl⟩) hK hP hD hS hA rfl rfl rfl rfl rfl rfl rfl rfl rfl hl.1 rfl (Nat.le_of_ble_eq_true rfl) dX6_takes_213 ⟨Nat.le_refl 0, Nat.le_refl 0⟩ (fun H locs hP hD hS => ?_)
          obtain rfl := Option.some.inj h
          exact fin _ _ _ _ dX6_takes_216 hP hD hS
      · have h := (k_iB h).2 c20
        refine lv_aload_n hx hb dX6_takes_134 rfl (lv_at hl 3 rfl) ?_
        refine va_get (ci := 6) (C := RX6) (T := TX6) (N := 18) hx hb hts hiX6 hown hK hP 0 rfl rfl 0 (by decide) (hts (.fieldLink RX6 7 "RiddleTradeModel" "s" "[I") (List.mem_of_getElem? (i := 1) rfl)) (fun _ h9 => h9) rfl dX6_takes_135 ?_
        refine lv_iload_n hx hb dX6_takes_138 rfl (lv_at hl 4 rfl) ?_
        refine lv_bipush (v := 6) hx hb dX6_takes_139 (by decide) ?_
        refine kcSi (ws1 := (w_X6_takes cI cC h0 h_s h_aside h_past h_snapshot h_text m_s_18 m_pasts m_isKept m_length m_hasStop m_stopAt m_stopWhy m_spot m_isWrong m_kind m_first m_second m_third m_fourth)) ⟨hx, hb, hml, hown, hts⟩ [] [0, 1] (c_X6_ofA l D cI cC cE _ p1 6 (d_X6_ofA p1 6) rfl) (va_cwS 2 hts gX6_takes_X6_ofA rfl rfl rfl (by decide +kernel) ⟨Nat.le_of_ble_eq_true rfl, Nat.le_of_ble_eq_true rfl⟩) hK hP hD hS hA rfl rfl rfl rfl rfl rfl rfl hl.1 rfl (Nat.le_of_ble_eq_true rfl) dX6_takes_141 ⟨Nat.le_refl 0, Nat.le_refl 0⟩ (fun H locs hP hD hS => ?_)
        refine lv_dup2_11 hx hb dX6_takes_144 rfl rfl ?_
        refine k_iald hx hb hK hP 1 0 rfl rfl h dX6_takes_145 (fun v40 h => ?_)
        refine lv_iconst (v := 1) hx hb dX6_takes_146 (by decide) ?_
        refine lv_iadd hx hb dX6_takes_147 ?_
        refine k_iast hx hb hK hP hD hS 1 0 rfl rfl h dX6_takes_148 (fun m_s_41 H locs hP hD hS h => ?_)
        have hP : va_P D vwCl (w_X6_takes cI cC h0 h_s h_aside h_past h_snapshot h_text m_s_41 m_pasts m_isKept m_length m_hasStop m_stopAt m_stopWhy m_spot m_isWrong m_kind m_first m_second m_third m_fourth) H := hP
        have hD : va_D A (w_X6_takes cI cC h0 h_s h_aside h_past h_snapshot h_text m_s_41 m_pasts m_isKept m_length m_hasStop m_stopAt m_stopWhy m_spot m_isWrong m_kind m_first m_second m_third m_fourth) := hD
        refine lv_aload_n hx hb dX6_takes_149 rfl (lv_at hl 3 rfl) ?_
        refine va_get (ci := 6) (C := RX6) (T := TX6) (N := 18) hx hb hts hiX6 hown hK hP 0 rfl rfl 0 (by decide) (hts (.fieldLink RX6 7 "RiddleTradeModel" "s" "[I") (List.mem_of_getElem? (i := 1) rfl)) (fun _ h9 => h9) rfl dX6_takes_150 ?_
        refine lv_sipush (v := 487) hx hb dX6_takes_153 (by decide) ?_
        refine lv_dup2_11 hx hb dX6_takes_156 rfl rfl ?_
        refine k_iald hx hb hK hP 1 0 rfl rfl h dX6_takes_157 (fun v42 h => ?_)
        refine lv_iconst (v := 1) hx hb dX6_takes_158 (by decide) ?_
        refine lv_iadd hx hb dX6_takes_159 ?_
        refine k_iast hx hb hK hP hD hS 1 0 rfl rfl h dX6_takes_160 (fun m_s_43 H locs hP hD hS h => ?_)
        have hP : va_P D vwCl (w_X6_takes cI cC h0 h_s h_aside h_past h_snapshot h_text m_s_43 m_pasts m_isKept m_length m_hasStop m_stopAt m_stopWhy m_spot m_isWrong m_kind m_first m_second m_third m_fourth) H := hP
        have hD : va_D A (w_X6_takes cI cC h0 h_s h_aside h_past h_snapshot h_text m_s_43 m_pasts m_isKept m_length m_hasStop m_stopAt m_stopWhy m_spot m_isWrong m_kind m_first m_second m_third m_fourth) := hD
        refine lv_aload_n hx hb dX6_takes_161 rfl (lv_at hl 3 rfl) ?_
        refine va_get (ci := 6) (C := RX6) (T := TX6) (N := 18) hx hb hts hiX6 hown hK hP 0 rfl rfl 0 (by decide) (hts (.fieldLink RX6 7 "RiddleTradeModel" "s" "[I") (List.mem_of_getElem? (i := 1) rfl)) (fun _ h9 => h9) rfl dX6_takes_162 ?_
        refine lv_iload_n hx hb dX6_takes_165 rfl (lv_at hl 4 rfl) ?_
        refine lv_bipush (v := 6) hx hb dX6_takes_166 (by decide) ?_
        refine kcSi (ws1 := (w_X6_takes cI cC h0 h_s h_aside h_past h_snapshot h_text m_s_43 m_pasts m_isKept m_length m_hasStop m_stopAt m_stopWhy m_spot m_isWrong m_kind m_first m_second m_third m_fourth)) ⟨hx, hb, hml, hown, hts⟩ [] [0, 1] (c_X6_ofA l D cI cC cE _ p1 6 (d_X6_ofA p1 6) rfl) (va_cwS 2 hts gX6_takes_X6_ofA rfl rfl rfl (by decide +kernel) ⟨Nat.le_of_ble_eq_true rfl, Nat.le_of_ble_eq_true rfl⟩) hK hP hD hS hA rfl rfl rfl rfl rfl rfl rfl hl.1 rfl (Nat.le_of_ble_eq_true rfl) dX6_takes_168 ⟨Nat.le_refl 0, Nat.le_refl 0⟩ (fun H locs hP hD hS => ?_)
        refine k_iald hx hb hK hP 1 0 rfl rfl h dX6_takes_171 (fun v44 h => ?_)
        refine lv_iconst (v := 3) hx hb dX6_takes_172 (by decide) ?_
        refine lv_icmp_ne (tgt := 185) hx hb dX6_takes_173 (by decide) (fun c45 => ?_) (fun c45 => ?_)
        · have h := (k_iB h).2 c45
          refine lv_aload_n hx hb dX6_takes_185 rfl (lv_at hl 3 rfl) ?_
          refine lv_iload_n hx hb dX6_takes_186 rfl (lv_at hl 4 rfl) ?_
          obtain ⟨m_s_46, hu47, h⟩ := ob1_el h
          refine kcVv (ci := 6) (q := (RX6, TX6, 18)) (ws1 := (w_X6_takes cI cC h0 h_s h_aside h_past h_snapshot h_text m_s_46 m_pasts m_isKept m_length m_hasStop m_stopAt m_stopWhy m_spot m_isWrong m_kind m_first m_second m_third m_fourth)) ⟨hx, hb, hml, hown, hts⟩ [0, 1] [] (c_X6_queues l D cI cC cE h0 h_s h_aside h_past h_snapshot h_text _ m_s_43 m_pasts m_isKept m_length m_hasStop m_stopAt m_stopWhy m_spot m_isWrong m_kind m_first m_second m_third m_fourth p1 m_s_46 hu47) (cwV 1 hts gX6_takes_X6_queues rfl rfl rfl (by decide +kernel) ⟨Nat.le_of_ble_eq_true rfl, Nat.le_of_ble_eq_true rfl⟩) hK hP hD hS hA rfl rfl rfl rfl rfl rfl rfl rfl rfl hl.1 rfl (Nat.le_of_ble_eq_true rfl) dX6_takes_187 ⟨Nat.le_refl 0, Nat.le_refl 0⟩ (fun H locs hP hD hS => ?_)
          obtain rfl := Option.some.inj h
          exact fin _ _ _ _ dX6_takes_190 hP hD hS
        · have h := (k_iB h).1 c45
          refine lv_aload_n hx hb dX6_takes_176 rfl (lv_at hl 3 rfl) ?_
          refine lv_iload_n hx hb dX6_takes_177 rfl (lv_at hl 4 rfl) ?_
          refine lv_iconst (v := 3) hx hb dX6_takes_178 (by decide) ?_
          obtain ⟨m_s_48, hu49, h⟩ := ob1_el h
          refine kcVv (ci := 6) (q := (RX6, TX6, 18)) (ws1 := (w_X6_takes cI cC h0 h_s h_aside h_past h_snapshot h_text m_s_48 m_pasts m_isKept m_length m_hasStop m_stopAt m_stopWhy m_spot m_isWrong m_kind m_first m_second m_third m_fourth)) ⟨hx, hb, hml, hown, hts⟩ [0, 1] [] (c_X6_refuses l D cI cC cE h0 h_s h_aside h_past h_snapshot h_text _ m_s_43 m_pasts m_isKept m_length m_hasStop m_stopAt m_stopWhy m_spot m_isWrong m_kind m_first m_second m_third m_fourth p1 3 m_s_48 hu49) (cwV 2 hts gX6_takes_X6_refuses rfl rfl rfl (by decide +kernel) ⟨Nat.le_of_ble_eq_true rfl, Nat.le_of_ble_eq_true rfl⟩) hK hP hD hS hA rfl rfl rfl rfl rfl rfl rfl rfl rfl hl.1 rfl (Nat.le_of_ble_eq_true rfl) dX6_takes_179 ⟨Nat.le_refl 0, Nat.le_refl 0⟩ (fun H locs hP hD hS => ?_)
          refine lv_goto (tgt := 190) hx hb dX6_takes_182 (by decide) ?_
          obtain rfl := Option.some.inj h
          exact fin _ _ _ _ dX6_takes_190 hP hD hS
    · have h := (k_iB h).2 c6
      refine lv_aload_n hx hb dX6_takes_54 rfl (lv_at hl 1 rfl) ?_
      refine lv_iload_n hx hb dX6_takes_55 rfl (lv_at hl 2 rfl) ?_
      refine lv_iconst (v := 2) hx hb dX6_takes_56 (by decide) ?_
      obtain ⟨m_s_50, hu51, h⟩ := ob1_el h
      refine kcVv (ci := 6) (q := (RX6, TX6, 18)) (ws1 := (w_X6_takes cI cC h0 h_s h_aside h_past h_snapshot h_text m_s_50 m_pasts m_isKept m_length m_hasStop m_stopAt m_stopWhy m_spot m_isWrong m_kind m_first m_second m_third m_fourth)) ⟨hx, hb, hml, hown, hts⟩ [0, 1] [] (c_X6_refuses l D cI cC cE h0 h_s h_aside h_past h_snapshot h_text _ m_s m_pasts m_isKept m_length m_hasStop m_stopAt m_stopWhy m_spot m_isWrong m_kind m_first m_second m_third m_fourth p1 2 m_s_50 hu51) (cwV 2 hts gX6_takes_X6_refuses rfl rfl rfl (by decide +kernel) ⟨Nat.le_of_ble_eq_true rfl, Nat.le_of_ble_eq_true rfl⟩) hK hP hD hS hA rfl rfl rfl rfl rfl rfl rfl rfl rfl hl.1 rfl (Nat.le_of_ble_eq_true rfl) dX6_takes_57 ⟨Nat.le_refl 0, Nat.le_refl 0⟩ (fun H locs hP hD hS => ?_)
      obtain rfl := Option.some.inj h
      exact fin _ _ _ _ dX6_takes_60 hP hD hS
  · have h := (k_iB h).2 c3
    refine lv_aload_n hx hb dX6_takes_24 rfl (lv_at hl 1 rfl) ?_
    refine lv_iload_n hx hb dX6_takes_25 rfl (lv_at hl 2 rfl) ?_
    refine lv_iconst (v := 1) hx hb dX6_takes_26 (by decide) ?_
    obtain ⟨m_s_52, hu53, h⟩ := ob1_el h
    refine kcVv (ci := 6) (q := (RX6, TX6, 18)) (ws1 := (w_X6_takes cI cC h0 h_s h_aside h_past h_snapshot h_text m_s_52 m_pasts m_isKept m_length m_hasStop m_stopAt m_stopWhy m_spot m_isWrong m_kind m_first m_second m_third m_fourth)) ⟨hx, hb, hml, hown, hts⟩ [0, 1] [] (c_X6_refuses l D cI cC cE h0 h_s h_aside h_past h_snapshot h_text _ m_s m_pasts m_isKept m_length m_hasStop m_stopAt m_stopWhy m_spot m_isWrong m_kind m_first m_second m_third m_fourth p1 1 m_s_52 hu53) (cwV 2 hts gX6_takes_X6_refuses rfl rfl rfl (by decide +kernel) ⟨Nat.le_of_ble_eq_true rfl, Nat.le_of_ble_eq_true rfl⟩) hK hP hD hS hA rfl rfl rfl rfl rfl rfl rfl rfl rfl hl.1 rfl (Nat.le_of_ble_eq_true rfl) dX6_takes_27 ⟨Nat.le_refl 0, Nat.le_refl 0⟩ (fun H locs hP hD hS => ?_)
    obtain rfl := Option.some.inj h
    exact fin _ _ _ _ dX6_takes_30 hP hD hS
abbrev w_X6_round (cI cC : ClassId) (h0 h_s h_aside h_past h_snapshot h_text : Nat) (m_s : Nat → Int32) (m_pasts : Int32) (m_isKept : Int32) (m_length : Int32) (m_hasStop : Int32) (m_stopAt : Int32) (m_stopWhy : Int32) (m_spot : Int32) (m_isWrong : Int32) (m_kind : Int32) (m_first : Int32) (m_second : Int32) (m_third : Int32) (m_fourth : Int32) : va_W := [(h0, .inr (6, [.ref h_s, .ref h_aside, .ref h_past, .int m_pasts, .ref h_snapshot, .int m_isKept, .ref h_text, .int m_length, .int m_hasStop, .int m_stopAt, .int m_stopWhy, .int m_spot, .int m_isWrong, .int m_kind, .int m_first, .int m_second, .int m_third, .int m_fourth])), (h_s, .inl (cI, 490, .inl m_s))]
def j_X6_round_171 (LP126 : Int32 → (Nat → Int32) → Option ((Nat → Int32))) (x2 : Int32) (x3 : Int32) (m_s : Nat → Int32) : Option ((Nat → Int32)) :=
    ob1 (rd 490 m_s (0 + x2)) fun v12 =>
    ob1 (wr 490 m_s (0 + x2) (v12 - x3)) fun m_s_13 =>
    ob1 (rd 490 m_s_13 (8 + x2)) fun v14 =>
    ob1 (wr 490 m_s_13 (8 + x2) (v14 + x3)) fun m_s_15 =>
    ob1 (rd 490 m_s_15 486) fun v16 =>
    ob1 (wr 490 m_s_15 486 (v16 + x3)) fun m_s_17 =>
    LP126 (x2 + 1) m_s_17
def j_X6_round_160 (LP126 : Int32 → (Nat → Int32) → Option ((Nat → Int32))) (x2 : Int32) (x3 : Int32) (m_s : Nat → Int32) : Option ((Nat → Int32)) :=
    if x3 ≤ 5 then (j_X6_round_171 LP126  x2 x3 m_s)
    else (j_X6_round_171 LP126  x2 5 m_s)
def lp_X6_round_126 : Nat → Int32 → (Nat → Int32) → Option ((Nat → Int32))
  | 0 => fun _ _ => none
  | k + 1 => fun x2 m_s =>
    if 8 ≤ x2 then (ob1 (rd 490 m_s 485) fun v7 =>
    ob1 (wr 490 m_s 485 (v7 + 1)) fun m_s_8 =>
    some m_s_8)
    else (ob1 (rd 490 m_s (0 + x2)) fun v9 =>
    if 0 ≤ v9 then (j_X6_round_160 (lp_X6_round_126   k)  x2 0 m_s)
    else (ob1 (rd 490 m_s (0 + x2)) fun v18 =>
    j_X6_round_160 (lp_X6_round_126   k)  x2 ((-v18) / 20) m_s))
def lp_X6_round_70 (LP41 : Int32 → Int32 → (Nat → Int32) → Option ((Nat → Int32))) : Nat → Int32 → Int32 → Int32 → Int32 → (Nat → Int32) → Option ((Nat → Int32))
  | 0 => fun _ _ _ _ _ => none
  | k + 1 => fun x1 x2 x3 x4 m_s =>
    ob1 (rd 490 m_s 476) fun v22 =>
    if v22 ≤ x4 then (ob1 (d_X6_takes x3 m_s) fun m_s_24 =>
    LP41 x1 (x2 + 1) m_s_24)
    else (ob1 (rd 490 m_s ((436 + x4) + 1)) fun v26 =>
    ob1 (wr 490 m_s (436 + x4) v26) fun m_s_27 =>
    (lp_X6_round_70 LP41  k) x1 x2 x3 (x4 + 1) m_s_27)
def lp_X6_round_41 : Nat → Int32 → Int32 → (Nat → Int32) → Option ((Nat → Int32))
  | 0 => fun _ _ _ => none
  | k + 1 => fun x1 x2 m_s =>
    if x1 ≤ x2 then (lp_X6_round_126   fuel 0 m_s)
    else (ob1 (rd 490 m_s 436) fun v19 =>
    ob1 (rd 490 m_s 476) fun v20 =>
    ob1 (wr 490 m_s 476 (v20 - 1)) fun m_s_21 =>
    lp_X6_round_70 (lp_X6_round_41   k)  fuel x1 x2 v19 0 m_s_21)
def d_X6_round (m_s : Nat → Int32) : Option ((Nat → Int32)) :=
    ob1 (rd 490 m_s 476) fun v1 =>
    ob1 (rd 490 m_s 481) fun v2 =>
    if v2 ≤ v1 then (ob1 (rd 490 m_s 481) fun v4 =>
    lp_X6_round_41   fuel v4 0 m_s)
    else (ob1 (rd 490 m_s 476) fun v28 =>
    lp_X6_round_41   fuel v28 0 m_s)
set_option maxHeartbeats 4000000 in
set_option maxRecDepth 100000 in
theorem c_X6_round (l : Launch) (D : va_G) (cI cC cE : ClassId) (h0 h_s h_aside h_past h_snapshot h_text : Nat) (sz : Nat) (m_s : Nat → Int32) (m_pasts : Int32) (m_isKept : Int32) (m_length : Int32) (m_hasStop : Int32) (m_stopAt : Int32) (m_stopWhy : Int32) (m_spot : Int32) (m_isWrong : Int32) (m_kind : Int32) (m_first : Int32) (m_second : Int32) (m_third : Int32) (m_fourth : Int32) (o_m_s : Nat → Int32) (h : d_X6_round m_s = some o_m_s) : Met l yX6_round wsX6_round ({ frames := 3, cells := 0, slots := 0, locals := 69 } : Room) (kP D (kT cI cC cE) [.ref h0] (w_X6_round cI cC h0 h_s h_aside h_past h_snapshot h_text m_s m_pasts m_isKept m_length m_hasStop m_stopAt m_stopWhy m_spot m_isWrong m_kind m_first m_second m_third m_fourth) sz) (kQv D (kT cI cC cE) (w_X6_round cI cC h0 h_s h_aside h_past h_snapshot h_text m_s m_pasts m_isKept m_length m_hasStop m_stopAt m_stopWhy m_spot m_isWrong m_kind m_first m_second m_third m_fourth) (w_X6_round cI cC h0 h_s h_aside h_past h_snapshot h_text o_m_s m_pasts m_isKept m_length m_hasStop m_stopAt m_stopWhy m_spot m_isWrong m_kind m_first m_second m_third m_fourth) sz) 0 0 (va_A (w_X6_round cI cC h0 h_s h_aside h_past h_snapshot h_text m_s m_pasts m_isKept m_length m_hasStop m_stopAt m_stopWhy m_spot m_isWrong m_kind m_first m_second m_third m_fourth) sz) := by
  refine kMetV (cc := cX6_round) (maxL := 5) (own := RX6) (by decide) rfl (Nat.le_of_ble_eq_true rfl) rfl ?_
  intro p e s m below meth c A Q hx hb hml hown hts hP hK hD hA hS hname fin ls hl
  have hl : lv_has ls 5 [(0, .ref h0)] := hl
  have hiX6 : ∀ w ∈ u_ws RX6 TX6 18, w ∈ wsX6_round := by decide +kernel
  have hJ171 : ∀ (LP126 : Int32 → (Nat → Int32) → Option ((Nat → Int32))), (∀ (x2 : Int32) (m_s : Nat → Int32) (H : Heap) (locs : List Loc), va_P D vwCl (w_X6_round cI cC h0 h_s h_aside h_past h_snapshot h_text m_s m_pasts m_isKept m_length m_hasStop m_stopAt m_stopWhy m_spot m_isWrong m_kind m_first m_second m_third m_fourth) H → va_D A (w_X6_round cI cC h0 h_s h_aside h_past h_snapshot h_text m_s m_pasts m_isKept m_length m_hasStop m_stopAt m_stopWhy m_spot m_isWrong m_kind m_first m_second m_third m_fourth) → va_S A s.heap H locs → ∀ (ls : Array Slot), lv_has ls 5 [(0, .ref h0), (2, .int x2)] → LP126 x2 m_s = some o_m_s → W p l e ({ frames := 3, cells := 0, slots := 0, locals := 69 } : Room) s m [.ref h0].toArray below meth c H locs 0 0 Q (F0 m 126 ls [])) → ∀ (x2 : Int32) (x3 : Int32) (m_s : Nat → Int32) (H : Heap) (locs : List Loc), va_P D vwCl (w_X6_round cI cC h0 h_s h_aside h_past h_snapshot h_text m_s m_pasts m_isKept m_length m_hasStop m_stopAt m_stopWhy m_spot m_isWrong m_kind m_first m_second m_third m_fourth) H → va_D A (w_X6_round cI cC h0 h_s h_aside h_past h_snapshot h_text m_s m_pasts m_isKept m_length m_hasStop m_stopAt m_stopWhy m_spot m_isWrong m_kind m_first m_second m_third m_fourth) → va_S A s.heap H locs → ∀ (ls : Array Slot), lv_has ls 5 [(0, .ref h0), (2, .int x2), (3, .int x3)] → j_X6_round_171 LP126  x2 x3 m_s = some o_m_s → W p l e ({ frames := 3, cells := 0, slots := 0, locals := 69 } : Room) s m [.ref h0].toArray below meth c H locs 0 0 Q (F0 m 171 ls []) := by
    intro LP126 hLP126
    intro x2 x3 m_s H locs hP hD hS ls hl h
    dsimp only [j_X6_round_171] at h
    refine lv_aload_n hx hb dX6_round_171 rfl (lv_at hl 0 rfl) ?_
    refine va_get (ci := 6) (C := RX6) (T := TX6) (N := 18) hx hb hts hiX6 hown hK hP 0 rfl rfl 0 (by decide) (hts (.fieldLink RX6 7 "RiddleTradeModel" "s" "[I") (List.mem_of_getElem? (i := 1) rfl)) (fun _ h9 => h9) rfl dX6_round_172 ?_
    refine lv_iconst (v := 0) hx hb dX6_round_175 (by decide) ?_
    refine lv_iload_n hx hb dX6_round_176 rfl (lv_at hl 1 rfl) ?_
    refine lv_iadd hx hb dX6_round_177 ?_
    refine lv_dup2_11 hx hb dX6_round_178 rfl rfl ?_
    refine k_iald hx hb hK hP 1 0 rfl rfl h dX6_round_179 (fun v12 h => ?_)
    refine lv_iload_n hx hb dX6_round_180 rfl (lv_at hl 2 rfl) ?_
    refine lv_isub hx hb dX6_round_181 ?_
    refine k_iast hx hb hK hP hD hS 1 0 rfl rfl h dX6_round_182 (fun m_s_13 H locs hP hD hS h => ?_)
    have hP : va_P D vwCl (w_X6_round cI cC h0 h_s h_aside h_past h_snapshot h_text m_s_13 m_pasts m_isKept m_length m_hasStop m_stopAt m_stopWhy m_spot m_isWrong m_kind m_first m_second m_third m_fourth) H := hP
    have hD : va_D A (w_X6_round cI cC h0 h_s h_aside h_past h_snapshot h_text m_s_13 m_pasts m_isKept m_length m_hasStop m_stopAt m_stopWhy m_spot m_isWrong m_kind m_first m_second m_third m_fourth) := hD
    refine lv_aload_n hx hb dX6_round_183 rfl (lv_at hl 0 rfl) ?_
    refine va_get (ci := 6) (C := RX6) (T := TX6) (N := 18) hx hb hts hiX6 hown hK hP 0 rfl rfl 0 (by decide) (hts (.fieldLink RX6 7 "RiddleTradeModel" "s" "[I") (List.mem_of_getElem? (i := 1) rfl)) (fun _ h9 => h9) rfl dX6_round_184 ?_
    refine lv_bipush (v := 8) hx hb dX6_round_187 (by decide) ?_
    refine lv_iload_n hx hb dX6_round_189 rfl (lv_at hl 1 rfl) ?_
    refine lv_iadd hx hb dX6_round_190 ?_
    refine lv_dup2_11 hx hb dX6_round_191 rfl rfl ?_
    refine k_iald hx hb hK hP 1 0 rfl rfl h dX6_round_192 (fun v14 h => ?_)
    refine lv_iload_n hx hb dX6_round_193 rfl (lv_at hl 2 rfl) ?_
    refine lv_iadd hx hb dX6_round_194 ?_
    refine k_iast hx hb hK hP hD hS 1 0 rfl rfl h dX6_round_195 (fun m_s_15 H locs hP hD hS h => ?_)
    have hP : va_P D vwCl (w_X6_round cI cC h0 h_s h_aside h_past h_snapshot h_text m_s_15 m_pasts m_isKept m_length m_hasStop m_stopAt m_stopWhy m_spot m_isWrong m_kind m_first m_second m_third m_fourth) H := hP
    have hD : va_D A (w_X6_round cI cC h0 h_s h_aside h_past h_snapshot h_text m_s_15 m_pasts m_isKept m_length m_hasStop m_stopAt m_stopWhy m_spot m_isWrong m_kind m_first m_second m_third m_fourth) := hD
    refine lv_aload_n hx hb dX6_round_196 rfl (lv_at hl 0 rfl) ?_
    refine va_get (ci := 6) (C := RX6) (T := TX6) (N := 18) hx hb hts hiX6 hown hK hP 0 rfl rfl 0 (by decide) (hts (.fieldLink RX6 7 "RiddleTradeModel" "s" "[I") (List.mem_of_getElem? (i := 1) rfl)) (fun _ h9 => h9) rfl dX6_round_197 ?_
    refine lv_sipush (v := 486) hx hb dX6_round_200 (by decide) ?_
    refine lv_dup2_11 hx hb dX6_round_203 rfl rfl ?_
    refine k_iald hx hb hK hP 1 0 rfl rfl h dX6_round_204 (fun v16 h => ?_)
    refine lv_iload_n hx hb dX6_round_205 rfl (lv_at hl 2 rfl) ?_
    refine lv_iadd hx hb dX6_round_206 ?_
    refine k_iast hx hb hK hP hD hS 1 0 rfl rfl h dX6_round_207 (fun m_s_17 H locs hP hD hS h => ?_)
    have hP : va_P D vwCl (w_X6_round cI cC h0 h_s h_aside h_past h_snapshot h_text m_s_17 m_pasts m_isKept m_length m_hasStop m_stopAt m_stopWhy m_spot m_isWrong m_kind m_first m_second m_third m_fourth) H := hP
    have hD : va_D A (w_X6_round cI cC h0 h_s h_aside h_past h_snapshot h_text m_s_17 m_pasts m_isKept m_length m_hasStop m_stopAt m_stopWhy m_spot m_isWrong m_kind m_first m_second m_third m_fourth) := hD
    refine lv_iinc (v := (x2 + 1)) (lv' := [(2, .int (x2 + 1)), (0, .ref h0), (3, .int x3)]) hx hb dX6_round_208 hl (k := 1) rfl rfl (by decide) rfl (fun ls hl => ?_)
    refine lv_goto (tgt := 126) hx hb dX6_round_211 (by decide) ?_
    exact hLP126 (x2 + 1) m_s_17 _ _ hP hD hS _ (lv_sub hl [1, 0] rfl) h
  have hJ160 : ∀ (LP126 : Int32 → (Nat → Int32) → Option ((Nat → Int32))), (∀ (x2 : Int32) (m_s : Nat → Int32) (H : Heap) (locs : List Loc), va_P D vwCl (w_X6_round cI cC h0 h_s h_aside h_past h_snapshot h_text m_s m_pasts m_isKept m_length m_hasStop m_stopAt m_stopWhy m_spot m_isWrong m_kind m_first m_second m_third m_fourth) H → va_D A (w_X6_round cI cC h0 h_s h_aside h_past h_snapshot h_text m_s m_pasts m_isKept m_length m_hasStop m_stopAt m_stopWhy m_spot m_isWrong m_kind m_first m_second m_third m_fourth) → va_S A s.heap H locs → ∀ (ls : Array Slot), lv_has ls 5 [(0, .ref h0), (2, .int x2)] → LP126 x2 m_s = some o_m_s → W p l e ({ frames := 3, cells := 0, slots := 0, locals := 69 } : Room) s m [.ref h0].toArray below meth c H locs 0 0 Q (F0 m 126 ls [])) → ∀ (x2 : Int32) (x3 : Int32) (m_s : Nat → Int32) (H : Heap) (locs : List Loc), va_P D vwCl (w_X6_round cI cC h0 h_s h_aside h_past h_snapshot h_text m_s m_pasts m_isKept m_length m_hasStop m_stopAt m_stopWhy m_spot m_isWrong m_kind m_first m_second m_third m_fourth) H → va_D A (w_X6_round cI cC h0 h_s h_aside h_past h_snapshot h_text m_s m_pasts m_isKept m_length m_hasStop m_stopAt m_stopWhy m_spot m_isWrong m_kind m_first m_second m_third m_fourth) → va_S A s.heap H locs → ∀ (ls : Array Slot), lv_has ls 5 [(0, .ref h0), (2, .int x2), (3, .int x3)] → j_X6_round_160 LP126  x2 x3 m_s = some o_m_s → W p l e ({ frames := 3, cells := 0, slots := 0, locals := 69 } : Room) s m [.ref h0].toArray below meth c H locs 0 0 Q (F0 m 160 ls []) := by
    intro LP126 hLP126
    intro x2 x3 m_s H locs hP hD hS ls hl h
    dsimp only [j_X6_round_160] at h
    refine lv_iload_n hx hb dX6_round_160 rfl (lv_at hl 2 rfl) ?_
    refine lv_iconst (v := 5) hx hb dX6_round_161 (by decide) ?_
    refine lv_icmp_le (tgt := 169) hx hb dX6_round_162 (by decide) (fun c11 => ?_) (fun c11 => ?_)
    · have h := (k_iB h).1 c11
      refine lv_iload_n hx hb dX6_round_169 rfl (lv_at hl 2 rfl) ?_
      refine lv_istore_n (lv' := [(3, .int x3), (0, .ref h0), (2, .int x2)]) hx hb dX6_round_170 rfl hl (by decide) rfl (fun ls hl => ?_)
      exact hJ171 LP126 hLP126 x2 x3 m_s _ _ hP hD hS _ (lv_sub hl [1, 2, 0] rfl) h
    · have h := (k_iB h).2 c11
      refine lv_iconst (v := 5) hx hb dX6_round_165 (by decide) ?_
      refine lv_goto (tgt := 170) hx hb dX6_round_166 (by decide) ?_
      refine lv_istore_n (lv' := [(3, .int 5), (0, .ref h0), (2, .int x2)]) hx hb dX6_round_170 rfl hl (by decide) rfl (fun ls hl => ?_)
      exact hJ171 LP126 hLP126 x2 5 m_s _ _ hP hD hS _ (lv_sub hl [1, 2, 0] rfl) h
  have hL126 : ∀ (k : Nat), ∀ (x2 : Int32) (m_s : Nat → Int32) (H : Heap) (locs : List Loc), va_P D vwCl (w_X6_round cI cC h0 h_s h_aside h_past h_snapshot h_text m_s m_pasts m_isKept m_length m_hasStop m_stopAt m_stopWhy m_spot m_isWrong m_kind m_first m_second m_third m_fourth) H → va_D A (w_X6_round cI cC h0 h_s h_aside h_past h_snapshot h_text m_s m_pasts m_isKept m_length m_hasStop m_stopAt m_stopWhy m_spot m_isWrong m_kind m_first m_second m_third m_fourth) → va_S A s.heap H locs → ∀ (ls : Array Slot), lv_has ls 5 [(0, .ref h0), (2, .int x2)] → lp_X6_round_126   k x2 m_s = some o_m_s → W p l e ({ frames := 3, cells := 0, slots := 0, locals := 69 } : Room) s m [.ref h0].toArray below meth c H locs 0 0 Q (F0 m 126 ls []) := by
    intro k
    induction k with
    | zero =>
      intro x2 m_s H locs hP hD hS ls hl h
      exact k_none h
    | succ k ih =>
      intro x2 m_s H locs hP hD hS ls hl h
      dsimp only [lp_X6_round_126] at h
      refine lv_iload_n hx hb dX6_round_126 rfl (lv_at hl 1 rfl) ?_
      refine lv_bipush (v := 8) hx hb dX6_round_127 (by decide) ?_
      refine lv_icmp_ge (tgt := 214) hx hb dX6_round_129 (by decide) (fun c6 => ?_) (fun c6 => ?_)
      · have h := (k_iB h).1 c6
        refine lv_aload_n hx hb dX6_round_214 rfl (lv_at hl 0 rfl) ?_
        refine va_get (ci := 6) (C := RX6) (T := TX6) (N := 18) hx hb hts hiX6 hown hK hP 0 rfl rfl 0 (by decide) (hts (.fieldLink RX6 7 "RiddleTradeModel" "s" "[I") (List.mem_of_getElem? (i := 1) rfl)) (fun _ h9 => h9) rfl dX6_round_215 ?_
        refine lv_sipush (v := 485) hx hb dX6_round_218 (by decide) ?_
        refine lv_dup2_11 hx hb dX6_round_221 rfl rfl ?_
        refine k_iald hx hb hK hP 1 0 rfl rfl h dX6_round_222 (fun v7 h => ?_)
        refine lv_iconst (v := 1) hx hb dX6_round_223 (by decide) ?_
        refine lv_iadd hx hb dX6_round_224 ?_
        refine k_iast hx hb hK hP hD hS 1 0 rfl rfl h dX6_round_225 (fun m_s_8 H locs hP hD hS h => ?_)
        have hP : va_P D vwCl (w_X6_round cI cC h0 h_s h_aside h_past h_snapshot h_text m_s_8 m_pasts m_isKept m_length m_hasStop m_stopAt m_stopWhy m_spot m_isWrong m_kind m_first m_second m_third m_fourth) H := hP
        have hD : va_D A (w_X6_round cI cC h0 h_s h_aside h_past h_snapshot h_text m_s_8 m_pasts m_isKept m_length m_hasStop m_stopAt m_stopWhy m_spot m_isWrong m_kind m_first m_second m_third m_fourth) := hD
        obtain rfl := Option.some.inj h
        exact fin _ _ _ _ dX6_round_226 hP hD hS
      · have h := (k_iB h).2 c6
        refine lv_aload_n hx hb dX6_round_132 rfl (lv_at hl 0 rfl) ?_
        refine va_get (ci := 6) (C := RX6) (T := TX6) (N := 18) hx hb hts hiX6 hown hK hP 0 rfl rfl 0 (by decide) (hts (.fieldLink RX6 7 "RiddleTradeModel" "s" "[I") (List.mem_of_getElem? (i := 1) rfl)) (fun _ h9 => h9) rfl dX6_round_133 ?_
        refine lv_iconst (v := 0) hx hb dX6_round_136 (by decide) ?_
        refine lv_iload_n hx hb dX6_round_137 rfl (lv_at hl 1 rfl) ?_
        refine lv_iadd hx hb dX6_round_138 ?_
        refine k_iald hx hb hK hP 1 0 rfl rfl h dX6_round_139 (fun v9 h => ?_)
        refine lv_if_ge (tgt := 158) hx hb dX6_round_140 (by decide) (fun c10 => ?_) (fun c10 => ?_)
        · have h := (k_iB h).1 c10
          refine lv_iconst (v := 0) hx hb dX6_round_158 (by decide) ?_
          refine lv_istore_n (lv' := [(3, .int 0), (0, .ref h0), (2, .int x2)]) hx hb dX6_round_159 rfl hl (by decide) rfl (fun ls hl => ?_)
          exact hJ160 (lp_X6_round_126   k) ih x2 0 m_s _ _ hP hD hS _ (lv_sub hl [1, 2, 0] rfl) h
        · have h := (k_iB h).2 c10
          refine lv_aload_n hx hb dX6_round_143 rfl (lv_at hl 0 rfl) ?_
          refine va_get (ci := 6) (C := RX6) (T := TX6) (N := 18) hx hb hts hiX6 hown hK hP 0 rfl rfl 0 (by decide) (hts (.fieldLink RX6 7 "RiddleTradeModel" "s" "[I") (List.mem_of_getElem? (i := 1) rfl)) (fun _ h9 => h9) rfl dX6_round_144 ?_
          refine lv_iconst (v := 0) hx hb dX6_round_147 (by decide) ?_
          refine lv_iload_n hx hb dX6_round_148 rfl (lv_at hl 1 rfl) ?_
          refine lv_iadd hx hb dX6_round_149 ?_
          refine k_iald hx hb hK hP 1 0 rfl rfl h dX6_round_150 (fun v18 h => ?_)
          refine lv_ineg hx hb dX6_round_151 ?_
          refine lv_bipush (v := 20) hx hb dX6_round_152 (by decide) ?_
          refine lv_idiv hx hb dX6_round_154 (by decide) ?_
          refine lv_goto (tgt := 159) hx hb dX6_round_155 (by decide) ?_
          refine lv_istore_n (lv' := [(3, .int ((-v18) / 20)), (0, .ref h0), (2, .int x2)]) hx hb dX6_round_159 rfl hl (by decide) rfl (fun ls hl => ?_)
          exact hJ160 (lp_X6_round_126   k) ih x2 ((-v18) / 20) m_s _ _ hP hD hS _ (lv_sub hl [1, 2, 0] rfl) h
  have hL70 : ∀ (LP41 : Int32 → Int32 → (Nat → Int32) → Option ((Nat → Int32))), (∀ (x1 : Int32) (x2 : Int32) (m_s : Nat → Int32) (H : Heap) (locs : List Loc), va_P D vwCl (w_X6_round cI cC h0 h_s h_aside h_past h_snapshot h_text m_s m_pasts m_isKept m_length m_hasStop m_stopAt m_stopWhy m_spot m_isWrong m_kind m_first m_second m_third m_fourth) H → va_D A (w_X6_round cI cC h0 h_s h_aside h_past h_snapshot h_text m_s m_pasts m_isKept m_length m_hasStop m_stopAt m_stopWhy m_spot m_isWrong m_kind m_first m_second m_third m_fourth) → va_S A s.heap H locs → ∀ (ls : Array Slot), lv_has ls 5 [(0, .ref h0), (1, .int x1), (2, .int x2)] → LP41 x1 x2 m_s = some o_m_s → W p l e ({ frames := 3, cells := 0, slots := 0, locals := 69 } : Room) s m [.ref h0].toArray below meth c H locs 0 0 Q (F0 m 41 ls [])) → ∀ (k : Nat), ∀ (x1 : Int32) (x2 : Int32) (x3 : Int32) (x4 : Int32) (m_s : Nat → Int32) (H : Heap) (locs : List Loc), va_P D vwCl (w_X6_round cI cC h0 h_s h_aside h_past h_snapshot h_text m_s m_pasts m_isKept m_length m_hasStop m_stopAt m_stopWhy m_spot m_isWrong m_kind m_first m_second m_third m_fourth) H → va_D A (w_X6_round cI cC h0 h_s h_aside h_past h_snapshot h_text m_s m_pasts m_isKept m_length m_hasStop m_stopAt m_stopWhy m_spot m_isWrong m_kind m_first m_second m_third m_fourth) → va_S A s.heap H locs → ∀ (ls : Array Slot), lv_has ls 5 [(0, .ref h0), (1, .int x1), (2, .int x2), (3, .int x3), (4, .int x4)] → lp_X6_round_70 LP41  k x1 x2 x3 x4 m_s = some o_m_s → W p l e ({ frames := 3, cells := 0, slots := 0, locals := 69 } : Room) s m [.ref h0].toArray below meth c H locs 0 0 Q (F0 m 70 ls []) := by
    intro LP41 hLP41
    intro k
    induction k with
    | zero =>
      intro x1 x2 x3 x4 m_s H locs hP hD hS ls hl h
      exact k_none h
    | succ k ih =>
      intro x1 x2 x3 x4 m_s H locs hP hD hS ls hl h
      dsimp only [lp_X6_round_70] at h
      refine lv_iload hx hb dX6_round_70 (lv_at hl 4 rfl) ?_
      refine lv_aload_n hx hb dX6_round_72 rfl (lv_at hl 0 rfl) ?_
      refine va_get (ci := 6) (C := RX6) (T := TX6) (N := 18) hx hb hts hiX6 hown hK hP 0 rfl rfl 0 (by decide) (hts (.fieldLink RX6 7 "RiddleTradeModel" "s" "[I") (List.mem_of_getElem? (i := 1) rfl)) (fun _ h9 => h9) rfl dX6_round_73 ?_
      refine lv_sipush (v := 476) hx hb dX6_round_76 (by decide) ?_
      refine k_iald hx hb hK hP 1 0 rfl rfl h dX6_round_79 (fun v22 h => ?_)
      refine lv_icmp_ge (tgt := 113) hx hb dX6_round_80 (by decide) (fun c23 => ?_) (fun c23 => ?_)
      · have h := (k_iB h).1 c23
        refine lv_aload_n hx hb dX6_round_113 rfl (lv_at hl 0 rfl) ?_
        refine lv_iload_n hx hb dX6_round_114 rfl (lv_at hl 3 rfl) ?_
        obtain ⟨m_s_24, hu25, h⟩ := ob1_el h
        refine kcVv (ci := 6) (q := (RX6, TX6, 18)) (ws1 := (w_X6_round cI cC h0 h_s h_aside h_past h_snapshot h_text m_s_24 m_pasts m_isKept m_length m_hasStop m_stopAt m_stopWhy m_spot m_isWrong m_kind m_first m_second m_third m_fourth)) ⟨hx, hb, hml, hown, hts⟩ [0, 1] [] (c_X6_takes l D cI cC cE h0 h_s h_aside h_past h_snapshot h_text _ m_s m_pasts m_isKept m_length m_hasStop m_stopAt m_stopWhy m_spot m_isWrong m_kind m_first m_second m_third m_fourth x3 m_s_24 hu25) (cwV 1 hts gX6_round_X6_takes rfl rfl rfl (by decide +kernel) ⟨Nat.le_of_ble_eq_true rfl, Nat.le_of_ble_eq_true rfl⟩) hK hP hD hS hA rfl rfl rfl rfl rfl rfl rfl rfl rfl hl.1 rfl (Nat.le_of_ble_eq_true rfl) dX6_round_115 ⟨Nat.le_refl 0, Nat.le_refl 0⟩ (fun H locs hP hD hS => ?_)
        refine lv_iinc (v := (x2 + 1)) (lv' := [(2, .int (x2 + 1)), (0, .ref h0), (1, .int x1), (3, .int x3), (4, .int x4)]) hx hb dX6_round_118 hl (k := 2) rfl rfl (by decide) rfl (fun ls hl => ?_)
        refine lv_goto (tgt := 41) hx hb dX6_round_121 (by decide) ?_
        exact hLP41 x1 (x2 + 1) m_s_24 _ _ hP hD hS _ (lv_sub hl [1, 2, 0] rfl) h
      · have h := (k_iB h).2 c23
        refine lv_aload_n hx hb dX6_round_83 rfl (lv_at hl 0 rfl) ?_
        refine va_get (ci := 6) (C := RX6) (T := TX6) (N := 18) hx hb hts hiX6 hown hK hP 0 rfl rfl 0 (by decide) (hts (.fieldLink RX6 7 "RiddleTradeModel" "s" "[I") (List.mem_of_getElem? (i := 1) rfl)) (fun _ h9 => h9) rfl dX6_round_84 ?_
        refine lv_sipush (v := 436) hx hb dX6_round_87 (by decide) ?_
        refine lv_iload hx hb dX6_round_90 (lv_at hl 4 rfl) ?_
        refine lv_iadd hx hb dX6_round_92 ?_
        refine lv_aload_n hx hb dX6_round_93 rfl (lv_at hl 0 rfl) ?_
        refine va_get (ci := 6) (C := RX6) (T := TX6) (N := 18) hx hb hts hiX6 hown hK hP 0 rfl rfl 0 (by decide) (hts (.fieldLink RX6 7 "RiddleTradeModel" "s" "[I") (List.mem_of_getElem? (i := 1) rfl)) (fun _ h9 => h9) rfl dX6_round_94 ?_
        refine lv_sipush (v := 436) hx hb dX6_round_97 (by decide) ?_
        refine lv_iload hx hb dX6_round_100 (lv_at hl 4 rfl) ?_
        refine lv_iadd hx hb dX6_round_102 ?_
        refine lv_iconst (v := 1) hx hb dX6_round_103 (by decide) ?_
        refine lv_iadd hx hb dX6_round_104 ?_
        refine k_iald hx hb hK hP 1 0 rfl rfl h dX6_round_105 (fun v26 h => ?_)
        refine k_iast hx hb hK hP hD hS 1 0 rfl rfl h dX6_round_106 (fun m_s_27 H locs hP hD hS h => ?_)
        have hP : va_P D vwCl (w_X6_round cI cC h0 h_s h_aside h_past h_snapshot h_text m_s_27 m_pasts m_isKept m_length m_hasStop m_stopAt m_stopWhy m_spot m_isWrong m_kind m_first m_second m_third m_fourth) H := hP
        have hD : va_D A (w_X6_round cI cC h0 h_s h_aside h_past h_snapshot h_text m_s_27 m_pasts m_isKept m_length m_hasStop m_stopAt m_stopWhy m_spot m_isWrong m_kind m_first m_second m_third m_fourth) := hD
        refine lv_iinc (v := (x4 + 1)) (lv' := [(4, .int (x4 + 1)), (0, .ref h0), (1, .int x1), (2, .int x2), (3, .int x3)]) hx hb dX6_round_107 hl (k := 4) rfl rfl (by decide) rfl (fun ls hl => ?_)
        refine lv_goto (tgt := 70) hx hb dX6_round_110 (by decide) ?_
        exact ih x1 x2 x3 (x4 + 1) m_s_27 _ _ hP hD hS _ (lv_sub hl [1, 2, 3, 4, 0] rfl) h
  have hL41 : ∀ (k : Nat), ∀ (x1 : Int32) (x2 : Int32) (m_s : Nat → Int32) (H : Heap) (locs : List Loc), va_P D vwCl (w_X6_round cI cC h0 h_s h_aside h_past h_snapshot h_text m_s m_pasts m_isKept m_length m_hasStop m_stopAt m_stopWhy m_spot m_isWrong m_kind m_first m_second m_third m_fourth) H → va_D A (w_X6_round cI cC h0 h_s h_aside h_past h_snapshot h_text m_s m_pasts m_isKept m_length m_hasStop m_stopAt m_stopWhy m_spot m_isWrong m_kind m_first m_second m_third m_fourth) → va_S A s.heap H locs → ∀ (ls : Array Slot), lv_has ls 5 [(0, .ref h0), (1, .int x1), (2, .int x2)] → lp_X6_round_41   k x1 x2 m_s = some o_m_s → W p l e ({ frames := 3, cells := 0, slots := 0, locals := 69 } : Room) s m [.ref h0].toArray below meth c H locs 0 0 Q (F0 m 41 ls []) := by
    intro k
    induction k with
    | zero =>
      intro x1 x2 m_s H locs hP hD hS ls hl h
      exact k_none h
    | succ k ih =>
      intro x1 x2 m_s H locs hP hD hS ls hl h
      dsimp only [lp_X6_round_41] at h
      refine lv_iload_n hx hb dX6_round_41 rfl (lv_at hl 2 rfl) ?_
      refine lv_iload_n hx hb dX6_round_42 rfl (lv_at hl 1 rfl) ?_
      refine lv_icmp_ge (tgt := 124) hx hb dX6_round_43 (by decide) (fun c5 => ?_) (fun c5 => ?_)
      · have h := (k_iB h).1 c5
        refine lv_iconst (v := 0) hx hb dX6_round_124 (by decide) ?_
        refine lv_istore_n (lv' := [(2, .int 0), (0, .ref h0), (1, .int x1)]) hx hb dX6_round_125 rfl hl (by decide) rfl (fun ls hl => ?_)
        exact hL126   fuel 0 m_s _ _ hP hD hS _ (lv_sub hl [1, 0] rfl) h
      · have h := (k_iB h).2 c5
        refine lv_aload_n hx hb dX6_round_46 rfl (lv_at hl 0 rfl) ?_
        refine va_get (ci := 6) (C := RX6) (T := TX6) (N := 18) hx hb hts hiX6 hown hK hP 0 rfl rfl 0 (by decide) (hts (.fieldLink RX6 7 "RiddleTradeModel" "s" "[I") (List.mem_of_getElem? (i := 1) rfl)) (fun _ h9 => h9) rfl dX6_round_47 ?_
        refine lv_sipush (v := 436) hx hb dX6_round_50 (by decide) ?_
        refine k_iald hx hb hK hP 1 0 rfl rfl h dX6_round_53 (fun v19 h => ?_)
        refine lv_istore_n (lv' := [(3, .int v19), (0, .ref h0), (1, .int x1), (2, .int x2)]) hx hb dX6_round_54 rfl hl (by decide) rfl (fun ls hl => ?_)
        refine lv_aload_n hx hb dX6_round_55 rfl (lv_at hl 1 rfl) ?_
        refine va_get (ci := 6) (C := RX6) (T := TX6) (N := 18) hx hb hts hiX6 hown hK hP 0 rfl rfl 0 (by decide) (hts (.fieldLink RX6 7 "RiddleTradeModel" "s" "[I") (List.mem_of_getElem? (i := 1) rfl)) (fun _ h9 => h9) rfl dX6_round_56 ?_
        refine lv_sipush (v := 476) hx hb dX6_round_59 (by decide) ?_
        refine lv_dup2_11 hx hb dX6_round_62 rfl rfl ?_
        refine k_iald hx hb hK hP 1 0 rfl rfl h dX6_round_63 (fun v20 h => ?_)
        refine lv_iconst (v := 1) hx hb dX6_round_64 (by decide) ?_
        refine lv_isub hx hb dX6_round_65 ?_
        refine k_iast hx hb hK hP hD hS 1 0 rfl rfl h dX6_round_66 (fun m_s_21 H locs hP hD hS h => ?_)
        have hP : va_P D vwCl (w_X6_round cI cC h0 h_s h_aside h_past h_snapshot h_text m_s_21 m_pasts m_isKept m_length m_hasStop m_stopAt m_stopWhy m_spot m_isWrong m_kind m_first m_second m_third m_fourth) H := hP
        have hD : va_D A (w_X6_round cI cC h0 h_s h_aside h_past h_snapshot h_text m_s_21 m_pasts m_isKept m_length m_hasStop m_stopAt m_stopWhy m_spot m_isWrong m_kind m_first m_second m_third m_fourth) := hD
        refine lv_iconst (v := 0) hx hb dX6_round_67 (by decide) ?_
        refine lv_istore (lv' := [(4, .int 0), (3, .int v19), (0, .ref h0), (1, .int x1), (2, .int x2)]) hx hb dX6_round_68 hl (by decide) rfl (fun ls hl => ?_)
        exact hL70 (lp_X6_round_41   k) ih fuel x1 x2 v19 0 m_s_21 _ _ hP hD hS _ (lv_sub hl [2, 3, 4, 1, 0] rfl) h
  dsimp only [d_X6_round] at h
  refine lv_aload_n hx hb dX6_round_0 rfl (lv_at hl 0 rfl) ?_
  refine va_get (ci := 6) (C := RX6) (T := TX6) (N := 18) hx hb hts hiX6 hown hK hP 0 rfl rfl 0 (by decide) (hts (.fieldLink RX6 7 "RiddleTradeModel" "s" "[I") (List.mem_of_getElem? (i := 1) rfl)) (fun _ h9 => h9) rfl dX6_round_1 ?_
  refine lv_sipush (v := 476) hx hb dX6_round_4 (by decide) ?_
  refine k_iald hx hb hK hP 1 0 rfl rfl h dX6_round_7 (fun v1 h => ?_)
  refine lv_aload_n hx hb dX6_round_8 rfl (lv_at hl 0 rfl) ?_
  refine va_get (ci := 6) (C := RX6) (T := TX6) (N := 18) hx hb hts hiX6 hown hK hP 0 rfl rfl 0 (by decide) (hts (.fieldLink RX6 7 "RiddleTradeModel" "s" "[I") (List.mem_of_getElem? (i := 1) rfl)) (fun _ h9 => h9) rfl dX6_round_9 ?_
  refine lv_sipush (v := 481) hx hb dX6_round_12 (by decide) ?_
  refine k_iald hx hb hK hP 1 0 rfl rfl h dX6_round_15 (fun v2 h => ?_)
  refine lv_icmp_ge (tgt := 30) hx hb dX6_round_16 (by decide) (fun c3 => ?_) (fun c3 => ?_)
  · have h := (k_iB h).1 c3
    refine lv_aload_n hx hb dX6_round_30 rfl (lv_at hl 0 rfl) ?_
    refine va_get (ci := 6) (C := RX6) (T := TX6) (N := 18) hx hb hts hiX6 hown hK hP 0 rfl rfl 0 (by decide) (hts (.fieldLink RX6 7 "RiddleTradeModel" "s" "[I") (List.mem_of_getElem? (i := 1) rfl)) (fun _ h9 => h9) rfl dX6_round_31 ?_
    refine lv_sipush (v := 481) hx hb dX6_round_34 (by decide) ?_
    refine k_iald hx hb hK hP 1 0 rfl rfl h dX6_round_37 (fun v4 h => ?_)
    refine lv_istore_n (lv' := [(1, .int v4), (0, .ref h0)]) hx hb dX6_round_38 rfl hl (by decide) rfl (fun ls hl => ?_)
    refine lv_iconst (v := 0) hx hb dX6_round_39 (by decide) ?_
    refine lv_istore_n (lv' := [(2, .int 0), (1, .int v4), (0, .ref h0)]) hx hb dX6_round_40 rfl hl (by decide) rfl (fun ls hl => ?_)
    exact hL41   fuel v4 0 m_s _ _ hP hD hS _ (lv_sub hl [2, 1, 0] rfl) h
  · have h := (k_iB h).2 c3
    refine lv_aload_n hx hb dX6_round_19 rfl (lv_at hl 0 rfl) ?_
    refine va_get (ci := 6) (C := RX6) (T := TX6) (N := 18) hx hb hts hiX6 hown hK hP 0 rfl rfl 0 (by decide) (hts (.fieldLink RX6 7 "RiddleTradeModel" "s" "[I") (List.mem_of_getElem? (i := 1) rfl)) (fun _ h9 => h9) rfl dX6_round_20 ?_
    refine lv_sipush (v := 476) hx hb dX6_round_23 (by decide) ?_
    refine k_iald hx hb hK hP 1 0 rfl rfl h dX6_round_26 (fun v28 h => ?_)
    refine lv_goto (tgt := 38) hx hb dX6_round_27 (by decide) ?_
    refine lv_istore_n (lv' := [(1, .int v28), (0, .ref h0)]) hx hb dX6_round_38 rfl hl (by decide) rfl (fun ls hl => ?_)
    refine lv_iconst (v := 0) hx hb dX6_round_39 (by decide) ?_
    refine lv_istore_n (lv' := [(2, .int 0), (1, .int v28), (0, .ref h0)]) hx hb dX6_round_40 rfl hl (by decide) rfl (fun ls hl => ?_)
    exact hL41   fuel v28 0 m_s _ _ hP hD hS _ (lv_sub hl [2, 1, 0] rfl) h
