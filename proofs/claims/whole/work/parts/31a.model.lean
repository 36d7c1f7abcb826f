def d_X6_in (p0 : Int32) (p1 : Int32) (p2 : Int32) : Int32 :=
    if p0 < p1 then (0)
    else (if p2 < p0 then (0)
    else (1))
set_option maxHeartbeats 4000000 in
set_option maxRecDepth 100000 in
theorem c_X6_in (l : Launch) (D : va_G) (cI cC cE : ClassId) (sz : Nat)  (p0 : Int32) (p1 : Int32) (p2 : Int32) (r0 : Int32) (h : d_X6_in p0 p1 p2 = r0) : Met l yX6_in wsX6_in ({ frames := 0, cells := 0, slots := 0, locals := 0 } : Room) (kP D (kT cI cC cE) [.int p0, .int p1, .int p2] [] sz) (kQi D (kT cI cC cE) [] [] sz r0) 0 0 (va_A [] sz) := by
  refine kMetZ (cc := cX6_in) (maxL := 3) (own := RX6) (by decide) rfl (Nat.le_of_ble_eq_true rfl) rfl ?_
  intro p e s m below meth c A Q hx hb hml hown hts hP hK hD hA hS hname fin ls hl
  have hl : lv_has ls 3 [(0, .int p0), (1, .int p1), (2, .int p2)] := hl
  dsimp only [d_X6_in] at h
  refine lv_iload_n hx hb dX6_in_0 rfl (lv_at hl 0 rfl) ?_
  refine lv_iload_n hx hb dX6_in_1 rfl (lv_at hl 1 rfl) ?_
  refine lv_icmp_lt (tgt := 14) hx hb dX6_in_2 (by decide) (fun c1 => ?_) (fun c1 => ?_)
  · have h := (k_iB h).1 c1
    refine lv_iconst (v := 0) hx hb dX6_in_14 (by decide) ?_
    obtain rfl := h
    exact fin _ _ _ _ rfl dX6_in_15 hP hD hS
  · have h := (k_iB h).2 c1
    refine lv_iload_n hx hb dX6_in_5 rfl (lv_at hl 0 rfl) ?_
    refine lv_iload_n hx hb dX6_in_6 rfl (lv_at hl 2 rfl) ?_
    refine lv_icmp_gt (tgt := 14) hx hb dX6_in_7 (by decide) (fun c2 => ?_) (fun c2 => ?_)
    · have h := (k_iB h).1 c2
      refine lv_iconst (v := 0) hx hb dX6_in_14 (by decide) ?_
      obtain rfl := h
      exact fin _ _ _ _ rfl dX6_in_15 hP hD hS
    · have h := (k_iB h).2 c2
      refine lv_iconst (v := 1) hx hb dX6_in_10 (by decide) ?_
      refine lv_goto (tgt := 15) hx hb dX6_in_11 (by decide) ?_
      obtain rfl := h
      exact fin _ _ _ _ rfl dX6_in_15 hP hD hS
theorem zb_d_X6_in (p0 : Int32) (p1 : Int32) (p2 : Int32) : narrow .boolean (.int (d_X6_in p0 p1 p2)) = .int (d_X6_in p0 p1 p2) := by
  unfold d_X6_in
  ((repeat' split) <;> rfl)
def d_X6_isTrader (p0 : Int32) : Int32 :=
    (d_X6_in p0 0 7)
set_option maxHeartbeats 4000000 in
set_option maxRecDepth 100000 in
theorem c_X6_isTrader (l : Launch) (D : va_G) (cI cC cE : ClassId) (sz : Nat)  (p0 : Int32) (r0 : Int32) (h : d_X6_isTrader p0 = r0) : Met l yX6_isTrader wsX6_isTrader ({ frames := 1, cells := 0, slots := 0, locals := 22 } : Room) (kP D (kT cI cC cE) [.int p0] [] sz) (kQi D (kT cI cC cE) [] [] sz r0) 0 0 (va_A [] sz) := by
  refine kMetZ (cc := cX6_isTrader) (maxL := 1) (own := RX6) (by decide) rfl (Nat.le_of_ble_eq_true rfl) rfl ?_
  intro p e s m below meth c A Q hx hb hml hown hts hP hK hD hA hS hname fin ls hl
  have hl : lv_has ls 1 [(0, .int p0)] := hl
  dsimp only [d_X6_isTrader] at h
  refine lv_iload_n hx hb dX6_isTrader_0 rfl (lv_at hl 0 rfl) ?_
  refine lv_iconst (v := 0) hx hb dX6_isTrader_1 (by decide) ?_
  refine lv_bipush (v := 7) hx hb dX6_isTrader_2 (by decide) ?_
  refine kcSi (ws1 := []) ⟨hx, hb, hml, hown, hts⟩ [] [] (c_X6_in l D cI cC cE _ p0 0 7 (d_X6_in p0 0 7) rfl) (va_cwS 3 hts gX6_isTrader_X6_in rfl rfl rfl (by decide +kernel) ⟨Nat.le_of_ble_eq_true rfl, Nat.le_of_ble_eq_true rfl⟩) hK hP hD hS hA rfl rfl rfl rfl rfl rfl rfl hl.1 rfl (Nat.le_of_ble_eq_true rfl) dX6_isTrader_4 ⟨Nat.le_refl 0, Nat.le_refl 0⟩ (fun H locs hP hD hS => ?_)
  obtain rfl := h
  exact fin _ _ _ _ (zb_d_X6_in _ _ _) dX6_isTrader_7 hP hD hS
theorem zb_d_X6_isTrader (p0 : Int32) : narrow .boolean (.int (d_X6_isTrader p0)) = .int (d_X6_isTrader p0) := by
  unfold d_X6_isTrader
  exact zb_d_X6_in _ _ _
def d_X6_ofR (p0 : Int32) (p1 : Int32) : Int32 :=
    ((16 + (5 * p0)) + p1)
set_option maxHeartbeats 4000000 in
set_option maxRecDepth 100000 in
theorem c_X6_ofR (l : Launch) (D : va_G) (cI cC cE : ClassId) (sz : Nat)  (p0 : Int32) (p1 : Int32) (r0 : Int32) (h : d_X6_ofR p0 p1 = r0) : Met l yX6_ofR wsX6_ofR ({ frames := 0, cells := 0, slots := 0, locals := 0 } : Room) (kP D (kT cI cC cE) [.int p0, .int p1] [] sz) (kQi D (kT cI cC cE) [] [] sz r0) 0 0 (va_A [] sz) := by
  refine kMetI (cc := cX6_ofR) (maxL := 2) (own := RX6) (by decide) rfl (Nat.le_of_ble_eq_true rfl) rfl ?_
  intro p e s m below meth c A Q hx hb hml hown hts hP hK hD hA hS hname fin ls hl
  have hl : lv_has ls 2 [(0, .int p0), (1, .int p1)] := hl
  dsimp only [d_X6_ofR] at h
  refine lv_bipush (v := 16) hx hb dX6_ofR_0 (by decide) ?_
  refine lv_iconst (v := 5) hx hb dX6_ofR_2 (by decide) ?_
  refine lv_iload_n hx hb dX6_ofR_3 rfl (lv_at hl 0 rfl) ?_
  refine lv_imul hx hb dX6_ofR_4 ?_
  refine lv_iadd hx hb dX6_ofR_5 ?_
  refine lv_iload_n hx hb dX6_ofR_6 rfl (lv_at hl 1 rfl) ?_
  refine lv_iadd hx hb dX6_ofR_7 ?_
  obtain rfl := h
  exact fin _ _ _ _ dX6_ofR_8 hP hD hS
def d_X6_ofA (p0 : Int32) (p1 : Int32) : Int32 :=
    ((116 + (8 * p0)) + p1)
set_option maxHeartbeats 4000000 in
set_option maxRecDepth 100000 in
theorem c_X6_ofA (l : Launch) (D : va_G) (cI cC cE : ClassId) (sz : Nat)  (p0 : Int32) (p1 : Int32) (r0 : Int32) (h : d_X6_ofA p0 p1 = r0) : Met l yX6_ofA wsX6_ofA ({ frames := 0, cells := 0, slots := 0, locals := 0 } : Room) (kP D (kT cI cC cE) [.int p0, .int p1] [] sz) (kQi D (kT cI cC cE) [] [] sz r0) 0 0 (va_A [] sz) := by
  refine kMetI (cc := cX6_ofA) (maxL := 2) (own := RX6) (by decide) rfl (Nat.le_of_ble_eq_true rfl) rfl ?_
  intro p e s m below meth c A Q hx hb hml hown hts hP hK hD hA hS hname fin ls hl
  have hl : lv_has ls 2 [(0, .int p0), (1, .int p1)] := hl
  dsimp only [d_X6_ofA] at h
  refine lv_bipush (v := 116) hx hb dX6_ofA_0 (by decide) ?_
  refine lv_bipush (v := 8) hx hb dX6_ofA_2 (by decide) ?_
  refine lv_iload_n hx hb dX6_ofA_4 rfl (lv_at hl 0 rfl) ?_
  refine lv_imul hx hb dX6_ofA_5 ?_
  refine lv_iadd hx hb dX6_ofA_6 ?_
  refine lv_iload_n hx hb dX6_ofA_7 rfl (lv_at hl 1 rfl) ?_
  refine lv_iadd hx hb dX6_ofA_8 ?_
  obtain rfl := h
  exact fin _ _ _ _ dX6_ofA_9 hP hD hS
def d_X6_size (p0 : Int32) : Int32 :=
    if 0 ≤ p0 then (p0)
    else ((-p0))
set_option maxHeartbeats 4000000 in
set_option maxRecDepth 100000 in
theorem c_X6_size (l : Launch) (D : va_G) (cI cC cE : ClassId) (sz : Nat)  (p0 : Int32) (r0 : Int32) (h : d_X6_size p0 = r0) : Met l yX6_size wsX6_size ({ frames := 0, cells := 0, slots := 0, locals := 0 } : Room) (kP D (kT cI cC cE) [.int p0] [] sz) (kQi D (kT cI cC cE) [] [] sz r0) 0 0 (va_A [] sz) := by
  refine kMetI (cc := cX6_size) (maxL := 1) (own := RX6) (by decide) rfl (Nat.le_of_ble_eq_true rfl) rfl ?_
  intro p e s m below meth c A Q hx hb hml hown hts hP hK hD hA hS hname fin ls hl
  have hl : lv_has ls 1 [(0, .int p0)] := hl
  dsimp only [d_X6_size] at h
  refine lv_iload_n hx hb dX6_size_0 rfl (lv_at hl 0 rfl) ?_
  refine lv_if_ge (tgt := 9) hx hb dX6_size_1 (by decide) (fun c1 => ?_) (fun c1 => ?_)
  · have h := (k_iB h).1 c1
    refine lv_iload_n hx hb dX6_size_9 rfl (lv_at hl 0 rfl) ?_
    obtain rfl := h
    exact fin _ _ _ _ dX6_size_10 hP hD hS
  · have h := (k_iB h).2 c1
    refine lv_iload_n hx hb dX6_size_4 rfl (lv_at hl 0 rfl) ?_
    refine lv_ineg hx hb dX6_size_5 ?_
    refine lv_goto (tgt := 10) hx hb dX6_size_6 (by decide) ?_
    obtain rfl := h
    exact fin _ _ _ _ dX6_size_10 hP hD hS
abbrev w_X6_isRiddle (cI cC : ClassId) (h0 h_s h_aside h_past h_snapshot h_text : Nat) (m_s : Nat → Int32) (m_pasts : Int32) (m_isKept : Int32) (m_length : Int32) (m_hasStop : Int32) (m_stopAt : Int32) (m_stopWhy : Int32) (m_spot : Int32) (m_isWrong : Int32) (m_kind : Int32) (m_first : Int32) (m_second : Int32) (m_third : Int32) (m_fourth : Int32) : va_W := [(h0, .inr (6, [.ref h_s, .ref h_aside, .ref h_past, .int m_pasts, .ref h_snapshot, .int m_isKept, .ref h_text, .int m_length, .int m_hasStop, .int m_stopAt, .int m_stopWhy, .int m_spot, .int m_isWrong, .int m_kind, .int m_first, .int m_second, .int m_third, .int m_fourth])), (h_s, .inl (cI, 490, .inl m_s))]
def d_X6_isRiddle (p1 : Int32) (m_s : Nat → Int32) : Option (Int32) :=
    ob1 (rd 490 m_s 483) fun v1 =>
    some (d_X6_in p1 0 (v1 - 1))
set_option maxHeartbeats 4000000 in
set_option maxRecDepth 100000 in
theorem c_X6_isRiddle (l : Launch) (D : va_G) (cI cC cE : ClassId) (h0 h_s h_aside h_past h_snapshot h_text : Nat) (sz : Nat) (m_s : Nat → Int32) (m_pasts : Int32) (m_isKept : Int32) (m_length : Int32) (m_hasStop : Int32) (m_stopAt : Int32) (m_stopWhy : Int32) (m_spot : Int32) (m_isWrong : Int32) (m_kind : Int32) (m_first : Int32) (m_second : Int32) (m_third : Int32) (m_fourth : Int32) (p1 : Int32) (r0 : Int32) (h : d_X6_isRiddle p1 m_s = some r0) : Met l yX6_isRiddle wsX6_isRiddle ({ frames := 1, cells := 0, slots := 0, locals := 22 } : Room) (kP D (kT cI cC cE) [.ref h0, .int p1] (w_X6_isRiddle cI cC h0 h_s h_aside h_past h_snapshot h_text m_s m_pasts m_isKept m_length m_hasStop m_stopAt m_stopWhy m_spot m_isWrong m_kind m_first m_second m_third m_fourth) sz) (kQi D (kT cI cC cE) (w_X6_isRiddle cI cC h0 h_s h_aside h_past h_snapshot h_text m_s m_pasts m_isKept m_length m_hasStop m_stopAt m_stopWhy m_spot m_isWrong m_kind m_first m_second m_third m_fourth) (w_X6_isRiddle cI cC h0 h_s h_aside h_past h_snapshot h_text m_s m_pasts m_isKept m_length m_hasStop m_stopAt m_stopWhy m_spot m_isWrong m_kind m_first m_second m_third m_fourth) sz r0) 0 0 (va_A (w_X6_isRiddle cI cC h0 h_s h_aside h_past h_snapshot h_text m_s m_pasts m_isKept m_length m_hasStop m_stopAt m_stopWhy m_spot m_isWrong m_kind m_first m_second m_third m_fourth) sz) := by
  refine kMetZ (cc := cX6_isRiddle) (maxL := 2) (own := RX6) (by decide) rfl (Nat.le_of_ble_eq_true rfl) rfl ?_
  intro p e s m below meth c A Q hx hb hml hown hts hP hK hD hA hS hname fin ls hl
  have hl : lv_has ls 2 [(0, .ref h0), (1, .int p1)] := hl
  have hiX6 : ∀ w ∈ u_ws RX6 TX6 18, w ∈ wsX6_isRiddle := by decide +kernel
  dsimp only [d_X6_isRiddle] at h
  refine lv_iload_n hx hb dX6_isRiddle_0 rfl (lv_at hl 1 rfl) ?_
  refine lv_iconst (v := 0) hx hb dX6_isRiddle_1 (by decide) ?_
  refine lv_aload_n hx hb dX6_isRiddle_2 rfl (lv_at hl 0 rfl) ?_
  refine va_get (ci := 6) (C := RX6) (T := TX6) (N := 18) hx hb hts hiX6 hown hK hP 0 rfl rfl 0 (by decide) (hts (.fieldLink RX6 7 "RiddleTradeModel" "s" "[I") (List.mem_of_getElem? (i := 1) rfl)) (fun _ h9 => h9) rfl dX6_isRiddle_3 ?_
  refine lv_sipush (v := 483) hx hb dX6_isRiddle_6 (by decide) ?_
  refine k_iald hx hb hK hP 1 0 rfl rfl h dX6_isRiddle_9 (fun v1 h => ?_)
  refine lv_iconst (v := 1) hx hb dX6_isRiddle_10 (by decide) ?_
  refine lv_isub hx hb dX6_isRiddle_11 ?_
  refine kcSi (ws1 := (w_X6_isRiddle cI cC h0 h_s h_aside h_past h_snapshot h_text m_s m_pasts m_isKept m_length m_hasStop m_stopAt m_stopWhy m_spot m_isWrong m_kind m_first m_second m_third m_fourth)) ⟨hx, hb, hml, hown, hts⟩ [] [0, 1] (c_X6_in l D cI cC cE _ p1 0 (v1 - 1) (d_X6_in p1 0 (v1 - 1)) rfl) (va_cwS 3 hts gX6_isRiddle_X6_in rfl rfl rfl (by decide +kernel) ⟨Nat.le_of_ble_eq_true rfl, Nat.le_of_ble_eq_true rfl⟩) hK hP hD hS hA rfl rfl rfl rfl rfl rfl rfl hl.1 rfl (Nat.le_of_ble_eq_true rfl) dX6_isRiddle_12 ⟨Nat.le_refl 0, Nat.le_refl 0⟩ (fun H locs hP hD hS => ?_)
  obtain rfl := Option.some.inj h
  exact fin _ _ _ _ (zb_d_X6_in _ _ _) dX6_isRiddle_15 hP hD hS
abbrev w_X6_isAnswer (cI cC : ClassId) (h0 h_s h_aside h_past h_snapshot h_text : Nat) (m_s : Nat → Int32) (m_pasts : Int32) (m_isKept : Int32) (m_length : Int32) (m_hasStop : Int32) (m_stopAt : Int32) (m_stopWhy : Int32) (m_spot : Int32) (m_isWrong : Int32) (m_kind : Int32) (m_first : Int32) (m_second : Int32) (m_third : Int32) (m_fourth : Int32) : va_W := [(h0, .inr (6, [.ref h_s, .ref h_aside, .ref h_past, .int m_pasts, .ref h_snapshot, .int m_isKept, .ref h_text, .int m_length, .int m_hasStop, .int m_stopAt, .int m_stopWhy, .int m_spot, .int m_isWrong, .int m_kind, .int m_first, .int m_second, .int m_third, .int m_fourth])), (h_s, .inl (cI, 490, .inl m_s))]
def d_X6_isAnswer (p1 : Int32) (m_s : Nat → Int32) : Option (Int32) :=
    ob1 (rd 490 m_s 484) fun v1 =>
    some (d_X6_in p1 0 (v1 - 1))
set_option maxHeartbeats 4000000 in
set_option maxRecDepth 100000 in
theorem c_X6_isAnswer (l : Launch) (D : va_G) (cI cC cE : ClassId) (h0 h_s h_aside h_past h_snapshot h_text : Nat) (sz : Nat) (m_s : Nat → Int32) (m_pasts : Int32) (m_isKept : Int32) (m_length : Int32) (m_hasStop : Int32) (m_stopAt : Int32) (m_stopWhy : Int32) (m_spot : Int32) (m_isWrong : Int32) (m_kind : Int32) (m_first : Int32) (m_second : Int32) (m_third : Int32) (m_fourth : Int32) (p1 : Int32) (r0 : Int32) (h : d_X6_isAnswer p1 m_s = some r0) : Met l yX6_isAnswer wsX6_isAnswer ({ frames := 1, cells := 0, slots := 0, locals := 22 } : Room) (kP D (kT cI cC cE) [.ref h0, .int p1] (w_X6_isAnswer cI cC h0 h_s h_aside h_past h_snapshot h_text m_s m_pasts m_isKept m_length m_hasStop m_stopAt m_stopWhy m_spot m_isWrong m_kind m_first m_second m_third m_fourth) sz) (kQi D (kT cI cC cE) (w_X6_isAnswer cI cC h0 h_s h_aside h_past h_snapshot h_text m_s m_pasts m_isKept m_length m_hasStop m_stopAt m_stopWhy m_spot m_isWrong m_kind m_first m_second m_third m_fourth) (w_X6_isAnswer cI cC h0 h_s h_aside h_past h_snapshot h_text m_s m_pasts m_isKept m_length m_hasStop m_stopAt m_stopWhy m_spot m_isWrong m_kind m_first m_second m_third m_fourth) sz r0) 0 0 (va_A (w_X6_isAnswer cI cC h0 h_s h_aside h_past h_snapshot h_text m_s m_pasts m_isKept m_length m_hasStop m_stopAt m_stopWhy m_spot m_isWrong m_kind m_first m_second m_third m_fourth) sz) := by
  refine kMetZ (cc := cX6_isAnswer) (maxL := 2) (own := RX6) (by decide) rfl (Nat.le_of_ble_eq_true rfl) rfl ?_
  intro p e s m below meth c A Q hx hb hml hown hts hP hK hD hA hS hname fin ls hl
  have hl : lv_has ls 2 [(0, .ref h0), (1, .int p1)] := hl
  have hiX6 : ∀ w ∈ u_ws RX6 TX6 18, w ∈ wsX6_isAnswer := by decide +kernel
  dsimp only [d_X6_isAnswer] at h
  refine lv_iload_n hx hb dX6_isAnswer_0 rfl (lv_at hl 1 rfl) ?_
  refine lv_iconst (v := 0) hx hb dX6_isAnswer_1 (by decide) ?_
  refine lv_aload_n hx hb dX6_isAnswer_2 rfl (lv_at hl 0 rfl) ?_
  refine va_get (ci := 6) (C := RX6) (T := TX6) (N := 18) hx hb hts hiX6 hown hK hP 0 rfl rfl 0 (by decide) (hts (.fieldLink RX6 7 "RiddleTradeModel" "s" "[I") (List.mem_of_getElem? (i := 1) rfl)) (fun _ h9 => h9) rfl dX6_isAnswer_3 ?_
  refine lv_sipush (v := 484) hx hb dX6_isAnswer_6 (by decide) ?_
  refine k_iald hx hb hK hP 1 0 rfl rfl h dX6_isAnswer_9 (fun v1 h => ?_)
  refine lv_iconst (v := 1) hx hb dX6_isAnswer_10 (by decide) ?_
  refine lv_isub hx hb dX6_isAnswer_11 ?_
  refine kcSi (ws1 := (w_X6_isAnswer cI cC h0 h_s h_aside h_past h_snapshot h_text m_s m_pasts m_isKept m_length m_hasStop m_stopAt m_stopWhy m_spot m_isWrong m_kind m_first m_second m_third m_fourth)) ⟨hx, hb, hml, hown, hts⟩ [] [0, 1] (c_X6_in l D cI cC cE _ p1 0 (v1 - 1) (d_X6_in p1 0 (v1 - 1)) rfl) (va_cwS 3 hts gX6_isAnswer_X6_in rfl rfl rfl (by decide +kernel) ⟨Nat.le_of_ble_eq_true rfl, Nat.le_of_ble_eq_true rfl⟩) hK hP hD hS hA rfl rfl rfl rfl rfl rfl rfl hl.1 rfl (Nat.le_of_ble_eq_true rfl) dX6_isAnswer_12 ⟨Nat.le_refl 0, Nat.le_refl 0⟩ (fun H locs hP hD hS => ?_)
  obtain rfl := Option.some.inj h
  exact fin _ _ _ _ (zb_d_X6_in _ _ _) dX6_isAnswer_15 hP hD hS
abbrev w_X6_records (cI cC : ClassId) (h0 h_s h_aside h_past h_snapshot h_text : Nat) (m_s : Nat → Int32) (m_past : Nat → Int32) (m_pasts : Int32) (m_isKept : Int32) (m_length : Int32) (m_hasStop : Int32) (m_stopAt : Int32) (m_stopWhy : Int32) (m_spot : Int32) (m_isWrong : Int32) (m_kind : Int32) (m_first : Int32) (m_second : Int32) (m_third : Int32) (m_fourth : Int32) : va_W := [(h0, .inr (6, [.ref h_s, .ref h_aside, .ref h_past, .int m_pasts, .ref h_snapshot, .int m_isKept, .ref h_text, .int m_length, .int m_hasStop, .int m_stopAt, .int m_stopWhy, .int m_spot, .int m_isWrong, .int m_kind, .int m_first, .int m_second, .int m_third, .int m_fourth])), (h_s, .inl (cI, 490, .inl m_s)), (h_past, .inl (cI, 1960, .inl m_past))]
def lp_X6_records_51 (m_s : Nat → Int32) : Nat → Int32 → (Nat → Int32) → Int32 → Option ((Nat → Int32) × Int32)
  | 0 => fun _ _ _ => none
  | k + 1 => fun x1 m_past m_pasts =>
    if 490 ≤ x1 then (some (m_past, (m_pasts + 1)))
    else (ob1 (rd 490 m_s x1) fun v3 =>
    ob1 (wr 1960 m_past ((490 * m_pasts) + x1) v3) fun m_past_4 =>
    (lp_X6_records_51  m_s k) (x1 + 1) m_past_4 m_pasts)
def lp_X6_records_10 (m_s : Nat → Int32) : Nat → Int32 → (Nat → Int32) → Int32 → Option ((Nat → Int32) × Int32)
  | 0 => fun _ _ _ => none
  | k + 1 => fun x1 m_past m_pasts =>
    if 1470 ≤ x1 then (lp_X6_records_51  m_s fuel 0 m_past (m_pasts - 1))
    else (ob1 (rd 1960 m_past (490 + x1)) fun v6 =>
    ob1 (wr 1960 m_past x1 v6) fun m_past_7 =>
    (lp_X6_records_10  m_s k) (x1 + 1) m_past_7 m_pasts)
def d_X6_records (m_s : Nat → Int32) (m_past : Nat → Int32) (m_pasts : Int32) : Option ((Nat → Int32) × Int32) :=
    if m_pasts = 4 then (lp_X6_records_10  m_s fuel 0 m_past m_pasts)
    else (lp_X6_records_51  m_s fuel 0 m_past m_pasts)
set_option maxHeartbeats 4000000 in
set_option maxRecDepth 100000 in
theorem c_X6_records (l : Launch) (D : va_G) (cI cC cE : ClassId) (h0 h_s h_aside h_past h_snapshot h_text : Nat) (sz : Nat) (m_s : Nat → Int32) (m_past : Nat → Int32) (m_pasts : Int32) (m_isKept : Int32) (m_length : Int32) (m_hasStop : Int32) (m_stopAt : Int32) (m_stopWhy : Int32) (m_spot : Int32) (m_isWrong : Int32) (m_kind : Int32) (m_first : Int32) (m_second : Int32) (m_third : Int32) (m_fourth : Int32) (o_m_past : Nat → Int32) (o_m_pasts : Int32) (h : d_X6_records m_s m_past m_pasts = some (o_m_past, o_m_pasts)) : Met l yX6_records wsX6_records ({ frames := 0, cells := 0, slots := 0, locals := 0 } : Room) (kP D (kT cI cC cE) [.ref h0] (w_X6_records cI cC h0 h_s h_aside h_past h_snapshot h_text m_s m_past m_pasts m_isKept m_length m_hasStop m_stopAt m_stopWhy m_spot m_isWrong m_kind m_first m_second m_third m_fourth) sz) (kQv D (kT cI cC cE) (w_X6_records cI cC h0 h_s h_aside h_past h_snapshot h_text m_s m_past m_pasts m_isKept m_length m_hasStop m_stopAt m_stopWhy m_spot m_isWrong m_kind m_first m_second m_third m_fourth) (w_X6_records cI cC h0 h_s h_aside h_past h_snapshot h_text m_s o_m_past o_m_pasts m_isKept m_length m_hasStop m_stopAt m_stopWhy m_spot m_isWrong m_kind m_first m_second m_third m_fourth) sz) 0 0 (va_A (w_X6_records cI cC h0 h_s h_aside h_past h_snapshot h_text m_s m_past m_pasts m_isKept m_length m_hasStop m_stopAt m_stopWhy m_spot m_isWrong m_kind m_first m_second m_third m_fourth) sz) := by
  refine kMetV (cc := cX6_records) (maxL := 2) (own := RX6) (by decide) rfl (Nat.le_of_ble_eq_true rfl) rfl ?_
  intro p e s m below meth c A Q hx hb hml hown hts hP hK hD hA hS hname fin ls hl
  have hl : lv_has ls 2 [(0, .ref h0)] := hl
  have hiX6 : ∀ w ∈ u_ws RX6 TX6 18, w ∈ wsX6_records := by decide +kernel
  have hL51 : ∀ (k : Nat), ∀ (x1 : Int32) (m_past : Nat → Int32) (m_pasts : Int32) (H : Heap) (locs : List Loc), va_P D vwCl (w_X6_records cI cC h0 h_s h_aside h_past h_snapshot h_text m_s m_past m_pasts m_isKept m_length m_hasStop m_stopAt m_stopWhy m_spot m_isWrong m_kind m_first m_second m_third m_fourth) H → va_D A (w_X6_records cI cC h0 h_s h_aside h_past h_snapshot h_text m_s m_past m_pasts m_isKept m_length m_hasStop m_stopAt m_stopWhy m_spot m_isWrong m_kind m_first m_second m_third m_fourth) → va_S A s.heap H locs → ∀ (ls : Array Slot), lv_has ls 2 [(0, .ref h0), (1, .int x1)] → lp_X6_records_51  m_s k x1 m_past m_pasts = some (o_m_past, o_m_pasts) → W p l e ({ frames := 0, cells := 0, slots := 0, locals := 0 } : Room) s m [.ref h0].toArray below meth c H locs 0 0 Q (F0 m 51 ls []) := by
    intro k
    induction k with
    | zero =>
      intro x1 m_past m_pasts H locs hP hD hS ls hl h
      exact k_none h
    | succ k ih =>
      intro x1 m_past m_pasts H locs hP hD hS ls hl h
      dsimp only [lp_X6_records_51] at h
      refine lv_iload_n hx hb dX6_records_51 rfl (lv_at hl 1 rfl) ?_
      refine lv_sipush (v := 490) hx hb dX6_records_52 (by decide) ?_
      refine lv_icmp_ge (tgt := 85) hx hb dX6_records_55 (by decide) (fun c2 => ?_) (fun c2 => ?_)
      · have h := (k_iB h).1 c2
        refine lv_aload_n hx hb dX6_records_85 rfl (lv_at hl 0 rfl) ?_
        refine lv_dup hx hb dX6_records_86 rfl ?_
        refine va_get (ci := 6) (C := RX6) (T := TX6) (N := 18) hx hb hts hiX6 hown hK hP 0 rfl rfl 3 (by decide) (hts (.fieldLink RX6 30 "RiddleTradeModel" "pasts" "I") (List.mem_of_getElem? (i := 1) rfl)) (fun _ h9 => h9) rfl dX6_records_87 ?_
        refine lv_iconst (v := 1) hx hb dX6_records_90 (by decide) ?_
        refine lv_iadd hx hb dX6_records_91 ?_
        refine va_put (ci := 6) (ty := .int) (C := RX6) (T := TX6) (N := 18) hx hb hts hiX6 tyX6 tyX6_ok nmX6 hown hK hP hD hS 0 rfl rfl 3 (by decide) (hts (.fieldLink RX6 30 "RiddleTradeModel" "pasts" "I") (List.mem_of_getElem? (i := 1) rfl)) (fun _ h9 => h9) rfl (by decide +kernel) rfl rfl (Nat.le_of_ble_eq_true rfl) dX6_records_92 (fun H locs hP hD hS => ?_)
        have hP : va_P D vwCl (w_X6_records cI cC h0 h_s h_aside h_past h_snapshot h_text m_s m_past (m_pasts + 1) m_isKept m_length m_hasStop m_stopAt m_stopWhy m_spot m_isWrong m_kind m_first m_second m_third m_fourth) H := hP
        have hD : va_D A (w_X6_records cI cC h0 h_s h_aside h_past h_snapshot h_text m_s m_past (m_pasts + 1) m_isKept m_length m_hasStop m_stopAt m_stopWhy m_spot m_isWrong m_kind m_first m_second m_third m_fourth) := hD
        obtain ⟨rfl, rfl⟩ := inj2 (Option.some.inj h)
        exact fin _ _ _ _ dX6_records_95 hP hD hS
      · have h := (k_iB h).2 c2
        refine lv_aload_n hx hb dX6_records_58 rfl (lv_at hl 0 rfl) ?_
        refine va_get (ci := 6) (C := RX6) (T := TX6) (N := 18) hx hb hts hiX6 hown hK hP 0 rfl rfl 2 (by decide) (hts (.fieldLink RX6 16 "RiddleTradeModel" "past" "[I") (List.mem_of_getElem? (i := 2) rfl)) (fun _ h9 => h9) rfl dX6_records_59 ?_
        refine lv_sipush (v := 490) hx hb dX6_records_62 (by decide) ?_
        refine lv_aload_n hx hb dX6_records_65 rfl (lv_at hl 0 rfl) ?_
        refine va_get (ci := 6) (C := RX6) (T := TX6) (N := 18) hx hb hts hiX6 hown hK hP 0 rfl rfl 3 (by decide) (hts (.fieldLink RX6 30 "RiddleTradeModel" "pasts" "I") (List.mem_of_getElem? (i := 1) rfl)) (fun _ h9 => h9) rfl dX6_records_66 ?_
        refine lv_imul hx hb dX6_records_69 ?_
        refine lv_iload_n hx hb dX6_records_70 rfl (lv_at hl 1 rfl) ?_
        refine lv_iadd hx hb dX6_records_71 ?_
        refine lv_aload_n hx hb dX6_records_72 rfl (lv_at hl 0 rfl) ?_
        refine va_get (ci := 6) (C := RX6) (T := TX6) (N := 18) hx hb hts hiX6 hown hK hP 0 rfl rfl 0 (by decide) (hts (.fieldLink RX6 7 "RiddleTradeModel" "s" "[I") (List.mem_of_getElem? (i := 3) rfl)) (fun _ h9 => h9) rfl dX6_records_73 ?_
        refine lv_iload_n hx hb dX6_records_76 rfl (lv_at hl 1 rfl) ?_
        refine k_iald hx hb hK hP 1 0 rfl rfl h dX6_records_77 (fun v3 h => ?_)
        refine k_iast hx hb hK hP hD hS 2 0 rfl rfl h dX6_records_78 (fun m_past_4 H locs hP hD hS h => ?_)
        have hP : va_P D vwCl (w_X6_records cI cC h0 h_s h_aside h_past h_snapshot h_text m_s m_past_4 m_pasts m_isKept m_length m_hasStop m_stopAt m_stopWhy m_spot m_isWrong m_kind m_first m_second m_third m_fourth) H := hP
        have hD : va_D A (w_X6_records cI cC h0 h_s h_aside h_past h_snapshot h_text m_s m_past_4 m_pasts m_isKept m_length m_hasStop m_stopAt m_stopWhy m_spot m_isWrong m_kind m_first m_second m_third m_fourth) := hD
        refine lv_iinc (v := (x1 + 1)) (lv' := [(1, .int (x1 + 1)), (0, .ref h0)]) hx hb dX6_records_79 hl (k := 1) rfl rfl (by decide) rfl (fun ls hl => ?_)
        refine lv_goto (tgt := 51) hx hb dX6_records_82 (by decide) ?_
        exact ih (x1 + 1) m_past_4 m_pasts _ _ hP hD hS _ (lv_sub hl [1, 0] rfl) h
  have hL10 : ∀ (k : Nat), ∀ (x1 : Int32) (m_past : Nat → Int32) (m_pasts : Int32) (H : Heap) (locs : List Loc), va_P D vwCl (w_X6_records cI cC h0 h_s h_aside h_past h_snapshot h_text m_s m_past m_pasts m_isKept m_length m_hasStop m_stopAt m_stopWhy m_spot m_isWrong m_kind m_first m_second m_third m_fourth) H → va_D A (w_X6_records cI cC h0 h_s h_aside h_past h_snapshot h_text m_s m_past m_pasts m_isKept m_length m_hasStop m_stopAt m_stopWhy m_spot m_isWrong m_kind m_first m_second m_third m_fourth) → va_S A s.heap H locs → ∀ (ls : Array Slot), lv_has ls 2 [(0, .ref h0), (1, .int x1)] → lp_X6_records_10  m_s k x1 m_past m_pasts = some (o_m_past, o_m_pasts) → W p l e ({ frames := 0, cells := 0, slots := 0, locals := 0 } : Room) s m [.ref h0].toArray below meth c H locs 0 0 Q (F0 m 10 ls []) := by
    intro k
    induction k with
    | zero =>
      intro x1 m_past m_pasts H locs hP hD hS ls hl h
      exact k_none h
    | succ k ih =>
      intro x1 m_past m_pasts H locs hP hD hS ls hl h
      dsimp only [lp_X6_records_10] at h
      refine lv_iload_n hx hb dX6_records_10 rfl (lv_at hl 1 rfl) ?_
      refine lv_sipush (v := 1470) hx hb dX6_records_11 (by decide) ?_
      refine lv_icmp_ge (tgt := 39) hx hb dX6_records_14 (by decide) (fun c5 => ?_) (fun c5 => ?_)
      · have h := (k_iB h).1 c5
        refine lv_aload_n hx hb dX6_records_39 rfl (lv_at hl 0 rfl) ?_
        refine lv_dup hx hb dX6_records_40 rfl ?_
        refine va_get (ci := 6) (C := RX6) (T := TX6) (N := 18) hx hb hts hiX6 hown hK hP 0 rfl rfl 3 (by decide) (hts (.fieldLink RX6 30 "RiddleTradeModel" "pasts" "I") (List.mem_of_getElem? (i := 1) rfl)) (fun _ h9 => h9) rfl dX6_records_41 ?_
        refine lv_iconst (v := 1) hx hb dX6_records_44 (by decide) ?_
        refine lv_isub hx hb dX6_records_45 ?_
        refine va_put (ci := 6) (ty := .int) (C := RX6) (T := TX6) (N := 18) hx hb hts hiX6 tyX6 tyX6_ok nmX6 hown hK hP hD hS 0 rfl rfl 3 (by decide) (hts (.fieldLink RX6 30 "RiddleTradeModel" "pasts" "I") (List.mem_of_getElem? (i := 1) rfl)) (fun _ h9 => h9) rfl (by decide +kernel) rfl rfl (Nat.le_of_ble_eq_true rfl) dX6_records_46 (fun H locs hP hD hS => ?_)
        have hP : va_P D vwCl (w_X6_records cI cC h0 h_s h_aside h_past h_snapshot h_text m_s m_past (m_pasts - 1) m_isKept m_length m_hasStop m_stopAt m_stopWhy m_spot m_isWrong m_kind m_first m_second m_third m_fourth) H := hP
        have hD : va_D A (w_X6_records cI cC h0 h_s h_aside h_past h_snapshot h_text m_s m_past (m_pasts - 1) m_isKept m_length m_hasStop m_stopAt m_stopWhy m_spot m_isWrong m_kind m_first m_second m_third m_fourth) := hD
        refine lv_iconst (v := 0) hx hb dX6_records_49 (by decide) ?_
        refine lv_istore_n (lv' := [(1, .int 0), (0, .ref h0)]) hx hb dX6_records_50 rfl hl (by decide) rfl (fun ls hl => ?_)
        exact hL51   fuel 0 m_past (m_pasts - 1) _ _ hP hD hS _ (lv_sub hl [1, 0] rfl) h
      · have h := (k_iB h).2 c5
        refine lv_aload_n hx hb dX6_records_17 rfl (lv_at hl 0 rfl) ?_
        refine va_get (ci := 6) (C := RX6) (T := TX6) (N := 18) hx hb hts hiX6 hown hK hP 0 rfl rfl 2 (by decide) (hts (.fieldLink RX6 16 "RiddleTradeModel" "past" "[I") (List.mem_of_getElem? (i := 2) rfl)) (fun _ h9 => h9) rfl dX6_records_18 ?_
        refine lv_iload_n hx hb dX6_records_21 rfl (lv_at hl 1 rfl) ?_
        refine lv_aload_n hx hb dX6_records_22 rfl (lv_at hl 0 rfl) ?_
        refine va_get (ci := 6) (C := RX6) (T := TX6) (N := 18) hx hb hts hiX6 hown hK hP 0 rfl rfl 2 (by decide) (hts (.fieldLink RX6 16 "RiddleTradeModel" "past" "[I") (List.mem_of_getElem? (i := 2) rfl)) (fun _ h9 => h9) rfl dX6_records_23 ?_
        refine lv_sipush (v := 490) hx hb dX6_records_26 (by decide) ?_
        refine lv_iload_n hx hb dX6_records_29 rfl (lv_at hl 1 rfl) ?_
        refine lv_iadd hx hb dX6_records_30 ?_
        refine k_iald hx hb hK hP 2 0 rfl rfl h dX6_records_31 (fun v6 h => ?_)
        refine k_iast hx hb hK hP hD hS 2 0 rfl rfl h dX6_records_32 (fun m_past_7 H locs hP hD hS h => ?_)
        have hP : va_P D vwCl (w_X6_records cI cC h0 h_s h_aside h_past h_snapshot h_text m_s m_past_7 m_pasts m_isKept m_length m_hasStop m_stopAt m_stopWhy m_spot m_isWrong m_kind m_first m_second m_third m_fourth) H := hP
        have hD : va_D A (w_X6_records cI cC h0 h_s h_aside h_past h_snapshot h_text m_s m_past_7 m_pasts m_isKept m_length m_hasStop m_stopAt m_stopWhy m_spot m_isWrong m_kind m_first m_second m_third m_fourth) := hD
        refine lv_iinc (v := (x1 + 1)) (lv' := [(1, .int (x1 + 1)), (0, .ref h0)]) hx hb dX6_records_33 hl (k := 1) rfl rfl (by decide) rfl (fun ls hl => ?_)
        refine lv_goto (tgt := 10) hx hb dX6_records_36 (by decide) ?_
        exact ih (x1 + 1) m_past_7 m_pasts _ _ hP hD hS _ (lv_sub hl [1, 0] rfl) h
  dsimp only [d_X6_records] at h
  refine lv_aload_n hx hb dX6_records_0 rfl (lv_at hl 0 rfl) ?_
  refine va_get (ci := 6) (C := RX6) (T := TX6) (N := 18) hx hb hts hiX6 hown hK hP 0 rfl rfl 3 (by decide) (hts (.fieldLink RX6 30 "RiddleTradeModel" "pasts" "I") (List.mem_of_getElem? (i := 1) rfl)) (fun _ h9 => h9) rfl dX6_records_1 ?_
  refine lv_iconst (v := 4) hx hb dX6_records_4 (by decide) ?_
  refine lv_icmp_ne (tgt := 49) hx hb dX6_records_5 (by decide) (fun c1 => ?_) (fun c1 => ?_)
  · have h := (k_iB h).2 c1
    refine lv_iconst (v := 0) hx hb dX6_records_49 (by decide) ?_
    refine lv_istore_n (lv' := [(1, .int 0), (0, .ref h0)]) hx hb dX6_records_50 rfl hl (by decide) rfl (fun ls hl => ?_)
    exact hL51   fuel 0 m_past m_pasts _ _ hP hD hS _ (lv_sub hl [1, 0] rfl) h
  · have h := (k_iB h).1 c1
    refine lv_iconst (v := 0) hx hb dX6_records_8 (by decide) ?_
    refine lv_istore_n (lv' := [(1, .int 0), (0, .ref h0)]) hx hb dX6_records_9 rfl hl (by decide) rfl (fun ls hl => ?_)
    exact hL10   fuel 0 m_past m_pasts _ _ hP hD hS _ (lv_sub hl [1, 0] rfl) h
abbrev w_X6_putAside (cI cC : ClassId) (h0 h_s h_aside h_past h_snapshot h_text : Nat) (m_s : Nat → Int32) (m_aside : Nat → Int32) (m_pasts : Int32) (m_isKept : Int32) (m_length : Int32) (m_hasStop : Int32) (m_stopAt : Int32) (m_stopWhy : Int32) (m_spot : Int32) (m_isWrong : Int32) (m_kind : Int32) (m_first : Int32) (m_second : Int32) (m_third : Int32) (m_fourth : Int32) : va_W := [(h0, .inr (6, [.ref h_s, .ref h_aside, .ref h_past, .int m_pasts, .ref h_snapshot, .int m_isKept, .ref h_text, .int m_length, .int m_hasStop, .int m_stopAt, .int m_stopWhy, .int m_spot, .int m_isWrong, .int m_kind, .int m_first, .int m_second, .int m_third, .int m_fourth])), (h_s, .inl (cI, 490, .inl m_s)), (h_aside, .inl (cI, 490, .inl m_aside))]
def lp_X6_putAside_2 (m_s : Nat → Int32) : Nat → Int32 → (Nat → Int32) → Option ((Nat → Int32))
  | 0 => fun _ _ => none
  | k + 1 => fun x1 m_aside =>
    if 490 ≤ x1 then (some m_aside)
    else (ob1 (rd 490 m_s x1) fun v2 =>
    ob1 (wr 490 m_aside x1 v2) fun m_aside_3 =>
    (lp_X6_putAside_2  m_s k) (x1 + 1) m_aside_3)
def d_X6_putAside (m_s : Nat → Int32) (m_aside : Nat → Int32) : Option ((Nat → Int32)) :=
    lp_X6_putAside_2  m_s fuel 0 m_aside
set_option maxHeartbeats 4000000 in
set_option maxRecDepth 100000 in
theorem c_X6_putAside (l : Launch) (D : va_G) (cI cC cE : ClassId) (h0 h_s h_aside h_past h_snapshot h_text : Nat) (sz : Nat) (m_s : Nat → Int32) (m_aside : Nat → Int32) (m_pasts : Int32) (m_isKept : Int32) (m_length : Int32) (m_hasStop : Int32) (m_stopAt : Int32) (m_stopWhy : Int32) (m_spot : Int32) (m_isWrong : Int32) (m_kind : Int32) (m_first : Int32) (m_second : Int32) (m_third : Int32) (m_fourth : Int32) (o_m_aside : Nat → Int32) (h : d_X6_putAside m_s m_aside = some o_m_aside) : Met l yX6_putAside wsX6_putAside ({ frames := 0, cells := 0, slots := 0, locals := 0 } : Room) (kP D (kT cI cC cE) [.ref h0] (w_X6_putAside cI cC h0 h_s h_aside h_past h_snapshot h_text m_s m_aside m_pasts m_isKept m_length m_hasStop m_stopAt m_stopWhy m_spot m_isWrong m_kind m_first m_second m_third m_fourth) sz) (kQv D (kT cI cC cE) (w_X6_putAside cI cC h0 h_s h_aside h_past h_snapshot h_text m_s m_aside m_pasts m_isKept m_length m_hasStop m_stopAt m_stopWhy m_spot m_isWrong m_kind m_first m_second m_third m_fourth) (w_X6_putAside cI cC h0 h_s h_aside h_past h_snapshot h_text m_s o_m_aside m_pasts m_isKept m_length m_hasStop m_stopAt m_stopWhy m_spot m_isWrong m_kind m_first m_second m_third m_fourth) sz) 0 0 (va_A (w_X6_putAside cI cC h0 h_s h_aside h_past h_snapshot h_text m_s m_aside m_pasts m_isKept m_length m_hasStop m_stopAt m_stopWhy m_spot m_isWrong m_kind m_first m_second m_third m_fourth) sz) := by
  refine kMetV (cc := cX6_putAside) (maxL := 2) (own := RX6) (by decide) rfl (Nat.le_of_ble_eq_true rfl) rfl ?_
  intro p e s m below meth c A Q hx hb hml hown hts hP hK hD hA hS hname fin ls hl
  have hl : lv_has ls 2 [(0, .ref h0)] := hl
  have hiX6 : ∀ w ∈ u_ws RX6 TX6 18, w ∈ wsX6_putAside := by decide +kernel
  have hL2 : ∀ (k : Nat), ∀ (x1 : Int32) (m_aside : Nat → Int32) (H : Heap) (locs : List Loc), va_P D vwCl (w_X6_putAside cI cC h0 h_s h_aside h_past h_snapshot h_text m_s m_aside m_pasts m_isKept m_length m_hasStop m_stopAt m_stopWhy m_spot m_isWrong m_kind m_first m_second m_third m_fourth) H → va_D A (w_X6_putAside cI cC h0 h_s h_aside h_past h_snapshot h_text m_s m_aside m_pasts m_isKept m_length m_hasStop m_stopAt m_stopWhy m_spot m_isWrong m_kind m_first m_second m_third m_fourth) → va_S A s.heap H locs → ∀ (ls : Array Slot), lv_has ls 2 [(0, .ref h0), (1, .int x1)] → lp_X6_putAside_2  m_s k x1 m_aside = some o_m_aside → W p l e ({ frames := 0, cells := 0, slots := 0, locals := 0 } : Room) s m [.ref h0].toArray below meth c H locs 0 0 Q (F0 m 2 ls []) := by
    intro k
    induction k with
    | zero =>
      intro x1 m_aside H locs hP hD hS ls hl h
      exact k_none h
    | succ k ih =>
      intro x1 m_aside H locs hP hD hS ls hl h
      dsimp only [lp_X6_putAside_2] at h
      refine lv_iload_n hx hb dX6_putAside_2 rfl (lv_at hl 1 rfl) ?_
      refine lv_sipush (v := 490) hx hb dX6_putAside_3 (by decide) ?_
      refine lv_icmp_ge (tgt := 27) hx hb dX6_putAside_6 (by decide) (fun c1 => ?_) (fun c1 => ?_)
      · have h := (k_iB h).1 c1
        obtain rfl := Option.some.inj h
        exact fin _ _ _ _ dX6_putAside_27 hP hD hS
      · have h := (k_iB h).2 c1
        refine lv_aload_n hx hb dX6_putAside_9 rfl (lv_at hl 0 rfl) ?_
        refine va_get (ci := 6) (C := RX6) (T := TX6) (N := 18) hx hb hts hiX6 hown hK hP 0 rfl rfl 1 (by decide) (hts (.fieldLink RX6 13 "RiddleTradeModel" "aside" "[I") (List.mem_of_getElem? (i := 1) rfl)) (fun _ h9 => h9) rfl dX6_putAside_10 ?_
        refine lv_iload_n hx hb dX6_putAside_13 rfl (lv_at hl 1 rfl) ?_
        refine lv_aload_n hx hb dX6_putAside_14 rfl (lv_at hl 0 rfl) ?_
        refine va_get (ci := 6) (C := RX6) (T := TX6) (N := 18) hx hb hts hiX6 hown hK hP 0 rfl rfl 0 (by decide) (hts (.fieldLink RX6 7 "RiddleTradeModel" "s" "[I") (List.mem_of_getElem? (i := 2) rfl)) (fun _ h9 => h9) rfl dX6_putAside_15 ?_
        refine lv_iload_n hx hb dX6_putAside_18 rfl (lv_at hl 1 rfl) ?_
        refine k_iald hx hb hK hP 1 0 rfl rfl h dX6_putAside_19 (fun v2 h => ?_)
        refine k_iast hx hb hK hP hD hS 2 0 rfl rfl h dX6_putAside_20 (fun m_aside_3 H locs hP hD hS h => ?_)
        have hP : va_P D vwCl (w_X6_putAside cI cC h0 h_s h_aside h_past h_snapshot h_text m_s m_aside_3 m_pasts m_isKept m_length m_hasStop m_stopAt m_stopWhy m_spot m_isWrong m_kind m_first m_second m_third m_fourth) H := hP
        have hD : va_D A (w_X6_putAside cI cC h0 h_s h_aside h_past h_snapshot h_text m_s m_aside_3 m_pasts m_isKept m_length m_hasStop m_stopAt m_stopWhy m_spot m_isWrong m_kind m_first m_second m_third m_fourth) := hD
        refine lv_iinc (v := (x1 + 1)) (lv' := [(1, .int (x1 + 1)), (0, .ref h0)]) hx hb dX6_putAside_21 hl (k := 1) rfl rfl (by decide) rfl (fun ls hl => ?_)
        refine lv_goto (tgt := 2) hx hb dX6_putAside_24 (by decide) ?_
        exact ih (x1 + 1) m_aside_3 _ _ hP hD hS _ (lv_sub hl [1, 0] rfl) h
  dsimp only [d_X6_putAside] at h
  refine lv_iconst (v := 0) hx hb dX6_putAside_0 (by decide) ?_
  refine lv_istore_n (lv' := [(1, .int 0), (0, .ref h0)]) hx hb dX6_putAside_1 rfl hl (by decide) rfl (fun ls hl => ?_)
  exact hL2   fuel 0 m_aside _ _ hP hD hS _ (lv_sub hl [1, 0] rfl) h
abbrev w_X6_putBack (cI cC : ClassId) (h0 h_s h_aside h_past h_snapshot h_text : Nat) (m_s : Nat → Int32) (m_aside : Nat → Int32) (m_pasts : Int32) (m_isKept : Int32) (m_length : Int32) (m_hasStop : Int32) (m_stopAt : Int32) (m_stopWhy : Int32) (m_spot : Int32) (m_isWrong : Int32) (m_kind : Int32) (m_first : Int32) (m_second : Int32) (m_third : Int32) (m_fourth : Int32) : va_W := [(h0, .inr (6, [.ref h_s, .ref h_aside, .ref h_past, .int m_pasts, .ref h_snapshot, .int m_isKept, .ref h_text, .int m_length, .int m_hasStop, .int m_stopAt, .int m_stopWhy, .int m_spot, .int m_isWrong, .int m_kind, .int m_first, .int m_second, .int m_third, .int m_fourth])), (h_s, .inl (cI, 490, .inl m_s)), (h_aside, .inl (cI, 490, .inl m_aside))]
def lp_X6_putBack_2 (m_aside : Nat → Int32) : Nat → Int32 → (Nat → Int32) → Option ((Nat → Int32))
  | 0 => fun _ _ => none
  | k + 1 => fun x1 m_s =>
    if 490 ≤ x1 then (some m_s)
    else (ob1 (rd 490 m_aside x1) fun v2 =>
    ob1 (wr 490 m_s x1 v2) fun m_s_3 =>
    (lp_X6_putBack_2  m_aside k) (x1 + 1) m_s_3)
def d_X6_putBack (m_s : Nat → Int32) (m_aside : Nat → Int32) : Option ((Nat → Int32)) :=
    lp_X6_putBack_2  m_aside fuel 0 m_s
set_option maxHeartbeats 4000000 in
set_option maxRecDepth 100000 in
theorem c_X6_putBack (l : Launch) (D : va_G) (cI cC cE : ClassId) (h0 h_s h_aside h_past h_snapshot h_text : Nat) (sz : Nat) (m_s : Nat → Int32) (m_aside : Nat → Int32) (m_pasts : Int32) (m_isKept : Int32) (m_length : Int32) (m_hasStop : Int32) (m_stopAt : Int32) (m_stopWhy : Int32) (m_spot : Int32) (m_isWrong : Int32) (m_kind : Int32) (m_first : Int32) (m_second : Int32) (m_third : Int32) (m_fourth : Int32) (o_m_s : Nat → Int32) (h : d_X6_putBack m_s m_aside = some o_m_s) : Met l yX6_putBack wsX6_putBack ({ frames := 0, cells := 0, slots := 0, locals := 0 } : Room) (kP D (kT cI cC cE) [.ref h0] (w_X6_putBack cI cC h0 h_s h_aside h_past h_snapshot h_text m_s m_aside m_pasts m_isKept m_length m_hasStop m_stopAt m_stopWhy m_spot m_isWrong m_kind m_first m_second m_third m_fourth) sz) (kQv D (kT cI cC cE) (w_X6_putBack cI cC h0 h_s h_aside h_past h_snapshot h_text m_s m_aside m_pasts m_isKept m_length m_hasStop m_stopAt m_stopWhy m_spot m_isWrong m_kind m_first m_second m_third m_fourth) (w_X6_putBack cI cC h0 h_s h_aside h_past h_snapshot h_text o_m_s m_aside m_pasts m_isKept m_length m_hasStop m_stopAt m_stopWhy m_spot m_isWrong m_kind m_first m_second m_third m_fourth) sz) 0 0 (va_A (w_X6_putBack cI cC h0 h_s h_aside h_past h_snapshot h_text m_s m_aside m_pasts m_isKept m_length m_hasStop m_stopAt m_stopWhy m_spot m_isWrong m_kind m_first m_second m_third m_fourth) sz) := by
  refine kMetV (cc := cX6_putBack) (maxL := 2) (own := RX6) (by decide) rfl (Nat.le_of_ble_eq_true rfl) rfl ?_
  intro p e s m below meth c A Q hx hb hml hown hts hP hK hD hA hS hname fin ls hl
  have hl : lv_has ls 2 [(0, .ref h0)] := hl
  have hiX6 : ∀ w ∈ u_ws RX6 TX6 18, w ∈ wsX6_putBack := by decide +kernel
  have hL2 : ∀ (k : Nat), ∀ (x1 : Int32) (m_s : Nat → Int32) (H : Heap) (locs : List Loc), va_P D vwCl (w_X6_putBack cI cC h0 h_s h_aside h_past h_snapshot h_text m_s m_aside m_pasts m_isKept m_length m_hasStop m_stopAt m_stopWhy m_spot m_isWrong m_kind m_first m_second m_third m_fourth) H → va_D A (w_X6_putBack cI cC h0 h_s h_aside h_past h_snapshot h_text m_s m_aside m_pasts m_isKept m_length m_hasStop m_stopAt m_stopWhy m_spot m_isWrong m_kind m_first m_second m_third m_fourth) → va_S A s.heap H locs → ∀ (ls : Array Slot), lv_has ls 2 [(0, .ref h0), (1, .int x1)] → lp_X6_putBack_2  m_aside k x1 m_s = some o_m_s → W p l e ({ frames := 0, cells := 0, slots := 0, locals := 0 } : Room) s m [.ref h0].toArray below meth c H locs 0 0 Q (F0 m 2 ls []) := by
    intro k
    induction k with
    | zero =>
      intro x1 m_s H locs hP hD hS ls hl h
      exact k_none h
    | succ k ih =>
      intro x1 m_s H locs hP hD hS ls hl h
      dsimp only [lp_X6_putBack_2] at h
      refine lv_iload_n hx hb dX6_putBack_2 rfl (lv_at hl 1 rfl) ?_
      refine lv_sipush (v := 490) hx hb dX6_putBack_3 (by decide) ?_
      refine lv_icmp_ge (tgt := 27) hx hb dX6_putBack_6 (by decide) (fun c1 => ?_) (fun c1 => ?_)
      · have h := (k_iB h).1 c1
        obtain rfl := Option.some.inj h
        exact fin _ _ _ _ dX6_putBack_27 hP hD hS
      · have h := (k_iB h).2 c1
        refine lv_aload_n hx hb dX6_putBack_9 rfl (lv_at hl 0 rfl) ?_
        refine va_get (ci := 6) (C := RX6) (T := TX6) (N := 18) hx hb hts hiX6 hown hK hP 0 rfl rfl 0 (by decide) (hts (.fieldLink RX6 7 "RiddleTradeModel" "s" "[I") (List.mem_of_getElem? (i := 1) rfl)) (fun _ h9 => h9) rfl dX6_putBack_10 ?_
        refine lv_iload_n hx hb dX6_putBack_13 rfl (lv_at hl 1 rfl) ?_
        refine lv_aload_n hx hb dX6_putBack_14 rfl (lv_at hl 0 rfl) ?_
        refine va_get (ci := 6) (C := RX6) (T := TX6) (N := 18) hx hb hts hiX6 hown hK hP 0 rfl rfl 1 (by decide) (hts (.fieldLink RX6 13 "RiddleTradeModel" "aside" "[I") (List.mem_of_getElem? (i := 2) rfl)) (fun _ h9 => h9) rfl dX6_putBack_15 ?_
        refine lv_iload_n hx hb dX6_putBack_18 rfl (lv_at hl 1 rfl) ?_
        refine k_iald hx hb hK hP 2 0 rfl rfl h dX6_putBack_19 (fun v2 h => ?_)
        refine k_iast hx hb hK hP hD hS 1 0 rfl rfl h dX6_putBack_20 (fun m_s_3 H locs hP hD hS h => ?_)
        have hP : va_P D vwCl (w_X6_putBack cI cC h0 h_s h_aside h_past h_snapshot h_text m_s_3 m_aside m_pasts m_isKept m_length m_hasStop m_stopAt m_stopWhy m_spot m_isWrong m_kind m_first m_second m_third m_fourth) H := hP
        have hD : va_D A (w_X6_putBack cI cC h0 h_s h_aside h_past h_snapshot h_text m_s_3 m_aside m_pasts m_isKept m_length m_hasStop m_stopAt m_stopWhy m_spot m_isWrong m_kind m_first m_second m_third m_fourth) := hD
        refine lv_iinc (v := (x1 + 1)) (lv' := [(1, .int (x1 + 1)), (0, .ref h0)]) hx hb dX6_putBack_21 hl (k := 1) rfl rfl (by decide) rfl (fun ls hl => ?_)
        refine lv_goto (tgt := 2) hx hb dX6_putBack_24 (by decide) ?_
        exact ih (x1 + 1) m_s_3 _ _ hP hD hS _ (lv_sub hl [1, 0] rfl) h
  dsimp only [d_X6_putBack] at h
  refine lv_iconst (v := 0) hx hb dX6_putBack_0 (by decide) ?_
  refine lv_istore_n (lv' := [(1, .int 0), (0, .ref h0)]) hx hb dX6_putBack_1 rfl hl (by decide) rfl (fun ls hl => ?_)
  exact hL2   fuel 0 m_s _ _ hP hD hS _ (lv_sub hl [1, 0] rfl) h
abbrev w_X6_barAsk (cI cC : ClassId) (h0 h_s h_aside h_past h_snapshot h_text : Nat) (m_s : Nat → Int32) (m_pasts : Int32) (m_isKept : Int32) (m_length : Int32) (m_hasStop : Int32) (m_stopAt : Int32) (m_stopWhy : Int32) (m_spot : Int32) (m_isWrong : Int32) (m_kind : Int32) (m_first : Int32) (m_second : Int32) (m_third : Int32) (m_fourth : Int32) : va_W := [(h0, .inr (6, [.ref h_s, .ref h_aside, .ref h_past, .int m_pasts, .ref h_snapshot, .int m_isKept, .ref h_text, .int m_length, .int m_hasStop, .int m_stopAt, .int m_stopWhy, .int m_spot, .int m_isWrong, .int m_kind, .int m_first, .int m_second, .int m_third, .int m_fourth])), (h_s, .inl (cI, 490, .inl m_s))]
def d_X6_barAsk (p1 : Int32) (p2 : Int32) (p3 : Int32) (m_s : Nat → Int32) : Option (Int32) :=
    if (d_X6_isTrader p1) = 0 then (some (-1))
    else (if (d_X6_in p2 1 50) = 0 then (some (-2))
    else (if (d_X6_in p3 0 99) = 0 then (some (-2))
    else (ob1 (rd 490 m_s 483) fun v4 =>
    if v4 = 20 then (some (-3))
    else (some 0))))
set_option maxHeartbeats 4000000 in
set_option maxRecDepth 100000 in
theorem c_X6_barAsk (l : Launch) (D : va_G) (cI cC cE : ClassId) (h0 h_s h_aside h_past h_snapshot h_text : Nat) (sz : Nat) (m_s : Nat → Int32) (m_pasts : Int32) (m_isKept : Int32) (m_length : Int32) (m_hasStop : Int32) (m_stopAt : Int32) (m_stopWhy : Int32) (m_spot : Int32) (m_isWrong : Int32) (m_kind : Int32) (m_first : Int32) (m_second : Int32) (m_third : Int32) (m_fourth : Int32) (p1 : Int32) (p2 : Int32) (p3 : Int32) (r0 : Int32) (h : d_X6_barAsk p1 p2 p3 m_s = some r0) : Met l yX6_barAsk wsX6_barAsk ({ frames := 2, cells := 0, slots := 0, locals := 42 } : Room) (kP D (kT cI cC cE) [.ref h0, .int p1, .int p2, .int p3] (w_X6_barAsk cI cC h0 h_s h_aside h_past h_snapshot h_text m_s m_pasts m_isKept m_length m_hasStop m_stopAt m_stopWhy m_spot m_isWrong m_kind m_first m_second m_third m_fourth) sz) (kQi D (kT cI cC cE) (w_X6_barAsk cI cC h0 h_s h_aside h_past h_snapshot h_text m_s m_pasts m_isKept m_length m_hasStop m_stopAt m_stopWhy m_spot m_isWrong m_kind m_first m_second m_third m_fourth) (w_X6_barAsk cI cC h0 h_s h_aside h_past h_snapshot h_text m_s m_pasts m_isKept m_length m_hasStop m_stopAt m_stopWhy m_spot m_isWrong m_kind m_first m_second m_third m_fourth) sz r0) 0 0 (va_A (w_X6_barAsk cI cC h0 h_s h_aside h_past h_snapshot h_text m_s m_pasts m_isKept m_length m_hasStop m_stopAt m_stopWhy m_spot m_isWrong m_kind m_first m_second m_third m_fourth) sz) := by
  refine kMetI (cc := cX6_barAsk) (maxL := 4) (own := RX6) (by decide) rfl (Nat.le_of_ble_eq_true rfl) rfl ?_
  intro p e s m below meth c A Q hx hb hml hown hts hP hK hD hA hS hname fin ls hl
  have hl : lv_has ls 4 [(0, .ref h0), (1, .int p1), (2, .int p2), (3, .int p3)] := hl
  have hiX6 : ∀ w ∈ u_ws RX6 TX6 18, w ∈ wsX6_barAsk := by decide +kernel
  dsimp only [d_X6_barAsk] at h
  refine lv_iload_n hx hb dX6_barAsk_0 rfl (lv_at hl 1 rfl) ?_
  refine kcSi (ws1 := (w_X6_barAsk cI cC h0 h_s h_aside h_past h_snapshot h_text m_s m_pasts m_isKept m_length m_hasStop m_stopAt m_stopWhy m_spot m_isWrong m_kind m_first m_second m_third m_fourth)) ⟨hx, hb, hml, hown, hts⟩ [] [0, 1] (c_X6_isTrader l D cI cC cE _ p1 (d_X6_isTrader p1) rfl) (va_cwS 1 hts gX6_barAsk_X6_isTrader rfl rfl rfl (by decide +kernel) ⟨Nat.le_of_ble_eq_true rfl, Nat.le_of_ble_eq_true rfl⟩) hK hP hD hS hA rfl rfl rfl rfl rfl rfl rfl hl.1 rfl (Nat.le_of_ble_eq_true rfl) dX6_barAsk_1 ⟨Nat.le_refl 0, Nat.le_refl 0⟩ (fun H locs hP hD hS => ?_)
  refine lv_if_ne (tgt := 11) hx hb dX6_barAsk_4 (by decide) (fun c1 => ?_) (fun c1 => ?_)
  · have h := (k_iB h).2 c1
    refine lv_iload_n hx hb dX6_barAsk_11 rfl (lv_at hl 2 rfl) ?_
    refine lv_iconst (v := 1) hx hb dX6_barAsk_12 (by decide) ?_
    refine lv_bipush (v := 50) hx hb dX6_barAsk_13 (by decide) ?_
    refine kcSi (ws1 := (w_X6_barAsk cI cC h0 h_s h_aside h_past h_snapshot h_text m_s m_pasts m_isKept m_length m_hasStop m_stopAt m_stopWhy m_spot m_isWrong m_kind m_first m_second m_third m_fourth)) ⟨hx, hb, hml, hown, hts⟩ [] [0, 1] (c_X6_in l D cI cC cE _ p2 1 50 (d_X6_in p2 1 50) rfl) (va_cwS 3 hts gX6_barAsk_X6_in rfl rfl rfl (by decide +kernel) ⟨Nat.le_of_ble_eq_true rfl, Nat.le_of_ble_eq_true rfl⟩) hK hP hD hS hA rfl rfl rfl rfl rfl rfl rfl hl.1 rfl (Nat.le_of_ble_eq_true rfl) dX6_barAsk_15 ⟨Nat.le_refl 0, Nat.le_refl 0⟩ (fun H locs hP hD hS => ?_)
    refine lv_if_eq (tgt := 31) hx hb dX6_barAsk_18 (by decide) (fun c2 => ?_) (fun c2 => ?_)
    · have h := (k_iB h).1 c2
      refine lv_bipush (v := (-2)) hx hb dX6_barAsk_31 (by decide) ?_
      refine lv_goto (tgt := 55) hx hb dX6_barAsk_33 (by decide) ?_
      obtain rfl := Option.some.inj h
      exact fin _ _ _ _ dX6_barAsk_55 hP hD hS
    · have h := (k_iB h).2 c2
      refine lv_iload_n hx hb dX6_barAsk_21 rfl (lv_at hl 3 rfl) ?_
      refine lv_iconst (v := 0) hx hb dX6_barAsk_22 (by decide) ?_
      refine lv_bipush (v := 99) hx hb dX6_barAsk_23 (by decide) ?_
      refine kcSi (ws1 := (w_X6_barAsk cI cC h0 h_s h_aside h_past h_snapshot h_text m_s m_pasts m_isKept m_length m_hasStop m_stopAt m_stopWhy m_spot m_isWrong m_kind m_first m_second m_third m_fourth)) ⟨hx, hb, hml, hown, hts⟩ [] [0, 1] (c_X6_in l D cI cC cE _ p3 0 99 (d_X6_in p3 0 99) rfl) (va_cwS 3 hts gX6_barAsk_X6_in rfl rfl rfl (by decide +kernel) ⟨Nat.le_of_ble_eq_true rfl, Nat.le_of_ble_eq_true rfl⟩) hK hP hD hS hA rfl rfl rfl rfl rfl rfl rfl hl.1 rfl (Nat.le_of_ble_eq_true rfl) dX6_barAsk_25 ⟨Nat.le_refl 0, Nat.le_refl 0⟩ (fun H locs hP hD hS => ?_)
      refine lv_if_ne (tgt := 36) hx hb dX6_barAsk_28 (by decide) (fun c3 => ?_) (fun c3 => ?_)
      · have h := (k_iB h).2 c3
        refine lv_aload_n hx hb dX6_barAsk_36 rfl (lv_at hl 0 rfl) ?_
        refine va_get (ci := 6) (C := RX6) (T := TX6) (N := 18) hx hb hts hiX6 hown hK hP 0 rfl rfl 0 (by decide) (hts (.fieldLink RX6 7 "RiddleTradeModel" "s" "[I") (List.mem_of_getElem? (i := 1) rfl)) (fun _ h9 => h9) rfl dX6_barAsk_37 ?_
        refine lv_sipush (v := 483) hx hb dX6_barAsk_40 (by decide) ?_
        refine k_iald hx hb hK hP 1 0 rfl rfl h dX6_barAsk_43 (fun v4 h => ?_)
        refine lv_bipush (v := 20) hx hb dX6_barAsk_44 (by decide) ?_
        refine lv_icmp_ne (tgt := 54) hx hb dX6_barAsk_46 (by decide) (fun c5 => ?_) (fun c5 => ?_)
        · have h := (k_iB h).2 c5
          refine lv_iconst (v := 0) hx hb dX6_barAsk_54 (by decide) ?_
          obtain rfl := Option.some.inj h
          exact fin _ _ _ _ dX6_barAsk_55 hP hD hS
        · have h := (k_iB h).1 c5
          refine lv_bipush (v := (-3)) hx hb dX6_barAsk_49 (by decide) ?_
          refine lv_goto (tgt := 55) hx hb dX6_barAsk_51 (by decide) ?_
          obtain rfl := Option.some.inj h
          exact fin _ _ _ _ dX6_barAsk_55 hP hD hS
      · have h := (k_iB h).1 c3
        refine lv_bipush (v := (-2)) hx hb dX6_barAsk_31 (by decide) ?_
        refine lv_goto (tgt := 55) hx hb dX6_barAsk_33 (by decide) ?_
        obtain rfl := Option.some.inj h
        exact fin _ _ _ _ dX6_barAsk_55 hP hD hS
  · have h := (k_iB h).1 c1
    refine lv_iconst (v := (-1)) hx hb dX6_barAsk_7 (by decide) ?_
    refine lv_goto (tgt := 55) hx hb dX6_barAsk_8 (by decide) ?_
    obtain rfl := Option.some.inj h
    exact fin _ _ _ _ dX6_barAsk_55 hP hD hS
abbrev w_X6_asks (cI cC : ClassId) (h0 h_s h_aside h_past h_snapshot h_text : Nat) (m_s : Nat → Int32) (m_pasts : Int32) (m_isKept : Int32) (m_length : Int32) (m_hasStop : Int32) (m_stopAt : Int32) (m_stopWhy : Int32) (m_spot : Int32) (m_isWrong : Int32) (m_kind : Int32) (m_first : Int32) (m_second : Int32) (m_third : Int32) (m_fourth : Int32) : va_W := [(h0, .inr (6, [.ref h_s, .ref h_aside, .ref h_past, .int m_pasts, .ref h_snapshot, .int m_isKept, .ref h_text, .int m_length, .int m_hasStop, .int m_stopAt, .int m_stopWhy, .int m_spot, .int m_isWrong, .int m_kind, .int m_first, .int m_second, .int m_third, .int m_fourth])), (h_s, .inl (cI, 490, .inl m_s))]
def d_X6_asks (p1 : Int32) (p2 : Int32) (p3 : Int32) (m_s : Nat → Int32) : Option (Int32 × (Nat → Int32)) :=
    ob1 (rd 490 m_s 483) fun v1 =>
    ob1 (wr 490 m_s (d_X6_ofR v1 0) p1) fun m_s_2 =>
    ob1 (wr 490 m_s_2 (d_X6_ofR v1 1) p2) fun m_s_3 =>
    ob1 (wr 490 m_s_3 (d_X6_ofR v1 2) p3) fun m_s_4 =>
    ob1 (wr 490 m_s_4 (d_X6_ofR v1 3) 0) fun m_s_5 =>
    ob1 (wr 490 m_s_5 (d_X6_ofR v1 4) 0) fun m_s_6 =>
    ob1 (rd 490 m_s_6 483) fun v7 =>
    ob1 (wr 490 m_s_6 483 (v7 + 1)) fun m_s_8 =>
    some (v1, m_s_8)
set_option maxHeartbeats 4000000 in
set_option maxRecDepth 100000 in
theorem c_X6_asks (l : Launch) (D : va_G) (cI cC cE : ClassId) (h0 h_s h_aside h_past h_snapshot h_text : Nat) (sz : Nat) (m_s : Nat → Int32) (m_pasts : Int32) (m_isKept : Int32) (m_length : Int32) (m_hasStop : Int32) (m_stopAt : Int32) (m_stopWhy : Int32) (m_spot : Int32) (m_isWrong : Int32) (m_kind : Int32) (m_first : Int32) (m_second : Int32) (m_third : Int32) (m_fourth : Int32) (p1 : Int32) (p2 : Int32) (p3 : Int32) (r0 : Int32) (o_m_s : Nat → Int32) (h : d_X6_asks p1 p2 p3 m_s = some (r0, o_m_s)) : Met l yX6_asks wsX6_asks ({ frames := 1, cells := 0, slots := 0, locals := 21 } : Room) (kP D (kT cI cC cE) [.ref h0, .int p1, .int p2, .int p3] (w_X6_asks cI cC h0 h_s h_aside h_past h_snapshot h_text m_s m_pasts m_isKept m_length m_hasStop m_stopAt m_stopWhy m_spot m_isWrong m_kind m_first m_second m_third m_fourth) sz) (kQi D (kT cI cC cE) (w_X6_asks cI cC h0 h_s h_aside h_past h_snapshot h_text m_s m_pasts m_isKept m_length m_hasStop m_stopAt m_stopWhy m_spot m_isWrong m_kind m_first m_second m_third m_fourth) (w_X6_asks cI cC h0 h_s h_aside h_past h_snapshot h_text o_m_s m_pasts m_isKept m_length m_hasStop m_stopAt m_stopWhy m_spot m_isWrong m_kind m_first m_second m_third m_fourth) sz r0) 0 0 (va_A (w_X6_asks cI cC h0 h_s h_aside h_past h_snapshot h_text m_s m_pasts m_isKept m_length m_hasStop m_stopAt m_stopWhy m_spot m_isWrong m_kind m_first m_second m_third m_fourth) sz) := by
  refine kMetI (cc := cX6_asks) (maxL := 5) (own := RX6) (by decide) rfl (Nat.le_of_ble_eq_true rfl) rfl ?_
  intro p e s m below meth c A Q hx hb hml hown hts hP hK hD hA hS hname fin ls hl
  have hl : lv_has ls 5 [(0, .ref h0), (1, .int p1), (2, .int p2), (3, .int p3)] := hl
  have hiX6 : ∀ w ∈ u_ws RX6 TX6 18, w ∈ wsX6_asks := by decide +kernel
  dsimp only [d_X6_asks] at h
  refine lv_aload_n hx hb dX6_asks_0 rfl (lv_at hl 0 rfl) ?_
  refine va_get (ci := 6) (C := RX6) (T := TX6) (N := 18) hx hb hts hiX6 hown hK hP 0 rfl rfl 0 (by decide) (hts (.fieldLink RX6 7 "RiddleTradeModel" "s" "[I") (List.mem_of_getElem? (i := 1) rfl)) (fun _ h9 => h9) rfl dX6_asks_1 ?_
  refine lv_sipush (v := 483) hx hb dX6_asks_4 (by decide) ?_
  refine k_iald hx hb hK hP 1 0 rfl rfl h dX6_asks_7 (fun v1 h => ?_)
  refine lv_istore (lv' := [(4, .int v1), (0, .ref h0), (1, .int p1), (2, .int p2), (3, .int p3)]) hx hb dX6_asks_8 hl (by decide) rfl (fun ls hl => ?_)
  refine lv_aload_n hx hb dX6_asks_10 rfl (lv_at hl 1 rfl) ?_
  refine va_get (ci := 6) (C := RX6) (T := TX6) (N := 18) hx hb hts hiX6 hown hK hP 0 rfl rfl 0 (by decide) (hts (.fieldLink RX6 7 "RiddleTradeModel" "s" "[I") (List.mem_of_getElem? (i := 1) rfl)) (fun _ h9 => h9) rfl dX6_asks_11 ?_
  refine lv_iload hx hb dX6_asks_14 (lv_at hl 0 rfl) ?_
  refine lv_iconst (v := 0) hx hb dX6_asks_16 (by decide) ?_
  refine kcSi (ws1 := (w_X6_asks cI cC h0 h_s h_aside h_past h_snapshot h_text m_s m_pasts m_isKept m_length m_hasStop m_stopAt m_stopWhy m_spot m_isWrong m_kind m_first m_second m_third m_fourth)) ⟨hx, hb, hml, hown, hts⟩ [] [0, 1] (c_X6_ofR l D cI cC cE _ v1 0 (d_X6_ofR v1 0) rfl) (va_cwS 2 hts gX6_asks_X6_ofR rfl rfl rfl (by decide +kernel) ⟨Nat.le_of_ble_eq_true rfl, Nat.le_of_ble_eq_true rfl⟩) hK hP hD hS hA rfl rfl rfl rfl rfl rfl rfl hl.1 rfl (Nat.le_of_ble_eq_true rfl) dX6_asks_17 ⟨Nat.le_refl 0, Nat.le_refl 0⟩ (fun H locs hP hD hS => ?_)
  refine lv_iload_n hx hb dX6_asks_20 rfl (lv_at hl 2 rfl) ?_
  refine k_iast hx hb hK hP hD hS 1 0 rfl rfl h dX6_asks_21 (fun m_s_2 H locs hP hD hS h => ?_)
  have hP : va_P D vwCl (w_X6_asks cI cC h0 h_s h_aside h_past h_snapshot h_text m_s_2 m_pasts m_isKept m_length m_hasStop m_stopAt m_stopWhy m_spot m_isWrong m_kind m_first m_second m_third m_fourth) H := hP
  have hD : va_D A (w_X6_asks cI cC h0 h_s h_aside h_past h_snapshot h_text m_s_2 m_pasts m_isKept m_length m_hasStop m_stopAt m_stopWhy m_spot m_isWrong m_kind m_first m_second m_third m_fourth) := hD
  refine lv_aload_n hx hb dX6_asks_22 rfl (lv_at hl 1 rfl) ?_
  refine va_get (ci := 6) (C := RX6) (T := TX6) (N := 18) hx hb hts hiX6 hown hK hP 0 rfl rfl 0 (by decide) (hts (.fieldLink RX6 7 "RiddleTradeModel" "s" "[I") (List.mem_of_getElem? (i := 1) rfl)) (fun _ h9 => h9) rfl dX6_asks_23 ?_
  refine lv_iload hx hb dX6_asks_26 (lv_at hl 0 rfl) ?_
  refine lv_iconst (v := 1) hx hb dX6_asks_28 (by decide) ?_
  refine kcSi (ws1 := (w_X6_asks cI cC h0 h_s h_aside h_past h_snapshot h_text m_s_2 m_pasts m_isKept m_length m_hasStop m_stopAt m_stopWhy m_spot m_isWrong m_kind m_first m_second m_third m_fourth)) ⟨hx, hb, hml, hown, hts⟩ [] [0, 1] (c_X6_ofR l D cI cC cE _ v1 1 (d_X6_ofR v1 1) rfl) (va_cwS 2 hts gX6_asks_X6_ofR rfl rfl rfl (by decide +kernel) ⟨Nat.le_of_ble_eq_true rfl, Nat.le_of_ble_eq_true rfl⟩) hK hP hD hS hA rfl rfl rfl rfl rfl rfl rfl hl.1 rfl (Nat.le_of_ble_eq_true rfl) dX6_asks_29 ⟨Nat.le_refl 0, Nat.le_refl 0⟩ (fun H locs hP hD hS => ?_)
  refine lv_iload_n hx hb dX6_asks_32 rfl (lv_at hl 3 rfl) ?_
  refine k_iast hx hb hK hP hD hS 1 0 rfl rfl h dX6_asks_33 (fun m_s_3 H locs hP hD hS h => ?_)
  have hP : va_P D vwCl (w_X6_asks cI cC h0 h_s h_aside h_past h_snapshot h_text m_s_3 m_pasts m_isKept m_length m_hasStop m_stopAt m_stopWhy m_spot m_isWrong m_kind m_first m_second m_third m_fourth) H := hP
  have hD : va_D A (w_X6_asks cI cC h0 h_s h_aside h_past h_snapshot h_text m_s_3 m_pasts m_isKept m_length m_hasStop m_stopAt m_stopWhy m_spot m_isWrong m_kind m_first m_second m_third m_fourth) := hD
  refine lv_aload_n hx hb dX6_asks_34 rfl (lv_at hl 1 rfl) ?_
  refine va_get (ci := 6) (C := RX6) (T := TX6) (N := 18) hx hb hts hiX6 hown hK hP 0 rfl rfl 0 (by decide) (hts (.fieldLink RX6 7 "RiddleTradeModel" "s" "[I") (List.mem_of_getElem? (i := 1) rfl)) (fun _ h9 => h9) rfl dX6_asks_35 ?_
  refine lv_iload hx hb dX6_asks_38 (lv_at hl 0 rfl) ?_
  refine lv_iconst (v := 2) hx hb dX6_asks_40 (by decide) ?_
  refine kcSi (ws1 := (w_X6_asks cI cC h0 h_s h_aside h_past h_snapshot h_text m_s_3 m_pasts m_isKept m_length m_hasStop m_stopAt m_stopWhy m_spot m_isWrong m_kind m_first m_second m_third m_fourth)) ⟨hx, hb, hml, hown, hts⟩ [] [0, 1] (c_X6_ofR l D cI cC cE _ v1 2 (d_X6_ofR v1 2) rfl) (va_cwS 2 hts gX6_asks_X6_ofR rfl rfl rfl (by decide +kernel) ⟨Nat.le_of_ble_eq_true rfl, Nat.le_of_ble_eq_true rfl⟩) hK hP hD hS hA rfl rfl rfl rfl rfl rfl rfl hl.1 rfl (Nat.le_of_ble_eq_true rfl) dX6_asks_41 ⟨Nat.le_refl 0, Nat.le_refl 0⟩ (fun H locs hP hD hS => ?_)
  refine lv_iload_n hx hb dX6_asks_44 rfl (lv_at hl 4 rfl) ?_
  refine k_iast hx hb hK hP hD hS 1 0 rfl rfl h dX6_asks_45 (fun m_s_4 H locs hP hD hS h => ?_)
  have hP : va_P D vwCl (w_X6_asks cI cC h0 h_s h_aside h_past h_snapshot h_text m_s_4 m_pasts m_isKept m_length m_hasStop m_stopAt m_stopWhy m_spot m_isWrong m_kind m_first m_second m_third m_fourth) H := hP
  have hD : va_D A (w_X6_asks cI cC h0 h_s h_aside h_past h_snapshot h_text m_s_4 m_pasts m_isKept m_length m_hasStop m_stopAt m_stopWhy m_spot m_isWrong m_kind m_first m_second m_third m_fourth) := hD
  refine lv_aload_n hx hb dX6_asks_46 rfl (lv_at hl 1 rfl) ?_
  refine va_get (ci := 6) (C := RX6) (T := TX6) (N := 18) hx hb hts hiX6 hown hK hP 0 rfl rfl 0 (by decide) (hts (.fieldLink RX6 7 "RiddleTradeModel" "s" "[I") (List.mem_of_getElem? (i := 1) rfl)) (fun _ h9 => h9) rfl dX6_asks_47 ?_
  refine lv_iload hx hb dX6_asks_50 (lv_at hl 0 rfl) ?_
  refine lv_iconst (v := 3) hx hb dX6_asks_52 (by decide) ?_
  refine kcSi (ws1 := (w_X6_asks cI cC h0 h_s h_aside h_past h_snapshot h_text m_s_4 m_pasts m_isKept m_length m_hasStop m_stopAt m_stopWhy m_spot m_isWrong m_kind m_first m_second m_third m_fourth)) ⟨hx, hb, hml, hown, hts⟩ [] [0, 1] (c_X6_ofR l D cI cC cE _ v1 3 (d_X6_ofR v1 3) rfl) (va_cwS 2 hts gX6_asks_X6_ofR rfl rfl rfl (by decide +kernel) ⟨Nat.le_of_ble_eq_true rfl, Nat.le_of_ble_eq_true rfl⟩) hK hP hD hS hA rfl rfl rfl rfl rfl rfl rfl hl.1 rfl (Nat.le_of_ble_eq_true rfl) dX6_asks_53 ⟨Nat.le_refl 0, Nat.le_refl 0⟩ (fun H locs hP hD hS => ?_)
  refine lv_iconst (v := 0) hx hb dX6_asks_56 (by decide) ?_
  refine k_iast hx hb hK hP hD hS 1 0 rfl rfl h dX6_asks_57 (fun m_s_5 H locs hP hD hS h => ?_)
  have hP : va_P D vwCl (w_X6_asks cI cC h0 h_s h_aside h_past h_snapshot h_text m_s_5 m_pasts m_isKept m_length m_hasStop m_stopAt m_stopWhy m_spot m_isWrong m_kind m_first m_second m_third m_fourth) H := hP
  have hD : va_D A (w_X6_asks cI cC h0 h_s h_aside h_past h_snapshot h_text m_s_5 m_pasts m_isKept m_length m_hasStop m_stopAt m_stopWhy m_spot m_isWrong m_kind m_first m_second m_third m_fourth) := hD
  refine lv_aload_n hx hb dX6_asks_58 rfl (lv_at hl 1 rfl) ?_
  refine va_get (ci := 6) (C := RX6) (T := TX6) (N := 18) hx hb hts hiX6 hown hK hP 0 rfl rfl 0 (by decide) (hts (.fieldLink RX6 7 "RiddleTradeModel" "s" "[I") (List.mem_of_getElem? (i := 1) rfl)) (fun _ h9 => h9) rfl dX6_asks_59 ?_
  refine lv_iload hx hb dX6_asks_62 (lv_at hl 0 rfl) ?_
  refine lv_iconst (v := 4) hx hb dX6_asks_64 (by decide) ?_
  refine kcSi (ws1 := (w_X6_asks cI cC h0 h_s h_aside h_past h_snapshot h_text m_s_5 m_pasts m_isKept m_length m_hasStop m_stopAt m_stopWhy m_spot m_isWrong m_kind m_first m_second m_third m_fourth)) ⟨hx, hb, hml, hown, hts⟩ [] [0, 1] (c_X6_ofR l D cI cC cE _ v1 4 (d_X6_ofR v1 4) rfl) (va_cwS 2 hts gX6_asks_X6_ofR rfl rfl rfl (by decide +kernel) ⟨Nat.le_of_ble_eq_true rfl, Nat.le_of_ble_eq_true rfl⟩) hK hP hD hS hA rfl rfl rfl rfl rfl rfl rfl hl.1 rfl (Nat.le_of_ble_eq_true rfl) dX6_asks_65 ⟨Nat.le_refl 0, Nat.le_refl 0⟩ (fun H locs hP hD hS => ?_)
  refine lv_iconst (v := 0) hx hb dX6_asks_68 (by decide) ?_
  refine k_iast hx hb hK hP hD hS 1 0 rfl rfl h dX6_asks_69 (fun m_s_6 H locs hP hD hS h => ?_)
  have hP : va_P D vwCl (w_X6_asks cI cC h0 h_s h_aside h_past h_snapshot h_text m_s_6 m_pasts m_isKept m_length m_hasStop m_stopAt m_stopWhy m_spot m_isWrong m_kind m_first m_second m_third m_fourth) H := hP
  have hD : va_D A (w_X6_asks cI cC h0 h_s h_aside h_past h_snapshot h_text m_s_6 m_pasts m_isKept m_length m_hasStop m_stopAt m_stopWhy m_spot m_isWrong m_kind m_first m_second m_third m_fourth) := hD
  refine lv_aload_n hx hb dX6_asks_70 rfl (lv_at hl 1 rfl) ?_
  refine va_get (ci := 6) (C := RX6) (T := TX6) (N := 18) hx hb hts hiX6 hown hK hP 0 rfl rfl 0 (by decide) (hts (.fieldLink RX6 7 "RiddleTradeModel" "s" "[I") (List.mem_of_getElem? (i := 1) rfl)) (fun _ h9 => h9) rfl dX6_asks_71 ?_
  refine lv_sipush (v := 483) hx hb dX6_asks_74 (by decide) ?_
  refine lv_dup2_11 hx hb dX6_asks_77 rfl rfl ?_
  refine k_iald hx hb hK hP 1 0 rfl rfl h dX6_asks_78 (fun v7 h => ?_)
  refine lv_iconst (v := 1) hx hb dX6_asks_79 (by decide) ?_
  refine lv_iadd hx hb dX6_asks_80 ?_
  refine k_iast hx hb hK hP hD hS 1 0 rfl rfl h dX6_asks_81 (fun m_s_8 H locs hP hD hS h => ?_)
  have hP : va_P D vwCl (w_X6_asks cI cC h0 h_s h_aside h_past h_snapshot h_text m_s_8 m_pasts m_isKept m_length m_hasStop m_stopAt m_stopWhy m_spot m_isWrong m_kind m_first m_second m_third m_fourth) H := hP
  have hD : va_D A (w_X6_asks cI cC h0 h_s h_aside h_past h_snapshot h_text m_s_8 m_pasts m_isKept m_length m_hasStop m_stopAt m_stopWhy m_spot m_isWrong m_kind m_first m_second m_third m_fourth) := hD
  refine lv_iload hx hb dX6_asks_82 (lv_at hl 0 rfl) ?_
  obtain ⟨rfl, rfl⟩ := inj2 (Option.some.inj h)
  exact fin _ _ _ _ dX6_asks_84 hP hD hS
abbrev w_X6_ask (cI cC : ClassId) (h0 h_s h_aside h_past h_snapshot h_text : Nat) (m_s : Nat → Int32) (m_past : Nat → Int32) (m_pasts : Int32) (m_isKept : Int32) (m_length : Int32) (m_hasStop : Int32) (m_stopAt : Int32) (m_stopWhy : Int32) (m_spot : Int32) (m_isWrong : Int32) (m_kind : Int32) (m_first : Int32) (m_second : Int32) (m_third : Int32) (m_fourth : Int32) : va_W := [(h0, .inr (6, [.ref h_s, .ref h_aside, .ref h_past, .int m_pasts, .ref h_snapshot, .int m_isKept, .ref h_text, .int m_length, .int m_hasStop, .int m_stopAt, .int m_stopWhy, .int m_spot, .int m_isWrong, .int m_kind, .int m_first, .int m_second, .int m_third, .int m_fourth])), (h_s, .inl (cI, 490, .inl m_s)), (h_past, .inl (cI, 1960, .inl m_past))]
def d_X6_ask (p1 : Int32) (p2 : Int32) (p3 : Int32) (m_s : Nat → Int32) (m_past : Nat → Int32) (m_pasts : Int32) : Option (Int32 × (Nat → Int32) × (Nat → Int32) × Int32) :=
    ob1 (d_X6_barAsk p1 p2 p3 m_s) fun r1 =>
    if 0 ≤ r1 then (ob2 (d_X6_records m_s m_past m_pasts) fun m_past_4 m_pasts_5 =>
    ob2 (d_X6_asks p1 p2 p3 m_s) fun r7 m_s_8 =>
    some (r7, m_s_8, m_past_4, m_pasts_5))
    else (some (r1, m_s, m_past, m_pasts))
set_option maxHeartbeats 4000000 in
set_option maxRecDepth 100000 in
theorem c_X6_ask (l : Launch) (D : va_G) (cI cC cE : ClassId) (h0 h_s h_aside h_past h_snapshot h_text : Nat) (sz : Nat) (m_s : Nat → Int32) (m_past : Nat → Int32) (m_pasts : Int32) (m_isKept : Int32) (m_length : Int32) (m_hasStop : Int32) (m_stopAt : Int32) (m_stopWhy : Int32) (m_spot : Int32) (m_isWrong : Int32) (m_kind : Int32) (m_first : Int32) (m_second : Int32) (m_third : Int32) (m_fourth : Int32) (p1 : Int32) (p2 : Int32) (p3 : Int32) (r0 : Int32) (o_m_s : Nat → Int32) (o_m_past : Nat → Int32) (o_m_pasts : Int32) (h : d_X6_ask p1 p2 p3 m_s m_past m_pasts = some (r0, o_m_s, o_m_past, o_m_pasts)) : Met l yX6_ask wsX6_ask ({ frames := 3, cells := 0, slots := 0, locals := 65 } : Room) (kP D (kT cI cC cE) [.ref h0, .int p1, .int p2, .int p3] (w_X6_ask cI cC h0 h_s h_aside h_past h_snapshot h_text m_s m_past m_pasts m_isKept m_length m_hasStop m_stopAt m_stopWhy m_spot m_isWrong m_kind m_first m_second m_third m_fourth) sz) (kQi D (kT cI cC cE) (w_X6_ask cI cC h0 h_s h_aside h_past h_snapshot h_text m_s m_past m_pasts m_isKept m_length m_hasStop m_stopAt m_stopWhy m_spot m_isWrong m_kind m_first m_second m_third m_fourth) (w_X6_ask cI cC h0 h_s h_aside h_past h_snapshot h_text o_m_s o_m_past o_m_pasts m_isKept m_length m_hasStop m_stopAt m_stopWhy m_spot m_isWrong m_kind m_first m_second m_third m_fourth) sz r0) 0 0 (va_A (w_X6_ask cI cC h0 h_s h_aside h_past h_snapshot h_text m_s m_past m_pasts m_isKept m_length m_hasStop m_stopAt m_stopWhy m_spot m_isWrong m_kind m_first m_second m_third m_fourth) sz) := by
  refine kMetI (cc := cX6_ask) (maxL := 5) (own := RX6) (by decide) rfl (Nat.le_of_ble_eq_true rfl) rfl ?_
  intro p e s m below meth c A Q hx hb hml hown hts hP hK hD hA hS hname fin ls hl
  have hl : lv_has ls 5 [(0, .ref h0), (1, .int p1), (2, .int p2), (3, .int p3)] := hl
  dsimp only [d_X6_ask] at h
  refine lv_aload_n hx hb dX6_ask_0 rfl (lv_at hl 0 rfl) ?_
  refine lv_iload_n hx hb dX6_ask_1 rfl (lv_at hl 1 rfl) ?_
  refine lv_iload_n hx hb dX6_ask_2 rfl (lv_at hl 2 rfl) ?_
  refine lv_iload_n hx hb dX6_ask_3 rfl (lv_at hl 3 rfl) ?_
  obtain ⟨r1, hu2, h⟩ := ob1_el h
  refine kcVi (ci := 6) (q := (RX6, TX6, 18)) (ws1 := (w_X6_ask cI cC h0 h_s h_aside h_past h_snapshot h_text m_s m_past m_pasts m_isKept m_length m_hasStop m_stopAt m_stopWhy m_spot m_isWrong m_kind m_first m_second m_third m_fourth)) ⟨hx, hb, hml, hown, hts⟩ [0, 1] [2] (c_X6_barAsk l D cI cC cE h0 h_s h_aside h_past h_snapshot h_text _ m_s m_pasts m_isKept m_length m_hasStop m_stopAt m_stopWhy m_spot m_isWrong m_kind m_first m_second m_third m_fourth p1 p2 p3 r1 hu2) (cwV 3 hts gX6_ask_X6_barAsk rfl rfl rfl (by decide +kernel) ⟨Nat.le_of_ble_eq_true rfl, Nat.le_of_ble_eq_true rfl⟩) hK hP hD hS hA rfl rfl rfl rfl rfl rfl rfl rfl rfl hl.1 rfl (Nat.le_of_ble_eq_true rfl) dX6_ask_4 ⟨Nat.le_refl 0, Nat.le_refl 0⟩ (fun H locs hP hD hS => ?_)
  refine lv_istore (lv' := [(4, .int r1), (0, .ref h0), (1, .int p1), (2, .int p2), (3, .int p3)]) hx hb dX6_ask_7 hl (by decide) rfl (fun ls hl => ?_)
  refine lv_iload hx hb dX6_ask_9 (lv_at hl 0 rfl) ?_
  refine lv_if_ge (tgt := 17) hx hb dX6_ask_11 (by decide) (fun c3 => ?_) (fun c3 => ?_)
  · have h := (k_iB h).1 c3
    refine lv_aload_n hx hb dX6_ask_17 rfl (lv_at hl 1 rfl) ?_
    obtain ⟨m_past_4, m_pasts_5, hu6, h⟩ := ob2_el h
    refine kcVv (ci := 6) (q := (RX6, TX6, 18)) (ws1 := (w_X6_ask cI cC h0 h_s h_aside h_past h_snapshot h_text m_s m_past_4 m_pasts_5 m_isKept m_length m_hasStop m_stopAt m_stopWhy m_spot m_isWrong m_kind m_first m_second m_third m_fourth)) ⟨hx, hb, hml, hown, hts⟩ [0, 1, 2] [] (c_X6_records l D cI cC cE h0 h_s h_aside h_past h_snapshot h_text _ m_s m_past m_pasts m_isKept m_length m_hasStop m_stopAt m_stopWhy m_spot m_isWrong m_kind m_first m_second m_third m_fourth m_past_4 m_pasts_5 hu6) (cwV 0 hts gX6_ask_X6_records rfl rfl rfl (by decide +kernel) ⟨Nat.le_of_ble_eq_true rfl, Nat.le_of_ble_eq_true rfl⟩) hK hP hD hS hA rfl rfl rfl rfl rfl rfl rfl rfl rfl hl.1 rfl (Nat.le_of_ble_eq_true rfl) dX6_ask_18 ⟨Nat.le_refl 0, Nat.le_refl 0⟩ (fun H locs hP hD hS => ?_)
    refine lv_aload_n hx hb dX6_ask_21 rfl (lv_at hl 1 rfl) ?_
    refine lv_iload_n hx hb dX6_ask_22 rfl (lv_at hl 2 rfl) ?_
    refine lv_iload_n hx hb dX6_ask_23 rfl (lv_at hl 3 rfl) ?_
    refine lv_iload_n hx hb dX6_ask_24 rfl (lv_at hl 4 rfl) ?_
    obtain ⟨r7, m_s_8, hu9, h⟩ := ob2_el h
    refine kcVi (ci := 6) (q := (RX6, TX6, 18)) (ws1 := (w_X6_ask cI cC h0 h_s h_aside h_past h_snapshot h_text m_s_8 m_past_4 m_pasts_5 m_isKept m_length m_hasStop m_stopAt m_stopWhy m_spot m_isWrong m_kind m_first m_second m_third m_fourth)) ⟨hx, hb, hml, hown, hts⟩ [0, 1] [2] (c_X6_asks l D cI cC cE h0 h_s h_aside h_past h_snapshot h_text _ m_s m_pasts_5 m_isKept m_length m_hasStop m_stopAt m_stopWhy m_spot m_isWrong m_kind m_first m_second m_third m_fourth p1 p2 p3 r7 m_s_8 hu9) (cwV 3 hts gX6_ask_X6_asks rfl rfl rfl (by decide +kernel) ⟨Nat.le_of_ble_eq_true rfl, Nat.le_of_ble_eq_true rfl⟩) hK hP hD hS hA rfl rfl rfl rfl rfl rfl rfl rfl rfl hl.1 rfl (Nat.le_of_ble_eq_true rfl) dX6_ask_25 ⟨Nat.le_refl 0, Nat.le_refl 0⟩ (fun H locs hP hD hS => ?_)
    obtain ⟨rfl, rfl, rfl, rfl⟩ := inj4 (Option.some.inj h)
    exact fin _ _ _ _ dX6_ask_28 hP hD hS
  · have h := (k_iB h).2 c3
    refine lv_iload hx hb dX6_ask_14 (lv_at hl 0 rfl) ?_
    obtain ⟨rfl, rfl, rfl, rfl⟩ := inj4 (Option.some.inj h)
    exact fin _ _ _ _ dX6_ask_16 hP hD hS
abbrev w_X6_waiting (cI cC : ClassId) (h0 h_s h_aside h_past h_snapshot h_text : Nat) (m_s : Nat → Int32) (m_pasts : Int32) (m_isKept : Int32) (m_length : Int32) (m_hasStop : Int32) (m_stopAt : Int32) (m_stopWhy : Int32) (m_spot : Int32) (m_isWrong : Int32) (m_kind : Int32) (m_first : Int32) (m_second : Int32) (m_third : Int32) (m_fourth : Int32) : va_W := [(h0, .inr (6, [.ref h_s, .ref h_aside, .ref h_past, .int m_pasts, .ref h_snapshot, .int m_isKept, .ref h_text, .int m_length, .int m_hasStop, .int m_stopAt, .int m_stopWhy, .int m_spot, .int m_isWrong, .int m_kind, .int m_first, .int m_second, .int m_third, .int m_fourth])), (h_s, .inl (cI, 490, .inl m_s))]
def lp_X6_waiting_4 (m_s : Nat → Int32) (p1 : Int32) : Nat → Int32 → Int32 → Option (Int32)
  | 0 => fun _ _ => none
  | k + 1 => fun x2 x3 =>
    ob1 (rd 490 m_s 476) fun v1 =>
    if v1 ≤ x3 then (some x2)
    else (ob1 (rd 490 m_s (436 + x3)) fun v3 =>
    ob1 (rd 490 m_s (d_X6_ofA v3 1)) fun v4 =>
    if v4 = p1 then ((lp_X6_waiting_4  m_s p1 k) (x2 + 1) (x3 + 1))
    else ((lp_X6_waiting_4  m_s p1 k) (x2 + 0) (x3 + 1)))
def d_X6_waiting (p1 : Int32) (m_s : Nat → Int32) : Option (Int32) :=
    lp_X6_waiting_4  m_s p1 fuel 0 0
set_option maxHeartbeats 4000000 in
set_option maxRecDepth 100000 in
theorem c_X6_waiting (l : Launch) (D : va_G) (cI cC cE : ClassId) (h0 h_s h_aside h_past h_snapshot h_text : Nat) (sz : Nat) (m_s : Nat → Int32) (m_pasts : Int32) (m_isKept : Int32) (m_length : Int32) (m_hasStop : Int32) (m_stopAt : Int32) (m_stopWhy : Int32) (m_spot : Int32) (m_isWrong : Int32) (m_kind : Int32) (m_first : Int32) (m_second : Int32) (m_third : Int32) (m_fourth : Int32) (p1 : Int32) (r0 : Int32) (h : d_X6_waiting p1 m_s = some r0) : Met l yX6_waiting wsX6_waiting ({ frames := 1, cells := 0, slots := 0, locals := 21 } : Room) (kP D (kT cI cC cE) [.ref h0, .int p1] (w_X6_waiting cI cC h0 h_s h_aside h_past h_snapshot h_text m_s m_pasts m_isKept m_length m_hasStop m_stopAt m_stopWhy m_spot m_isWrong m_kind m_first m_second m_third m_fourth) sz) (kQi D (kT cI cC cE) (w_X6_waiting cI cC h0 h_s h_aside h_past h_snapshot h_text m_s m_pasts m_isKept m_length m_hasStop m_stopAt m_stopWhy m_spot m_isWrong m_kind m_first m_second m_third m_fourth) (w_X6_waiting cI cC h0 h_s h_aside h_past h_snapshot h_text m_s m_pasts m_isKept m_length m_hasStop m_stopAt m_stopWhy m_spot m_isWrong m_kind m_first m_second m_third m_fourth) sz r0) 0 0 (va_A (w_X6_waiting cI cC h0 h_s h_aside h_past h_snapshot h_text m_s m_pasts m_isKept m_length m_hasStop m_stopAt m_stopWhy m_spot m_isWrong m_kind m_first m_second m_third m_fourth) sz) := by
  refine kMetI (cc := cX6_waiting) (maxL := 4) (own := RX6) (by decide) rfl (Nat.le_of_ble_eq_true rfl) rfl ?_
  intro p e s m below meth c A Q hx hb hml hown hts hP hK hD hA hS hname fin ls hl
  have hl : lv_has ls 4 [(0, .ref h0), (1, .int p1)] := hl
  have hiX6 : ∀ w ∈ u_ws RX6 TX6 18, w ∈ wsX6_waiting := by decide +kernel
  have hL4 : ∀ (k : Nat), ∀ (x2 : Int32) (x3 : Int32) (H : Heap) (locs : List Loc), va_P D vwCl (w_X6_waiting cI cC h0 h_s h_aside h_past h_snapshot h_text m_s m_pasts m_isKept m_length m_hasStop m_stopAt m_stopWhy m_spot m_isWrong m_kind m_first m_second m_third m_fourth) H → va_D A (w_X6_waiting cI cC h0 h_s h_aside h_past h_snapshot h_text m_s m_pasts m_isKept m_length m_hasStop m_stopAt m_stopWhy m_spot m_isWrong m_kind m_first m_second m_third m_fourth) → va_S A s.heap H locs → ∀ (ls : Array Slot), lv_has ls 4 [(0, .ref h0), (1, .int p1), (2, .int x2), (3, .int x3)] → lp_X6_waiting_4  m_s p1 k x2 x3 = some r0 → W p l e ({ frames := 1, cells := 0, slots := 0, locals := 21 } : Room) s m [.ref h0, .int p1].toArray below meth c H locs 0 0 Q (F0 m 4 ls []) := by
    intro k
    induction k with
    | zero =>
      intro x2 x3 H locs hP hD hS ls hl h
      exact k_none h
    | succ k ih =>
      intro x2 x3 H locs hP hD hS ls hl h
      dsimp only [lp_X6_waiting_4] at h
      refine lv_iload_n hx hb dX6_waiting_4 rfl (lv_at hl 3 rfl) ?_
      refine lv_aload_n hx hb dX6_waiting_5 rfl (lv_at hl 0 rfl) ?_
      refine va_get (ci := 6) (C := RX6) (T := TX6) (N := 18) hx hb hts hiX6 hown hK hP 0 rfl rfl 0 (by decide) (hts (.fieldLink RX6 7 "RiddleTradeModel" "s" "[I") (List.mem_of_getElem? (i := 1) rfl)) (fun _ h9 => h9) rfl dX6_waiting_6 ?_
      refine lv_sipush (v := 476) hx hb dX6_waiting_9 (by decide) ?_
      refine k_iald hx hb hK hP 1 0 rfl rfl h dX6_waiting_12 (fun v1 h => ?_)
      refine lv_icmp_ge (tgt := 53) hx hb dX6_waiting_13 (by decide) (fun c2 => ?_) (fun c2 => ?_)
      · have h := (k_iB h).1 c2
        refine lv_iload_n hx hb dX6_waiting_53 rfl (lv_at hl 2 rfl) ?_
        obtain rfl := Option.some.inj h
        exact fin _ _ _ _ dX6_waiting_54 hP hD hS
      · have h := (k_iB h).2 c2
        refine lv_iload_n hx hb dX6_waiting_16 rfl (lv_at hl 2 rfl) ?_
        refine lv_aload_n hx hb dX6_waiting_17 rfl (lv_at hl 0 rfl) ?_
        refine va_get (ci := 6) (C := RX6) (T := TX6) (N := 18) hx hb hts hiX6 hown hK hP 0 rfl rfl 0 (by decide) (hts (.fieldLink RX6 7 "RiddleTradeModel" "s" "[I") (List.mem_of_getElem? (i := 1) rfl)) (fun _ h9 => h9) rfl dX6_waiting_18 ?_
        refine lv_aload_n hx hb dX6_waiting_21 rfl (lv_at hl 0 rfl) ?_
        refine va_get (ci := 6) (C := RX6) (T := TX6) (N := 18) hx hb hts hiX6 hown hK hP 0 rfl rfl 0 (by decide) (hts (.fieldLink RX6 7 "RiddleTradeModel" "s" "[I") (List.mem_of_getElem? (i := 1) rfl)) (fun _ h9 => h9) rfl dX6_waiting_22 ?_
        refine lv_sipush (v := 436) hx hb dX6_waiting_25 (by decide) ?_
        refine lv_iload_n hx hb dX6_waiting_28 rfl (lv_at hl 3 rfl) ?_
        refine lv_iadd hx hb dX6_waiting_29 ?_
        refine k_iald hx hb hK hP 1 0 rfl rfl h dX6_waiting_30 (fun v3 h => ?_)
        refine lv_iconst (v := 1) hx hb dX6_waiting_31 (by decide) ?_
        refine kcSi (ws1 := (w_X6_waiting cI cC h0 h_s h_aside h_past h_snapshot h_text m_s m_pasts m_isKept m_length m_hasStop m_stopAt m_stopWhy m_spot m_isWrong m_kind m_first m_second m_third m_fourth)) ⟨hx, hb, hml, hown, hts⟩ [] [0, 1] (c_X6_ofA l D cI cC cE _ v3 1 (d_X6_ofA v3 1) rfl) (va_cwS 2 hts gX6_waiting_X6_ofA rfl rfl rfl (by decide +kernel) ⟨Nat.le_of_ble_eq_true rfl, Nat.le_of_ble_eq_true rfl⟩) hK hP hD hS hA rfl rfl rfl rfl rfl rfl rfl hl.1 rfl (Nat.le_of_ble_eq_true rfl) dX6_waiting_32 ⟨Nat.le_refl 0, Nat.le_refl 0⟩ (fun H locs hP hD hS => ?_)
        refine k_iald hx hb hK hP 1 0 rfl rfl h dX6_waiting_35 (fun v4 h => ?_)
        refine lv_iload_n hx hb dX6_waiting_36 rfl (lv_at hl 1 rfl) ?_
        refine lv_icmp_ne (tgt := 44) hx hb dX6_waiting_37 (by decide) (fun c5 => ?_) (fun c5 => ?_)
        · have h := (k_iB h).2 c5
          refine lv_iconst (v := 0) hx hb dX6_waiting_44 (by decide) ?_
          refine lv_iadd hx hb dX6_waiting_45 ?_
          refine lv_istore_n (lv' := [(2, .int (x2 + 0)), (0, .ref h0), (1, .int p1), (3, .int x3)]) hx hb dX6_waiting_46 rfl hl (by decide) rfl (fun ls hl => ?_)
          refine lv_iinc (v := (x3 + 1)) (lv' := [(3, .int (x3 + 1)), (2, .int (x2 + 0)), (0, .ref h0), (1, .int p1)]) hx hb dX6_waiting_47 hl (k := 3) rfl rfl (by decide) rfl (fun ls hl => ?_)
          refine lv_goto (tgt := 4) hx hb dX6_waiting_50 (by decide) ?_
          exact ih (x2 + 0) (x3 + 1) _ _ hP hD hS _ (lv_sub hl [2, 3, 1, 0] rfl) h
        · have h := (k_iB h).1 c5
          refine lv_iconst (v := 1) hx hb dX6_waiting_40 (by decide) ?_
          refine lv_goto (tgt := 45) hx hb dX6_waiting_41 (by decide) ?_
          refine lv_iadd hx hb dX6_waiting_45 ?_
          refine lv_istore_n (lv' := [(2, .int (x2 + 1)), (0, .ref h0), (1, .int p1), (3, .int x3)]) hx hb dX6_waiting_46 rfl hl (by decide) rfl (fun ls hl => ?_)
          refine lv_iinc (v := (x3 + 1)) (lv' := [(3, .int (x3 + 1)), (2, .int (x2 + 1)), (0, .ref h0), (1, .int p1)]) hx hb dX6_waiting_47 hl (k := 3) rfl rfl (by decide) rfl (fun ls hl => ?_)
          refine lv_goto (tgt := 4) hx hb dX6_waiting_50 (by decide) ?_
          exact ih (x2 + 1) (x3 + 1) _ _ hP hD hS _ (lv_sub hl [2, 3, 1, 0] rfl) h
  dsimp only [d_X6_waiting] at h
  refine lv_iconst (v := 0) hx hb dX6_waiting_0 (by decide) ?_
  refine lv_istore_n (lv' := [(2, .int 0), (0, .ref h0), (1, .int p1)]) hx hb dX6_waiting_1 rfl hl (by decide) rfl (fun ls hl => ?_)
  refine lv_iconst (v := 0) hx hb dX6_waiting_2 (by decide) ?_
  refine lv_istore_n (lv' := [(3, .int 0), (2, .int 0), (0, .ref h0), (1, .int p1)]) hx hb dX6_waiting_3 rfl hl (by decide) rfl (fun ls hl => ?_)
  exact hL4   fuel 0 0 _ _ hP hD hS _ (lv_sub hl [2, 3, 1, 0] rfl) h
abbrev w_X6_withdraw (cI cC : ClassId) (h0 h_s h_aside h_past h_snapshot h_text : Nat) (m_s : Nat → Int32) (m_past : Nat → Int32) (m_pasts : Int32) (m_isKept : Int32) (m_length : Int32) (m_hasStop : Int32) (m_stopAt : Int32) (m_stopWhy : Int32) (m_spot : Int32) (m_isWrong : Int32) (m_kind : Int32) (m_first : Int32) (m_second : Int32) (m_third : Int32) (m_fourth : Int32) : va_W := [(h0, .inr (6, [.ref h_s, .ref h_aside, .ref h_past, .int m_pasts, .ref h_snapshot, .int m_isKept, .ref h_text, .int m_length, .int m_hasStop, .int m_stopAt, .int m_stopWhy, .int m_spot, .int m_isWrong, .int m_kind, .int m_first, .int m_second, .int m_third, .int m_fourth])), (h_s, .inl (cI, 490, .inl m_s)), (h_past, .inl (cI, 1960, .inl m_past))]
def d_X6_withdraw (p1 : Int32) (m_s : Nat → Int32) (m_past : Nat → Int32) (m_pasts : Int32) : Option (Int32 × (Nat → Int32) × (Nat → Int32) × Int32) :=
    ob1 (d_X6_isRiddle p1 m_s) fun r1 =>
    if r1 = 0 then (some ((-1), m_s, m_past, m_pasts))
    else (ob1 (rd 490 m_s (d_X6_ofR p1 3)) fun v4 =>
    if v4 = 0 then (ob2 (d_X6_records m_s m_past m_pasts) fun m_past_6 m_pasts_7 =>
    ob1 (wr 490 m_s (d_X6_ofR p1 3) 2) fun m_s_9 =>
    ob1 (d_X6_waiting p1 m_s_9) fun r10 =>
    some (r10, m_s_9, m_past_6, m_pasts_7))
    else (some ((-4), m_s, m_past, m_pasts)))
set_option maxHeartbeats 4000000 in
set_option maxRecDepth 100000 in
theorem c_X6_withdraw (l : Launch) (D : va_G) (cI cC cE : ClassId) (h0 h_s h_aside h_past h_snapshot h_text : Nat) (sz : Nat) (m_s : Nat → Int32) (m_past : Nat → Int32) (m_pasts : Int32) (m_isKept : Int32) (m_length : Int32) (m_hasStop : Int32) (m_stopAt : Int32) (m_stopWhy : Int32) (m_spot : Int32) (m_isWrong : Int32) (m_kind : Int32) (m_first : Int32) (m_second : Int32) (m_third : Int32) (m_fourth : Int32) (p1 : Int32) (r0 : Int32) (o_m_s : Nat → Int32) (o_m_past : Nat → Int32) (o_m_pasts : Int32) (h : d_X6_withdraw p1 m_s m_past m_pasts = some (r0, o_m_s, o_m_past, o_m_pasts)) : Met l yX6_withdraw wsX6_withdraw ({ frames := 2, cells := 0, slots := 0, locals := 44 } : Room) (kP D (kT cI cC cE) [.ref h0, .int p1] (w_X6_withdraw cI cC h0 h_s h_aside h_past h_snapshot h_text m_s m_past m_pasts m_isKept m_length m_hasStop m_stopAt m_stopWhy m_spot m_isWrong m_kind m_first m_second m_third m_fourth) sz) (kQi D (kT cI cC cE) (w_X6_withdraw cI cC h0 h_s h_aside h_past h_snapshot h_text m_s m_past m_pasts m_isKept m_length m_hasStop m_stopAt m_stopWhy m_spot m_isWrong m_kind m_first m_second m_third m_fourth) (w_X6_withdraw cI cC h0 h_s h_aside h_past h_snapshot h_text o_m_s o_m_past o_m_pasts m_isKept m_length m_hasStop m_stopAt m_stopWhy m_spot m_isWrong m_kind m_first m_second m_third m_fourth) sz r0) 0 0 (va_A (w_X6_withdraw cI cC h0 h_s h_aside h_past h_snapshot h_text m_s m_past m_pasts m_isKept m_length m_hasStop m_stopAt m_stopWhy m_spot m_isWrong m_kind m_first m_second m_third m_fourth) sz) := by
  refine kMetI (cc := cX6_withdraw) (maxL := 2) (own := RX6) (by decide) rfl (Nat.le_of_ble_eq_true rfl) rfl ?_
  intro p e s m below meth c A Q hx hb hml hown hts hP hK hD hA hS hname fin ls hl
  have hl : lv_has ls 2 [(0, .ref h0), (1, .int p1)] := hl
  have hiX6 : ∀ w ∈ u_ws RX6 TX6 18, w ∈ wsX6_withdraw := by decide +kernel
  dsimp only [d_X6_withdraw] at h
  refine lv_aload_n hx hb dX6_withdraw_0 rfl (lv_at hl 0 rfl) ?_
  refine lv_iload_n hx hb dX6_withdraw_1 rfl (lv_at hl 1 rfl) ?_
  obtain ⟨r1, hu2, h⟩ := ob1_el h
  refine kcVi (ci := 6) (q := (RX6, TX6, 18)) (ws1 := (w_X6_withdraw cI cC h0 h_s h_aside h_past h_snapshot h_text m_s m_past m_pasts m_isKept m_length m_hasStop m_stopAt m_stopWhy m_spot m_isWrong m_kind m_first m_second m_third m_fourth)) ⟨hx, hb, hml, hown, hts⟩ [0, 1] [2] (c_X6_isRiddle l D cI cC cE h0 h_s h_aside h_past h_snapshot h_text _ m_s m_pasts m_isKept m_length m_hasStop m_stopAt m_stopWhy m_spot m_isWrong m_kind m_first m_second m_third m_fourth p1 r1 hu2) (cwV 1 hts gX6_withdraw_X6_isRiddle rfl rfl rfl (by decide +kernel) ⟨Nat.le_of_ble_eq_true rfl, Nat.le_of_ble_eq_true rfl⟩) hK hP hD hS hA rfl rfl rfl rfl rfl rfl rfl rfl rfl hl.1 rfl (Nat.le_of_ble_eq_true rfl) dX6_withdraw_2 ⟨Nat.le_refl 0, Nat.le_refl 0⟩ (fun H locs hP hD hS => ?_)
  refine lv_if_ne (tgt := 10) hx hb dX6_withdraw_5 (by decide) (fun c3 => ?_) (fun c3 => ?_)
  · have h := (k_iB h).2 c3
    refine lv_aload_n hx hb dX6_withdraw_10 rfl (lv_at hl 0 rfl) ?_
    refine va_get (ci := 6) (C := RX6) (T := TX6) (N := 18) hx hb hts hiX6 hown hK hP 0 rfl rfl 0 (by decide) (hts (.fieldLink RX6 7 "RiddleTradeModel" "s" "[I") (List.mem_of_getElem? (i := 1) rfl)) (fun _ h9 => h9) rfl dX6_withdraw_11 ?_
    refine lv_iload_n hx hb dX6_withdraw_14 rfl (lv_at hl 1 rfl) ?_
    refine lv_iconst (v := 3) hx hb dX6_withdraw_15 (by decide) ?_
    refine kcSi (ws1 := (w_X6_withdraw cI cC h0 h_s h_aside h_past h_snapshot h_text m_s m_past m_pasts m_isKept m_length m_hasStop m_stopAt m_stopWhy m_spot m_isWrong m_kind m_first m_second m_third m_fourth)) ⟨hx, hb, hml, hown, hts⟩ [] [0, 1, 2] (c_X6_ofR l D cI cC cE _ p1 3 (d_X6_ofR p1 3) rfl) (va_cwS 2 hts gX6_withdraw_X6_ofR rfl rfl rfl (by decide +kernel) ⟨Nat.le_of_ble_eq_true rfl, Nat.le_of_ble_eq_true rfl⟩) hK hP hD hS hA rfl rfl rfl rfl rfl rfl rfl hl.1 rfl (Nat.le_of_ble_eq_true rfl) dX6_withdraw_16 ⟨Nat.le_refl 0, Nat.le_refl 0⟩ (fun H locs hP hD hS => ?_)
    refine k_iald hx hb hK hP 1 0 rfl rfl h dX6_withdraw_19 (fun v4 h => ?_)
    refine lv_if_eq (tgt := 26) hx hb dX6_withdraw_20 (by decide) (fun c5 => ?_) (fun c5 => ?_)
    · have h := (k_iB h).1 c5
      refine lv_aload_n hx hb dX6_withdraw_26 rfl (lv_at hl 0 rfl) ?_
      obtain ⟨m_past_6, m_pasts_7, hu8, h⟩ := ob2_el h
      refine kcVv (ci := 6) (q := (RX6, TX6, 18)) (ws1 := (w_X6_withdraw cI cC h0 h_s h_aside h_past h_snapshot h_text m_s m_past_6 m_pasts_7 m_isKept m_length m_hasStop m_stopAt m_stopWhy m_spot m_isWrong m_kind m_first m_second m_third m_fourth)) ⟨hx, hb, hml, hown, hts⟩ [0, 1, 2] [] (c_X6_records l D cI cC cE h0 h_s h_aside h_past h_snapshot h_text _ m_s m_past m_pasts m_isKept m_length m_hasStop m_stopAt m_stopWhy m_spot m_isWrong m_kind m_first m_second m_third m_fourth m_past_6 m_pasts_7 hu8) (cwV 0 hts gX6_withdraw_X6_records rfl rfl rfl (by decide +kernel) ⟨Nat.le_of_ble_eq_true rfl, Nat.le_of_ble_eq_true rfl⟩) hK hP hD hS hA rfl rfl rfl rfl rfl rfl rfl rfl rfl hl.1 rfl (Nat.le_of_ble_eq_true rfl) dX6_withdraw_27 ⟨Nat.le_refl 0, Nat.le_refl 0⟩ (fun H locs hP hD hS => ?_)
      refine lv_aload_n hx hb dX6_withdraw_30 rfl (lv_at hl 0 rfl) ?_
      refine va_get (ci := 6) (C := RX6) (T := TX6) (N := 18) hx hb hts hiX6 hown hK hP 0 rfl rfl 0 (by decide) (hts (.fieldLink RX6 7 "RiddleTradeModel" "s" "[I") (List.mem_of_getElem? (i := 1) rfl)) (fun _ h9 => h9) rfl dX6_withdraw_31 ?_
      refine lv_iload_n hx hb dX6_withdraw_34 rfl (lv_at hl 1 rfl) ?_
      refine lv_iconst (v := 3) hx hb dX6_withdraw_35 (by decide) ?_
      refine kcSi (ws1 := (w_X6_withdraw cI cC h0 h_s h_aside h_past h_snapshot h_text m_s m_past_6 m_pasts_7 m_isKept m_length m_hasStop m_stopAt m_stopWhy m_spot m_isWrong m_kind m_first m_second m_third m_fourth)) ⟨hx, hb, hml, hown, hts⟩ [] [0, 1, 2] (c_X6_ofR l D cI cC cE _ p1 3 (d_X6_ofR p1 3) rfl) (va_cwS 2 hts gX6_withdraw_X6_ofR rfl rfl rfl (by decide +kernel) ⟨Nat.le_of_ble_eq_true rfl, Nat.le_of_ble_eq_true rfl⟩) hK hP hD hS hA rfl rfl rfl rfl rfl rfl rfl hl.1 rfl (Nat.le_of_ble_eq_true rfl) dX6_withdraw_36 ⟨Nat.le_refl 0, Nat.le_refl 0⟩ (fun H locs hP hD hS => ?_)
      refine lv_iconst (v := 2) hx hb dX6_withdraw_39 (by decide) ?_
      refine k_iast hx hb hK hP hD hS 1 0 rfl rfl h dX6_withdraw_40 (fun m_s_9 H locs hP hD hS h => ?_)
      have hP : va_P D vwCl (w_X6_withdraw cI cC h0 h_s h_aside h_past h_snapshot h_text m_s_9 m_past_6 m_pasts_7 m_isKept m_length m_hasStop m_stopAt m_stopWhy m_spot m_isWrong m_kind m_first m_second m_third m_fourth) H := hP
      have hD : va_D A (w_X6_withdraw cI cC h0 h_s h_aside h_past h_snapshot h_text m_s_9 m_past_6 m_pasts_7 m_isKept m_length m_hasStop m_stopAt m_stopWhy m_spot m_isWrong m_kind m_first m_second m_third m_fourth) := hD
      refine lv_aload_n hx hb dX6_withdraw_41 rfl (lv_at hl 0 rfl) ?_
      refine lv_iload_n hx hb dX6_withdraw_42 rfl (lv_at hl 1 rfl) ?_
      obtain ⟨r10, hu11, h⟩ := ob1_el h
      refine kcVi (ci := 6) (q := (RX6, TX6, 18)) (ws1 := (w_X6_withdraw cI cC h0 h_s h_aside h_past h_snapshot h_text m_s_9 m_past_6 m_pasts_7 m_isKept m_length m_hasStop m_stopAt m_stopWhy m_spot m_isWrong m_kind m_first m_second m_third m_fourth)) ⟨hx, hb, hml, hown, hts⟩ [0, 1] [2] (c_X6_waiting l D cI cC cE h0 h_s h_aside h_past h_snapshot h_text _ m_s_9 m_pasts_7 m_isKept m_length m_hasStop m_stopAt m_stopWhy m_spot m_isWrong m_kind m_first m_second m_third m_fourth p1 r10 hu11) (cwV 1 hts gX6_withdraw_X6_waiting rfl rfl rfl (by decide +kernel) ⟨Nat.le_of_ble_eq_true rfl, Nat.le_of_ble_eq_true rfl⟩) hK hP hD hS hA rfl rfl rfl rfl rfl rfl rfl rfl rfl hl.1 rfl (Nat.le_of_ble_eq_true rfl) dX6_withdraw_43 ⟨Nat.le_refl 0, Nat.le_refl 0⟩ (fun H locs hP hD hS => ?_)
      obtain ⟨rfl, rfl, rfl, rfl⟩ := inj4 (Option.some.inj h)
      exact fin _ _ _ _ dX6_withdraw_46 hP hD hS
    · have h := (k_iB h).2 c5
      refine lv_bipush (v := (-4)) hx hb dX6_withdraw_23 (by decide) ?_
      obtain ⟨rfl, rfl, rfl, rfl⟩ := inj4 (Option.some.inj h)
      exact fin _ _ _ _ dX6_withdraw_25 hP hD hS
  · have h := (k_iB h).1 c3
    refine lv_iconst (v := (-1)) hx hb dX6_withdraw_8 (by decide) ?_
    obtain ⟨rfl, rfl, rfl, rfl⟩ := inj4 (Option.some.inj h)
    exact fin _ _ _ _ dX6_withdraw_9 hP hD hS
abbrev w_X6_barDeliver (cI cC : ClassId) (h0 h_s h_aside h_past h_snapshot h_text : Nat) (m_s : Nat → Int32) (m_pasts : Int32) (m_isKept : Int32) (m_length : Int32) (m_hasStop : Int32) (m_stopAt : Int32) (m_stopWhy : Int32) (m_spot : Int32) (m_isWrong : Int32) (m_kind : Int32) (m_first : Int32) (m_second : Int32) (m_third : Int32) (m_fourth : Int32) : va_W := [(h0, .inr (6, [.ref h_s, .ref h_aside, .ref h_past, .int m_pasts, .ref h_snapshot, .int m_isKept, .ref h_text, .int m_length, .int m_hasStop, .int m_stopAt, .int m_stopWhy, .int m_spot, .int m_isWrong, .int m_kind, .int m_first, .int m_second, .int m_third, .int m_fourth])), (h_s, .inl (cI, 490, .inl m_s))]
def d_X6_barDeliver (p1 : Int32) (p2 : Int32) (p3 : Int32) (p4 : Int32) (m_s : Nat → Int32) : Option (Int32) :=
    if (d_X6_isTrader p1) = 0 then (some (-1))
    else (ob1 (d_X6_isRiddle p2 m_s) fun r2 =>
    if r2 = 0 then (some (-1))
    else (if (d_X6_in p3 0 99) = 0 then (some (-2))
    else (if (d_X6_in p4 1 99) = 0 then (some (-2))
    else (ob1 (rd 490 m_s (d_X6_ofR p2 3)) fun v7 =>
    if v7 = 0 then (ob1 (rd 490 m_s (d_X6_ofR p2 0)) fun v9 =>
    if v9 = p1 then (some (-4))
    else (ob1 (rd 490 m_s 484) fun v11 =>
    if v11 = 40 then (some (-3))
    else (some 0)))
    else (some (-4))))))
set_option maxHeartbeats 4000000 in
set_option maxRecDepth 100000 in
theorem c_X6_barDeliver (l : Launch) (D : va_G) (cI cC cE : ClassId) (h0 h_s h_aside h_past h_snapshot h_text : Nat) (sz : Nat) (m_s : Nat → Int32) (m_pasts : Int32) (m_isKept : Int32) (m_length : Int32) (m_hasStop : Int32) (m_stopAt : Int32) (m_stopWhy : Int32) (m_spot : Int32) (m_isWrong : Int32) (m_kind : Int32) (m_first : Int32) (m_second : Int32) (m_third : Int32) (m_fourth : Int32) (p1 : Int32) (p2 : Int32) (p3 : Int32) (p4 : Int32) (r0 : Int32) (h : d_X6_barDeliver p1 p2 p3 p4 m_s = some r0) : Met l yX6_barDeliver wsX6_barDeliver ({ frames := 2, cells := 0, slots := 0, locals := 43 } : Room) (kP D (kT cI cC cE) [.ref h0, .int p1, .int p2, .int p3, .int p4] (w_X6_barDeliver cI cC h0 h_s h_aside h_past h_snapshot h_text m_s m_pasts m_isKept m_length m_hasStop m_stopAt m_stopWhy m_spot m_isWrong m_kind m_first m_second m_third m_fourth) sz) (kQi D (kT cI cC cE) (w_X6_barDeliver cI cC h0 h_s h_aside h_past h_snapshot h_text m_s m_pasts m_isKept m_length m_hasStop m_stopAt m_stopWhy m_spot m_isWrong m_kind m_first m_second m_third m_fourth) (w_X6_barDeliver cI cC h0 h_s h_aside h_past h_snapshot h_text m_s m_pasts m_isKept m_length m_hasStop m_stopAt m_stopWhy m_spot m_isWrong m_kind m_first m_second m_third m_fourth) sz r0) 0 0 (va_A (w_X6_barDeliver cI cC h0 h_s h_aside h_past h_snapshot h_text m_s m_pasts m_isKept m_length m_hasStop m_stopAt m_stopWhy m_spot m_isWrong m_kind m_first m_second m_third m_fourth) sz) := by
  refine kMetI (cc := cX6_barDeliver) (maxL := 5) (own := RX6) (by decide) rfl (Nat.le_of_ble_eq_true rfl) rfl ?_
  intro p e s m below meth c A Q hx hb hml hown hts hP hK hD hA hS hname fin ls hl
  have hl : lv_has ls 5 [(0, .ref h0), (1, .int p1), (2, .int p2), (3, .int p3), (4, .int p4)] := hl
  have hiX6 : ∀ w ∈ u_ws RX6 TX6 18, w ∈ wsX6_barDeliver := by decide +kernel
  dsimp only [d_X6_barDeliver] at h
  refine lv_iload_n hx hb dX6_barDeliver_0 rfl (lv_at hl 1 rfl) ?_
  refine kcSi (ws1 := (w_X6_barDeliver cI cC h0 h_s h_aside h_past h_snapshot h_text m_s m_pasts m_isKept m_length m_hasStop m_stopAt m_stopWhy m_spot m_isWrong m_kind m_first m_second m_third m_fourth)) ⟨hx, hb, hml, hown, hts⟩ [] [0, 1] (c_X6_isTrader l D cI cC cE _ p1 (d_X6_isTrader p1) rfl) (va_cwS 1 hts gX6_barDeliver_X6_isTrader rfl rfl rfl (by decide +kernel) ⟨Nat.le_of_ble_eq_true rfl, Nat.le_of_ble_eq_true rfl⟩) hK hP hD hS hA rfl rfl rfl rfl rfl rfl rfl hl.1 rfl (Nat.le_of_ble_eq_true rfl) dX6_barDeliver_1 ⟨Nat.le_refl 0, Nat.le_refl 0⟩ (fun H locs hP hD hS => ?_)
  refine lv_if_eq (tgt := 15) hx hb dX6_barDeliver_4 (by decide) (fun c1 => ?_) (fun c1 => ?_)
  · have h := (k_iB h).1 c1
    refine lv_iconst (v := (-1)) hx hb dX6_barDeliver_15 (by decide) ?_
    obtain rfl := Option.some.inj h
    exact fin _ _ _ _ dX6_barDeliver_16 hP hD hS
  · have h := (k_iB h).2 c1
    refine lv_aload_n hx hb dX6_barDeliver_7 rfl (lv_at hl 0 rfl) ?_
    refine lv_iload_n hx hb dX6_barDeliver_8 rfl (lv_at hl 2 rfl) ?_
    obtain ⟨r2, hu3, h⟩ := ob1_el h
    refine kcVi (ci := 6) (q := (RX6, TX6, 18)) (ws1 := (w_X6_barDeliver cI cC h0 h_s h_aside h_past h_snapshot h_text m_s m_pasts m_isKept m_length m_hasStop m_stopAt m_stopWhy m_spot m_isWrong m_kind m_first m_second m_third m_fourth)) ⟨hx, hb, hml, hown, hts⟩ [0, 1] [] (c_X6_isRiddle l D cI cC cE h0 h_s h_aside h_past h_snapshot h_text _ m_s m_pasts m_isKept m_length m_hasStop m_stopAt m_stopWhy m_spot m_isWrong m_kind m_first m_second m_third m_fourth p2 r2 hu3) (cwV 1 hts gX6_barDeliver_X6_isRiddle rfl rfl rfl (by decide +kernel) ⟨Nat.le_of_ble_eq_true rfl, Nat.le_of_ble_eq_true rfl⟩) hK hP hD hS hA rfl rfl rfl rfl rfl rfl rfl rfl rfl hl.1 rfl (Nat.le_of_ble_eq_true rfl) dX6_barDeliver_9 ⟨Nat.le_refl 0, Nat.le_refl 0⟩ (fun H locs hP hD hS => ?_)
    refine lv_if_ne (tgt := 17) hx hb dX6_barDeliver_12 (by decide) (fun c4 => ?_) (fun c4 => ?_)
    · have h := (k_iB h).2 c4
      refine lv_iload_n hx hb dX6_barDeliver_17 rfl (lv_at hl 3 rfl) ?_
      refine lv_iconst (v := 0) hx hb dX6_barDeliver_18 (by decide) ?_
      refine lv_bipush (v := 99) hx hb dX6_barDeliver_19 (by decide) ?_
      refine kcSi (ws1 := (w_X6_barDeliver cI cC h0 h_s h_aside h_past h_snapshot h_text m_s m_pasts m_isKept m_length m_hasStop m_stopAt m_stopWhy m_spot m_isWrong m_kind m_first m_second m_third m_fourth)) ⟨hx, hb, hml, hown, hts⟩ [] [0, 1] (c_X6_in l D cI cC cE _ p3 0 99 (d_X6_in p3 0 99) rfl) (va_cwS 3 hts gX6_barDeliver_X6_in rfl rfl rfl (by decide +kernel) ⟨Nat.le_of_ble_eq_true rfl, Nat.le_of_ble_eq_true rfl⟩) hK hP hD hS hA rfl rfl rfl rfl rfl rfl rfl hl.1 rfl (Nat.le_of_ble_eq_true rfl) dX6_barDeliver_21 ⟨Nat.le_refl 0, Nat.le_refl 0⟩ (fun H locs hP hD hS => ?_)
      refine lv_if_eq (tgt := 38) hx hb dX6_barDeliver_24 (by decide) (fun c5 => ?_) (fun c5 => ?_)
      · have h := (k_iB h).1 c5
        refine lv_bipush (v := (-2)) hx hb dX6_barDeliver_38 (by decide) ?_
        obtain rfl := Option.some.inj h
        exact fin _ _ _ _ dX6_barDeliver_40 hP hD hS
      · have h := (k_iB h).2 c5
        refine lv_iload hx hb dX6_barDeliver_27 (lv_at hl 4 rfl) ?_
        refine lv_iconst (v := 1) hx hb dX6_barDeliver_29 (by decide) ?_
        refine lv_bipush (v := 99) hx hb dX6_barDeliver_30 (by decide) ?_
        refine kcSi (ws1 := (w_X6_barDeliver cI cC h0 h_s h_aside h_past h_snapshot h_text m_s m_pasts m_isKept m_length m_hasStop m_stopAt m_stopWhy m_spot m_isWrong m_kind m_first m_second m_third m_fourth)) ⟨hx, hb, hml, hown, hts⟩ [] [0, 1] (c_X6_in l D cI cC cE _ p4 1 99 (d_X6_in p4 1 99) rfl) (va_cwS 3 hts gX6_barDeliver_X6_in rfl rfl rfl (by decide +kernel) ⟨Nat.le_of_ble_eq_true rfl, Nat.le_of_ble_eq_true rfl⟩) hK hP hD hS hA rfl rfl rfl rfl rfl rfl rfl hl.1 rfl (Nat.le_of_ble_eq_true rfl) dX6_barDeliver_32 ⟨Nat.le_refl 0, Nat.le_refl 0⟩ (fun H locs hP hD hS => ?_)
        refine lv_if_ne (tgt := 41) hx hb dX6_barDeliver_35 (by decide) (fun c6 => ?_) (fun c6 => ?_)
        · have h := (k_iB h).2 c6
          refine lv_aload_n hx hb dX6_barDeliver_41 rfl (lv_at hl 0 rfl) ?_
          refine va_get (ci := 6) (C := RX6) (T := TX6) (N := 18) hx hb hts hiX6 hown hK hP 0 rfl rfl 0 (by decide) (hts (.fieldLink RX6 7 "RiddleTradeModel" "s" "[I") (List.mem_of_getElem? (i := 1) rfl)) (fun _ h9 => h9) rfl dX6_barDeliver_42 ?_
          refine lv_iload_n hx hb dX6_barDeliver_45 rfl (lv_at hl 2 rfl) ?_
          refine lv_iconst (v := 3) hx hb dX6_barDeliver_46 (by decide) ?_
          refine kcSi (ws1 := (w_X6_barDeliver cI cC h0 h_s h_aside h_past h_snapshot h_text m_s m_pasts m_isKept m_length m_hasStop m_stopAt m_stopWhy m_spot m_isWrong m_kind m_first m_second m_third m_fourth)) ⟨hx, hb, hml, hown, hts⟩ [] [0, 1] (c_X6_ofR l D cI cC cE _ p2 3 (d_X6_ofR p2 3) rfl) (va_cwS 2 hts gX6_barDeliver_X6_ofR rfl rfl rfl (by decide +kernel) ⟨Nat.le_of_ble_eq_true rfl, Nat.le_of_ble_eq_true rfl⟩) hK hP hD hS hA rfl rfl rfl rfl rfl rfl rfl hl.1 rfl (Nat.le_of_ble_eq_true rfl) dX6_barDeliver_47 ⟨Nat.le_refl 0, Nat.le_refl 0⟩ (fun H locs hP hD hS => ?_)
          refine k_iald hx hb hK hP 1 0 rfl rfl h dX6_barDeliver_50 (fun v7 h => ?_)
          refine lv_if_ne (tgt := 68) hx hb dX6_barDeliver_51 (by decide) (fun c8 => ?_) (fun c8 => ?_)
          · have h := (k_iB h).2 c8
            refine lv_bipush (v := (-4)) hx hb dX6_barDeliver_68 (by decide) ?_
            refine lv_goto (tgt := 92) hx hb dX6_barDeliver_70 (by decide) ?_
            obtain rfl := Option.some.inj h
            exact fin _ _ _ _ dX6_barDeliver_92 hP hD hS
          · have h := (k_iB h).1 c8
            refine lv_aload_n hx hb dX6_barDeliver_54 rfl (lv_at hl 0 rfl) ?_
            refine va_get (ci := 6) (C := RX6) (T := TX6) (N := 18) hx hb hts hiX6 hown hK hP 0 rfl rfl 0 (by decide) (hts (.fieldLink RX6 7 "RiddleTradeModel" "s" "[I") (List.mem_of_getElem? (i := 1) rfl)) (fun _ h9 => h9) rfl dX6_barDeliver_55 ?_
            refine lv_iload_n hx hb dX6_barDeliver_58 rfl (lv_at hl 2 rfl) ?_
            refine lv_iconst (v := 0) hx hb dX6_barDeliver_59 (by decide) ?_
            refine kcSi (ws1 := (w_X6_barDeliver cI cC h0 h_s h_aside h_past h_snapshot h_text m_s m_pasts m_isKept m_length m_hasStop m_stopAt m_stopWhy m_spot m_isWrong m_kind m_first m_second m_third m_fourth)) ⟨hx, hb, hml, hown, hts⟩ [] [0, 1] (c_X6_ofR l D cI cC cE _ p2 0 (d_X6_ofR p2 0) rfl) (va_cwS 2 hts gX6_barDeliver_X6_ofR rfl rfl rfl (by decide +kernel) ⟨Nat.le_of_ble_eq_true rfl, Nat.le_of_ble_eq_true rfl⟩) hK hP hD hS hA rfl rfl rfl rfl rfl rfl rfl hl.1 rfl (Nat.le_of_ble_eq_true rfl) dX6_barDeliver_60 ⟨Nat.le_refl 0, Nat.le_refl 0⟩ (fun H locs hP hD hS => ?_)
            refine k_iald hx hb hK hP 1 0 rfl rfl h dX6_barDeliver_63 (fun v9 h => ?_)
            refine lv_iload_n hx hb dX6_barDeliver_64 rfl (lv_at hl 1 rfl) ?_
            refine lv_icmp_ne (tgt := 73) hx hb dX6_barDeliver_65 (by decide) (fun c10 => ?_) (fun c10 => ?_)
            · have h := (k_iB h).2 c10
              refine lv_aload_n hx hb dX6_barDeliver_73 rfl (lv_at hl 0 rfl) ?_
              refine va_get (ci := 6) (C := RX6) (T := TX6) (N := 18) hx hb hts hiX6 hown hK hP 0 rfl rfl 0 (by decide) (hts (.fieldLink RX6 7 "RiddleTradeModel" "s" "[I") (List.mem_of_getElem? (i := 1) rfl)) (fun _ h9 => h9) rfl dX6_barDeliver_74 ?_
              refine lv_sipush (v := 484) hx hb dX6_barDeliver_77 (by decide) ?_
              refine k_iald hx hb hK hP 1 0 rfl rfl h dX6_barDeliver_80 (fun v11 h => ?_)
              refine lv_bipush (v := 40) hx hb dX6_barDeliver_81 (by decide) ?_
              refine lv_icmp_ne (tgt := 91) hx hb dX6_barDeliver_83 (by decide) (fun c12 => ?_) (fun c12 => ?_)
              · have h := (k_iB h).2 c12
                refine lv_iconst (v := 0) hx hb dX6_barDeliver_91 (by decide) ?_
                obtain rfl := Option.some.inj h
                exact fin _ _ _ _ dX6_barDeliver_92 hP hD hS
              · have h := (k_iB h).1 c12
                refine lv_bipush (v := (-3)) hx hb dX6_barDeliver_86 (by decide) ?_
                refine lv_goto (tgt := 92) hx hb dX6_barDeliver_88 (by decide) ?_
                obtain rfl := Option.some.inj h
                exact fin _ _ _ _ dX6_barDeliver_92 hP hD hS
            · have h := (k_iB h).1 c10
              refine lv_bipush (v := (-4)) hx hb dX6_barDeliver_68 (by decide) ?_
              refine lv_goto (tgt := 92) hx hb dX6_barDeliver_70 (by decide) ?_
              obtain rfl := Option.some.inj h
              exact fin _ _ _ _ dX6_barDeliver_92 hP hD hS
        · have h := (k_iB h).1 c6
          refine lv_bipush (v := (-2)) hx hb dX6_barDeliver_38 (by decide) ?_
          obtain rfl := Option.some.inj h
          exact fin _ _ _ _ dX6_barDeliver_40 hP hD hS
    · have h := (k_iB h).1 c4
      refine lv_iconst (v := (-1)) hx hb dX6_barDeliver_15 (by decide) ?_
      obtain rfl := Option.some.inj h
      exact fin _ _ _ _ dX6_barDeliver_16 hP hD hS
abbrev w_X6_queues (cI cC : ClassId) (h0 h_s h_aside h_past h_snapshot h_text : Nat) (m_s : Nat → Int32) (m_pasts : Int32) (m_isKept : Int32) (m_length : Int32) (m_hasStop : Int32) (m_stopAt : Int32) (m_stopWhy : Int32) (m_spot : Int32) (m_isWrong : Int32) (m_kind : Int32) (m_first : Int32) (m_second : Int32) (m_third : Int32) (m_fourth : Int32) : va_W := [(h0, .inr (6, [.ref h_s, .ref h_aside, .ref h_past, .int m_pasts, .ref h_snapshot, .int m_isKept, .ref h_text, .int m_length, .int m_hasStop, .int m_stopAt, .int m_stopWhy, .int m_spot, .int m_isWrong, .int m_kind, .int m_first, .int m_second, .int m_third, .int m_fourth])), (h_s, .inl (cI, 490, .inl m_s))]
def d_X6_queues (p1 : Int32) (m_s : Nat → Int32) : Option ((Nat → Int32)) :=
    ob1 (rd 490 m_s 476) fun v1 =>
    ob1 (wr 490 m_s (436 + v1) p1) fun m_s_2 =>
    ob1 (rd 490 m_s_2 476) fun v3 =>
    ob1 (wr 490 m_s_2 476 (v3 + 1)) fun m_s_4 =>
    some m_s_4
set_option maxHeartbeats 4000000 in
set_option maxRecDepth 100000 in
theorem c_X6_queues (l : Launch) (D : va_G) (cI cC cE : ClassId) (h0 h_s h_aside h_past h_snapshot h_text : Nat) (sz : Nat) (m_s : Nat → Int32) (m_pasts : Int32) (m_isKept : Int32) (m_length : Int32) (m_hasStop : Int32) (m_stopAt : Int32) (m_stopWhy : Int32) (m_spot : Int32) (m_isWrong : Int32) (m_kind : Int32) (m_first : Int32) (m_second : Int32) (m_third : Int32) (m_fourth : Int32) (p1 : Int32) (o_m_s : Nat → Int32) (h : d_X6_queues p1 m_s = some o_m_s) : Met l yX6_queues wsX6_queues ({ frames := 0, cells := 0, slots := 0, locals := 0 } : Room) (kP D (kT cI cC cE) [.ref h0, .int p1] (w_X6_queues cI cC h0 h_s h_aside h_past h_snapshot h_text m_s m_pasts m_isKept m_length m_hasStop m_stopAt m_stopWhy m_spot m_isWrong m_kind m_first m_second m_third m_fourth) sz) (kQv D (kT cI cC cE) (w_X6_queues cI cC h0 h_s h_aside h_past h_snapshot h_text m_s m_pasts m_isKept m_length m_hasStop m_stopAt m_stopWhy m_spot m_isWrong m_kind m_first m_second m_third m_fourth) (w_X6_queues cI cC h0 h_s h_aside h_past h_snapshot h_text o_m_s m_pasts m_isKept m_length m_hasStop m_stopAt m_stopWhy m_spot m_isWrong m_kind m_first m_second m_third m_fourth) sz) 0 0 (va_A (w_X6_queues cI cC h0 h_s h_aside h_past h_snapshot h_text m_s m_pasts m_isKept m_length m_hasStop m_stopAt m_stopWhy m_spot m_isWrong m_kind m_first m_second m_third m_fourth) sz) := by
  refine kMetV (cc := cX6_queues) (maxL := 2) (own := RX6) (by decide) rfl (Nat.le_of_ble_eq_true rfl) rfl ?_
  intro p e s m below meth c A Q hx hb hml hown hts hP hK hD hA hS hname fin ls hl
  have hl : lv_has ls 2 [(0, .ref h0), (1, .int p1)] := hl
  have hiX6 : ∀ w ∈ u_ws RX6 TX6 18, w ∈ wsX6_queues := by decide +kernel
  dsimp only [d_X6_queues] at h
  refine lv_aload_n hx hb dX6_queues_0 rfl (lv_at hl 0 rfl) ?_
  refine va_get (ci := 6) (C := RX6) (T := TX6) (N := 18) hx hb hts hiX6 hown hK hP 0 rfl rfl 0 (by decide) (hts (.fieldLink RX6 7 "RiddleTradeModel" "s" "[I") (List.mem_of_getElem? (i := 1) rfl)) (fun _ h9 => h9) rfl dX6_queues_1 ?_
  refine lv_sipush (v := 436) hx hb dX6_queues_4 (by decide) ?_
  refine lv_aload_n hx hb dX6_queues_7 rfl (lv_at hl 0 rfl) ?_
  refine va_get (ci := 6) (C := RX6) (T := TX6) (N := 18) hx hb hts hiX6 hown hK hP 0 rfl rfl 0 (by decide) (hts (.fieldLink RX6 7 "RiddleTradeModel" "s" "[I") (List.mem_of_getElem? (i := 1) rfl)) (fun _ h9 => h9) rfl dX6_queues_8 ?_
  refine lv_sipush (v := 476) hx hb dX6_queues_11 (by decide) ?_
  refine k_iald hx hb hK hP 1 0 rfl rfl h dX6_queues_14 (fun v1 h => ?_)
  refine lv_iadd hx hb dX6_queues_15 ?_
  refine lv_iload_n hx hb dX6_queues_16 rfl (lv_at hl 1 rfl) ?_
  refine k_iast hx hb hK hP hD hS 1 0 rfl rfl h dX6_queues_17 (fun m_s_2 H locs hP hD hS h => ?_)
  have hP : va_P D vwCl (w_X6_queues cI cC h0 h_s h_aside h_past h_snapshot h_text m_s_2 m_pasts m_isKept m_length m_hasStop m_stopAt m_stopWhy m_spot m_isWrong m_kind m_first m_second m_third m_fourth) H := hP
  have hD : va_D A (w_X6_queues cI cC h0 h_s h_aside h_past h_snapshot h_text m_s_2 m_pasts m_isKept m_length m_hasStop m_stopAt m_stopWhy m_spot m_isWrong m_kind m_first m_second m_third m_fourth) := hD
  refine lv_aload_n hx hb dX6_queues_18 rfl (lv_at hl 0 rfl) ?_
  refine va_get (ci := 6) (C := RX6) (T := TX6) (N := 18) hx hb hts hiX6 hown hK hP 0 rfl rfl 0 (by decide) (hts (.fieldLink RX6 7 "RiddleTradeModel" "s" "[I") (List.mem_of_getElem? (i := 1) rfl)) (fun _ h9 => h9) rfl dX6_queues_19 ?_
  refine lv_sipush (v := 476) hx hb dX6_queues_22 (by decide) ?_
  refine lv_dup2_11 hx hb dX6_queues_25 rfl rfl ?_
  refine k_iald hx hb hK hP 1 0 rfl rfl h dX6_queues_26 (fun v3 h => ?_)
  refine lv_iconst (v := 1) hx hb dX6_queues_27 (by decide) ?_
  refine lv_iadd hx hb dX6_queues_28 ?_
  refine k_iast hx hb hK hP hD hS 1 0 rfl rfl h dX6_queues_29 (fun m_s_4 H locs hP hD hS h => ?_)
  have hP : va_P D vwCl (w_X6_queues cI cC h0 h_s h_aside h_past h_snapshot h_text m_s_4 m_pasts m_isKept m_length m_hasStop m_stopAt m_stopWhy m_spot m_isWrong m_kind m_first m_second m_third m_fourth) H := hP
  have hD : va_D A (w_X6_queues cI cC h0 h_s h_aside h_past h_snapshot h_text m_s_4 m_pasts m_isKept m_length m_hasStop m_stopAt m_stopWhy m_spot m_isWrong m_kind m_first m_second m_third m_fourth) := hD
  obtain rfl := Option.some.inj h
  exact fin _ _ _ _ dX6_queues_30 hP hD hS
abbrev w_X6_delivers (cI cC : ClassId) (h0 h_s h_aside h_past h_snapshot h_text : Nat) (m_s : Nat → Int32) (m_pasts : Int32) (m_isKept : Int32) (m_length : Int32) (m_hasStop : Int32) (m_stopAt : Int32) (m_stopWhy : Int32) (m_spot : Int32) (m_isWrong : Int32) (m_kind : Int32) (m_first : Int32) (m_second : Int32) (m_third : Int32) (m_fourth : Int32) : va_W := [(h0, .inr (6, [.ref h_s, .ref h_aside, .ref h_past, .int m_pasts, .ref h_snapshot, .int m_isKept, .ref h_text, .int m_length, .int m_hasStop, .int m_stopAt, .int m_stopWhy, .int m_spot, .int m_isWrong, .int m_kind, .int m_first, .int m_second, .int m_third, .int m_fourth])), (h_s, .inl (cI, 490, .inl m_s))]
def lp_X6_delivers_62 (p1 : Int32) (p2 : Int32) (p3 : Int32) (p4 : Int32) : Nat → Int32 → Int32 → (Nat → Int32) → Option (Int32 × (Nat → Int32))
  | 0 => fun _ _ _ => none
  | k + 1 => fun x5 x6 m_s =>
    if 8 ≤ x6 then (ob1 (rd 490 m_s 484) fun v7 =>
    ob1 (wr 490 m_s 484 (v7 + 1)) fun m_s_8 =>
    ob1 (d_X6_queues x5 m_s_8) fun m_s_9 =>
    some (x5, m_s_9))
    else (ob1 (wr 490 m_s (d_X6_ofA x5 x6) 0) fun m_s_11 =>
    (lp_X6_delivers_62  p1 p2 p3 p4 k) x5 (x6 + 1) m_s_11)
def d_X6_delivers (p1 : Int32) (p2 : Int32) (p3 : Int32) (p4 : Int32) (m_s : Nat → Int32) : Option (Int32 × (Nat → Int32)) :=
    ob1 (rd 490 m_s 484) fun v1 =>
    ob1 (wr 490 m_s (d_X6_ofA v1 0) p1) fun m_s_2 =>
    ob1 (wr 490 m_s_2 (d_X6_ofA v1 1) p2) fun m_s_3 =>
    ob1 (wr 490 m_s_3 (d_X6_ofA v1 2) p3) fun m_s_4 =>
    ob1 (wr 490 m_s_4 (d_X6_ofA v1 3) p4) fun m_s_5 =>
    lp_X6_delivers_62  p1 p2 p3 p4 fuel v1 4 m_s_5
set_option maxHeartbeats 4000000 in
set_option maxRecDepth 100000 in
theorem c_X6_delivers (l : Launch) (D : va_G) (cI cC cE : ClassId) (h0 h_s h_aside h_past h_snapshot h_text : Nat) (sz : Nat) (m_s : Nat → Int32) (m_pasts : Int32) (m_isKept : Int32) (m_length : Int32) (m_hasStop : Int32) (m_stopAt : Int32) (m_stopWhy : Int32) (m_spot : Int32) (m_isWrong : Int32) (m_kind : Int32) (m_first : Int32) (m_second : Int32) (m_third : Int32) (m_fourth : Int32) (p1 : Int32) (p2 : Int32) (p3 : Int32) (p4 : Int32) (r0 : Int32) (o_m_s : Nat → Int32) (h : d_X6_delivers p1 p2 p3 p4 m_s = some (r0, o_m_s)) : Met l yX6_delivers wsX6_delivers ({ frames := 1, cells := 0, slots := 0, locals := 21 } : Room) (kP D (kT cI cC cE) [.ref h0, .int p1, .int p2, .int p3, .int p4] (w_X6_delivers cI cC h0 h_s h_aside h_past h_snapshot h_text m_s m_pasts m_isKept m_length m_hasStop m_stopAt m_stopWhy m_spot m_isWrong m_kind m_first m_second m_third m_fourth) sz) (kQi D (kT cI cC cE) (w_X6_delivers cI cC h0 h_s h_aside h_past h_snapshot h_text m_s m_pasts m_isKept m_length m_hasStop m_stopAt m_stopWhy m_spot m_isWrong m_kind m_first m_second m_third m_fourth) (w_X6_delivers cI cC h0 h_s h_aside h_past h_snapshot h_text o_m_s m_pasts m_isKept m_length m_hasStop m_stopAt m_stopWhy m_spot m_isWrong m_kind m_first m_second m_third m_fourth) sz r0) 0 0 (va_A (w_X6_delivers cI cC h0 h_s h_aside h_past h_snapshot h_text m_s m_pasts m_isKept m_length m_hasStop m_stopAt m_stopWhy m_spot m_isWrong m_kind m_first m_second m_third m_fourth) sz) := by
  refine kMetI (cc := cX6_delivers) (maxL := 7) (own := RX6) (by decide) rfl (Nat.le_of_ble_eq_true rfl) rfl ?_
  intro p e s m below meth c A Q hx hb hml hown hts hP hK hD hA hS hname fin ls hl
  have hl : lv_has ls 7 [(0, .ref h0), (1, .int p1), (2, .int p2), (3, .int p3), (4, .int p4)] := hl
  have hiX6 : ∀ w ∈ u_ws RX6 TX6 18, w ∈ wsX6_delivers := by decide +kernel
  have hL62 : ∀ (k : Nat), ∀ (x5 : Int32) (x6 : Int32) (m_s : Nat → Int32) (H : Heap) (locs : List Loc), va_P D vwCl (w_X6_delivers cI cC h0 h_s h_aside h_past h_snapshot h_text m_s m_pasts m_isKept m_length m_hasStop m_stopAt m_stopWhy m_spot m_isWrong m_kind m_first m_second m_third m_fourth) H → va_D A (w_X6_delivers cI cC h0 h_s h_aside h_past h_snapshot h_text m_s m_pasts m_isKept m_length m_hasStop m_stopAt m_stopWhy m_spot m_isWrong m_kind m_first m_second m_third m_fourth) → va_S A s.heap H locs → ∀ (ls : Array Slot), lv_has ls 7 [(0, .ref h0), (5, .int x5), (6, .int x6)] → lp_X6_delivers_62  p1 p2 p3 p4 k x5 x6 m_s = some (r0, o_m_s) → W p l e ({ frames := 1, cells := 0, slots := 0, locals := 21 } : Room) s m [.ref h0, .int p1, .int p2, .int p3, .int p4].toArray below meth c H locs 0 0 Q (F0 m 62 ls []) := by
    intro k
    induction k with
    | zero =>
      intro x5 x6 m_s H locs hP hD hS ls hl h
      exact k_none h
    | succ k ih =>
      intro x5 x6 m_s H locs hP hD hS ls hl h
      dsimp only [lp_X6_delivers_62] at h
      refine lv_iload hx hb dX6_delivers_62 (lv_at hl 2 rfl) ?_
      refine lv_bipush (v := 8) hx hb dX6_delivers_64 (by decide) ?_
      refine lv_icmp_ge (tgt := 88) hx hb dX6_delivers_66 (by decide) (fun c6 => ?_) (fun c6 => ?_)
      · have h := (k_iB h).1 c6
        refine lv_aload_n hx hb dX6_delivers_88 rfl (lv_at hl 0 rfl) ?_
        refine va_get (ci := 6) (C := RX6) (T := TX6) (N := 18) hx hb hts hiX6 hown hK hP 0 rfl rfl 0 (by decide) (hts (.fieldLink RX6 7 "RiddleTradeModel" "s" "[I") (List.mem_of_getElem? (i := 1) rfl)) (fun _ h9 => h9) rfl dX6_delivers_89 ?_
        refine lv_sipush (v := 484) hx hb dX6_delivers_92 (by decide) ?_
        refine lv_dup2_11 hx hb dX6_delivers_95 rfl rfl ?_
        refine k_iald hx hb hK hP 1 0 rfl rfl h dX6_delivers_96 (fun v7 h => ?_)
        refine lv_iconst (v := 1) hx hb dX6_delivers_97 (by decide) ?_
        refine lv_iadd hx hb dX6_delivers_98 ?_
        refine k_iast hx hb hK hP hD hS 1 0 rfl rfl h dX6_delivers_99 (fun m_s_8 H locs hP hD hS h => ?_)
        have hP : va_P D vwCl (w_X6_delivers cI cC h0 h_s h_aside h_past h_snapshot h_text m_s_8 m_pasts m_isKept m_length m_hasStop m_stopAt m_stopWhy m_spot m_isWrong m_kind m_first m_second m_third m_fourth) H := hP
        have hD : va_D A (w_X6_delivers cI cC h0 h_s h_aside h_past h_snapshot h_text m_s_8 m_pasts m_isKept m_length m_hasStop m_stopAt m_stopWhy m_spot m_isWrong m_kind m_first m_second m_third m_fourth) := hD
        refine lv_aload_n hx hb dX6_delivers_100 rfl (lv_at hl 0 rfl) ?_
        refine lv_iload hx hb dX6_delivers_101 (lv_at hl 1 rfl) ?_
        obtain ⟨m_s_9, hu10, h⟩ := ob1_el h
        refine kcVv (ci := 6) (q := (RX6, TX6, 18)) (ws1 := (w_X6_delivers cI cC h0 h_s h_aside h_past h_snapshot h_text m_s_9 m_pasts m_isKept m_length m_hasStop m_stopAt m_stopWhy m_spot m_isWrong m_kind m_first m_second m_third m_fourth)) ⟨hx, hb, hml, hown, hts⟩ [0, 1] [] (c_X6_queues l D cI cC cE h0 h_s h_aside h_past h_snapshot h_text _ m_s_8 m_pasts m_isKept m_length m_hasStop m_stopAt m_stopWhy m_spot m_isWrong m_kind m_first m_second m_third m_fourth x5 m_s_9 hu10) (cwV 1 hts gX6_delivers_X6_queues rfl rfl rfl (by decide +kernel) ⟨Nat.le_of_ble_eq_true rfl, Nat.le_of_ble_eq_true rfl⟩) hK hP hD hS hA rfl rfl rfl rfl rfl rfl rfl rfl rfl hl.1 rfl (Nat.le_of_ble_eq_true rfl) dX6_delivers_103 ⟨Nat.le_refl 0, Nat.le_refl 0⟩ (fun H locs hP hD hS => ?_)
        refine lv_iload hx hb dX6_delivers_106 (lv_at hl 1 rfl) ?_
        obtain ⟨rfl, rfl⟩ := inj2 (Option.some.inj h)
        exact fin _ _ _ _ dX6_delivers_108 hP hD hS
      · have h := (k_iB h).2 c6
        refine lv_aload_n hx hb dX6_delivers_69 rfl (lv_at hl 0 rfl) ?_
        refine va_get (ci := 6) (C := RX6) (T := TX6) (N := 18) hx hb hts hiX6 hown hK hP 0 rfl rfl 0 (by decide) (hts (.fieldLink RX6 7 "RiddleTradeModel" "s" "[I") (List.mem_of_getElem? (i := 1) rfl)) (fun _ h9 => h9) rfl dX6_delivers_70 ?_
        refine lv_iload hx hb dX6_delivers_73 (lv_at hl 1 rfl) ?_
        refine lv_iload hx hb dX6_delivers_75 (lv_at hl 2 rfl) ?_
        refine kcSi (ws1 := (w_X6_delivers cI cC h0 h_s h_aside h_past h_snapshot h_text m_s m_pasts m_isKept m_length m_hasStop m_stopAt m_stopWhy m_spot m_isWrong m_kind m_first m_second m_third m_fourth)) ⟨hx, hb, hml, hown, hts⟩ [] [0, 1] (c_X6_ofA l D cI cC cE _ x5 x6 (d_X6_ofA x5 x6) rfl) (va_cwS 2 hts gX6_delivers_X6_ofA rfl rfl rfl (by decide +kernel) ⟨Nat.le_of_ble_eq_true rfl, Nat.le_of_ble_eq_true rfl⟩) hK hP hD hS hA rfl rfl rfl rfl rfl rfl rfl hl.1 rfl (Nat.le_of_ble_eq_true rfl) dX6_delivers_77 ⟨Nat.le_refl 0, Nat.le_refl 0⟩ (fun H locs hP hD hS => ?_)
        refine lv_iconst (v := 0) hx hb dX6_delivers_80 (by decide) ?_
        refine k_iast hx hb hK hP hD hS 1 0 rfl rfl h dX6_delivers_81 (fun m_s_11 H locs hP hD hS h => ?_)
        have hP : va_P D vwCl (w_X6_delivers cI cC h0 h_s h_aside h_past h_snapshot h_text m_s_11 m_pasts m_isKept m_length m_hasStop m_stopAt m_stopWhy m_spot m_isWrong m_kind m_first m_second m_third m_fourth) H := hP
        have hD : va_D A (w_X6_delivers cI cC h0 h_s h_aside h_past h_snapshot h_text m_s_11 m_pasts m_isKept m_length m_hasStop m_stopAt m_stopWhy m_spot m_isWrong m_kind m_first m_second m_third m_fourth) := hD
        refine lv_iinc (v := (x6 + 1)) (lv' := [(6, .int (x6 + 1)), (0, .ref h0), (5, .int x5)]) hx hb dX6_delivers_82 hl (k := 2) rfl rfl (by decide) rfl (fun ls hl => ?_)
        refine lv_goto (tgt := 62) hx hb dX6_delivers_85 (by decide) ?_
        exact ih x5 (x6 + 1) m_s_11 _ _ hP hD hS _ (lv_sub hl [1, 2, 0] rfl) h
  dsimp only [d_X6_delivers] at h
  refine lv_aload_n hx hb dX6_delivers_0 rfl (lv_at hl 0 rfl) ?_
  refine va_get (ci := 6) (C := RX6) (T := TX6) (N := 18) hx hb hts hiX6 hown hK hP 0 rfl rfl 0 (by decide) (hts (.fieldLink RX6 7 "RiddleTradeModel" "s" "[I") (List.mem_of_getElem? (i := 1) rfl)) (fun _ h9 => h9) rfl dX6_delivers_1 ?_
  refine lv_sipush (v := 484) hx hb dX6_delivers_4 (by decide) ?_
  refine k_iald hx hb hK hP 1 0 rfl rfl h dX6_delivers_7 (fun v1 h => ?_)
  refine lv_istore (lv' := [(5, .int v1), (0, .ref h0), (1, .int p1), (2, .int p2), (3, .int p3), (4, .int p4)]) hx hb dX6_delivers_8 hl (by decide) rfl (fun ls hl => ?_)
  refine lv_aload_n hx hb dX6_delivers_10 rfl (lv_at hl 1 rfl) ?_
  refine va_get (ci := 6) (C := RX6) (T := TX6) (N := 18) hx hb hts hiX6 hown hK hP 0 rfl rfl 0 (by decide) (hts (.fieldLink RX6 7 "RiddleTradeModel" "s" "[I") (List.mem_of_getElem? (i := 1) rfl)) (fun _ h9 => h9) rfl dX6_delivers_11 ?_
  refine lv_iload hx hb dX6_delivers_14 (lv_at hl 0 rfl) ?_
  refine lv_iconst (v := 0) hx hb dX6_delivers_16 (by decide) ?_
  refine kcSi (ws1 := (w_X6_delivers cI cC h0 h_s h_aside h_past h_snapshot h_text m_s m_pasts m_isKept m_length m_hasStop m_stopAt m_stopWhy m_spot m_isWrong m_kind m_first m_second m_third m_fourth)) ⟨hx, hb, hml, hown, hts⟩ [] [0, 1] (c_X6_ofA l D cI cC cE _ v1 0 (d_X6_ofA v1 0) rfl) (va_cwS 2 hts gX6_delivers_X6_ofA rfl rfl rfl (by decide +kernel) ⟨Nat.le_of_ble_eq_true rfl, Nat.le_of_ble_eq_true rfl⟩) hK hP hD hS hA rfl rfl rfl rfl rfl rfl rfl hl.1 rfl (Nat.le_of_ble_eq_true rfl) dX6_delivers_17 ⟨Nat.le_refl 0, Nat.le_refl 0⟩ (fun H locs hP hD hS => ?_)
  refine lv_iload_n hx hb dX6_delivers_20 rfl (lv_at hl 2 rfl) ?_
  refine k_iast hx hb hK hP hD hS 1 0 rfl rfl h dX6_delivers_21 (fun m_s_2 H locs hP hD hS h => ?_)
  have hP : va_P D vwCl (w_X6_delivers cI cC h0 h_s h_aside h_past h_snapshot h_text m_s_2 m_pasts m_isKept m_length m_hasStop m_stopAt m_stopWhy m_spot m_isWrong m_kind m_first m_second m_third m_fourth) H := hP
  have hD : va_D A (w_X6_delivers cI cC h0 h_s h_aside h_past h_snapshot h_text m_s_2 m_pasts m_isKept m_length m_hasStop m_stopAt m_stopWhy m_spot m_isWrong m_kind m_first m_second m_third m_fourth) := hD
  refine lv_aload_n hx hb dX6_delivers_22 rfl (lv_at hl 1 rfl) ?_
  refine va_get (ci := 6) (C := RX6) (T := TX6) (N := 18) hx hb hts hiX6 hown hK hP 0 rfl rfl 0 (by decide) (hts (.fieldLink RX6 7 "RiddleTradeModel" "s" "[I") (List.mem_of_getElem? (i := 1) rfl)) (fun _ h9 => h9) rfl dX6_delivers_23 ?_
  refine lv_iload hx hb dX6_delivers_26 (lv_at hl 0 rfl) ?_
  refine lv_iconst (v := 1) hx hb dX6_delivers_28 (by decide) ?_
  refine kcSi (ws1 := (w_X6_delivers cI cC h0 h_s h_aside h_past h_snapshot h_text m_s_2 m_pasts m_isKept m_length m_hasStop m_stopAt m_stopWhy m_spot m_isWrong m_kind m_first m_second m_third m_fourth)) ⟨hx, hb, hml, hown, hts⟩ [] [0, 1] (c_X6_ofA l D cI cC cE _ v1 1 (d_X6_ofA v1 1) rfl) (va_cwS 2 hts gX6_delivers_X6_ofA rfl rfl rfl (by decide +kernel) ⟨Nat.le_of_ble_eq_true rfl, Nat.le_of_ble_eq_true rfl⟩) hK hP hD hS hA rfl rfl rfl rfl rfl rfl rfl hl.1 rfl (Nat.le_of_ble_eq_true rfl) dX6_delivers_29 ⟨Nat.le_refl 0, Nat.le_refl 0⟩ (fun H locs hP hD hS => ?_)
  refine lv_iload_n hx hb dX6_delivers_32 rfl (lv_at hl 3 rfl) ?_
  refine k_iast hx hb hK hP hD hS 1 0 rfl rfl h dX6_delivers_33 (fun m_s_3 H locs hP hD hS h => ?_)
  have hP : va_P D vwCl (w_X6_delivers cI cC h0 h_s h_aside h_past h_snapshot h_text m_s_3 m_pasts m_isKept m_length m_hasStop m_stopAt m_stopWhy m_spot m_isWrong m_kind m_first m_second m_third m_fourth) H := hP
  have hD : va_D A (w_X6_delivers cI cC h0 h_s h_aside h_past h_snapshot h_text m_s_3 m_pasts m_isKept m_length m_hasStop m_stopAt m_stopWhy m_spot m_isWrong m_kind m_first m_second m_third m_fourth) := hD
  refine lv_aload_n hx hb dX6_delivers_34 rfl (lv_at hl 1 rfl) ?_
  refine va_get (ci := 6) (C := RX6) (T := TX6) (N := 18) hx hb hts hiX6 hown hK hP 0 rfl rfl 0 (by decide) (hts (.fieldLink RX6 7 "RiddleTradeModel" "s" "[I") (List.mem_of_getElem? (i := 1) rfl)) (fun _ h9 => h9) rfl dX6_delivers_35 ?_
  refine lv_iload hx hb dX6_delivers_38 (lv_at hl 0 rfl) ?_
  refine lv_iconst (v := 2) hx hb dX6_delivers_40 (by decide) ?_
  refine kcSi (ws1 := (w_X6_delivers cI cC h0 h_s h_aside h_past h_snapshot h_text m_s_3 m_pasts m_isKept m_length m_hasStop m_stopAt m_stopWhy m_spot m_isWrong m_kind m_first m_second m_third m_fourth)) ⟨hx, hb, hml, hown, hts⟩ [] [0, 1] (c_X6_ofA l D cI cC cE _ v1 2 (d_X6_ofA v1 2) rfl) (va_cwS 2 hts gX6_delivers_X6_ofA rfl rfl rfl (by decide +kernel) ⟨Nat.le_of_ble_eq_true rfl, Nat.le_of_ble_eq_true rfl⟩) hK hP hD hS hA rfl rfl rfl rfl rfl rfl rfl hl.1 rfl (Nat.le_of_ble_eq_true rfl) dX6_delivers_41 ⟨Nat.le_refl 0, Nat.le_refl 0⟩ (fun H locs hP hD hS => ?_)
  refine lv_iload_n hx hb dX6_delivers_44 rfl (lv_at hl 4 rfl) ?_
  refine k_iast hx hb hK hP hD hS 1 0 rfl rfl h dX6_delivers_45 (fun m_s_4 H locs hP hD hS h => ?_)
  have hP : va_P D vwCl (w_X6_delivers cI cC h0 h_s h_aside h_past h_snapshot h_text m_s_4 m_pasts m_isKept m_length m_hasStop m_stopAt m_stopWhy m_spot m_isWrong m_kind m_first m_second m_third m_fourth) H := hP
  have hD : va_D A (w_X6_delivers cI cC h0 h_s h_aside h_past h_snapshot h_text m_s_4 m_pasts m_isKept m_length m_hasStop m_stopAt m_stopWhy m_spot m_isWrong m_kind m_first m_second m_third m_fourth) := hD
  refine lv_aload_n hx hb dX6_delivers_46 rfl (lv_at hl 1 rfl) ?_
  refine va_get (ci := 6) (C := RX6) (T := TX6) (N := 18) hx hb hts hiX6 hown hK hP 0 rfl rfl 0 (by decide) (hts (.fieldLink RX6 7 "RiddleTradeModel" "s" "[I") (List.mem_of_getElem? (i := 1) rfl)) (fun _ h9 => h9) rfl dX6_delivers_47 ?_
  refine lv_iload hx hb dX6_delivers_50 (lv_at hl 0 rfl) ?_
  refine lv_iconst (v := 3) hx hb dX6_delivers_52 (by decide) ?_
  refine kcSi (ws1 := (w_X6_delivers cI cC h0 h_s h_aside h_past h_snapshot h_text m_s_4 m_pasts m_isKept m_length m_hasStop m_stopAt m_stopWhy m_spot m_isWrong m_kind m_first m_second m_third m_fourth)) ⟨hx, hb, hml, hown, hts⟩ [] [0, 1] (c_X6_ofA l D cI cC cE _ v1 3 (d_X6_ofA v1 3) rfl) (va_cwS 2 hts gX6_delivers_X6_ofA rfl rfl rfl (by decide +kernel) ⟨Nat.le_of_ble_eq_true rfl, Nat.le_of_ble_eq_true rfl⟩) hK hP hD hS hA rfl rfl rfl rfl rfl rfl rfl hl.1 rfl (Nat.le_of_ble_eq_true rfl) dX6_delivers_53 ⟨Nat.le_refl 0, Nat.le_refl 0⟩ (fun H locs hP hD hS => ?_)
  refine lv_iload hx hb dX6_delivers_56 (lv_at hl 5 rfl) ?_
  refine k_iast hx hb hK hP hD hS 1 0 rfl rfl h dX6_delivers_58 (fun m_s_5 H locs hP hD hS h => ?_)
  have hP : va_P D vwCl (w_X6_delivers cI cC h0 h_s h_aside h_past h_snapshot h_text m_s_5 m_pasts m_isKept m_length m_hasStop m_stopAt m_stopWhy m_spot m_isWrong m_kind m_first m_second m_third m_fourth) H := hP
  have hD : va_D A (w_X6_delivers cI cC h0 h_s h_aside h_past h_snapshot h_text m_s_5 m_pasts m_isKept m_length m_hasStop m_stopAt m_stopWhy m_spot m_isWrong m_kind m_first m_second m_third m_fourth) := hD
  refine lv_iconst (v := 4) hx hb dX6_delivers_59 (by decide) ?_
  refine lv_istore (lv' := [(6, .int 4), (5, .int v1), (0, .ref h0), (1, .int p1), (2, .int p2), (3, .int p3), (4, .int p4)]) hx hb dX6_delivers_60 hl (by decide) rfl (fun ls hl => ?_)
  exact hL62   fuel v1 4 m_s_5 _ _ hP hD hS _ (lv_sub hl [2, 1, 0] rfl) h
