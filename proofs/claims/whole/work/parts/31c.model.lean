abbrev w_X6_inState (cI cC : ClassId) (h0 h_s h_aside h_past h_snapshot h_text : Nat) (m_s : Nat → Int32) (m_pasts : Int32) (m_isKept : Int32) (m_length : Int32) (m_hasStop : Int32) (m_stopAt : Int32) (m_stopWhy : Int32) (m_spot : Int32) (m_isWrong : Int32) (m_kind : Int32) (m_first : Int32) (m_second : Int32) (m_third : Int32) (m_fourth : Int32) : va_W := [(h0, .inr (6, [.ref h_s, .ref h_aside, .ref h_past, .int m_pasts, .ref h_snapshot, .int m_isKept, .ref h_text, .int m_length, .int m_hasStop, .int m_stopAt, .int m_stopWhy, .int m_spot, .int m_isWrong, .int m_kind, .int m_first, .int m_second, .int m_third, .int m_fourth])), (h_s, .inl (cI, 490, .inl m_s))]
def lp_X6_inState_4 (m_s : Nat → Int32) (p1 : Int32) : Nat → Int32 → Int32 → Option (Int32)
  | 0 => fun _ _ => none
  | k + 1 => fun x2 x3 =>
    ob1 (rd 490 m_s 484) fun v1 =>
    if v1 ≤ x3 then (some x2)
    else (ob1 (rd 490 m_s (d_X6_ofA x3 4)) fun v3 =>
    if v3 = p1 then ((lp_X6_inState_4  m_s p1 k) (x2 + 1) (x3 + 1))
    else ((lp_X6_inState_4  m_s p1 k) (x2 + 0) (x3 + 1)))
def d_X6_inState (p1 : Int32) (m_s : Nat → Int32) : Option (Int32) :=
    lp_X6_inState_4  m_s p1 fuel 0 0
set_option maxHeartbeats 4000000 in
set_option maxRecDepth 100000 in
theorem c_X6_inState (l : Launch) (D : va_G) (cI cC cE : ClassId) (h0 h_s h_aside h_past h_snapshot h_text : Nat) (sz : Nat) (m_s : Nat → Int32) (m_pasts : Int32) (m_isKept : Int32) (m_length : Int32) (m_hasStop : Int32) (m_stopAt : Int32) (m_stopWhy : Int32) (m_spot : Int32) (m_isWrong : Int32) (m_kind : Int32) (m_first : Int32) (m_second : Int32) (m_third : Int32) (m_fourth : Int32) (p1 : Int32) (r0 : Int32) (h : d_X6_inState p1 m_s = some r0) : Met l yX6_inState wsX6_inState ({ frames := 1, cells := 0, slots := 0, locals := 21 } : Room) (kP D (kT cI cC cE) [.ref h0, .int p1] (w_X6_inState cI cC h0 h_s h_aside h_past h_snapshot h_text m_s m_pasts m_isKept m_length m_hasStop m_stopAt m_stopWhy m_spot m_isWrong m_kind m_first m_second m_third m_fourth) sz) (kQi D (kT cI cC cE) (w_X6_inState cI cC h0 h_s h_aside h_past h_snapshot h_text m_s m_pasts m_isKept m_length m_hasStop m_stopAt m_stopWhy m_spot m_isWrong m_kind m_first m_second m_third m_fourth) (w_X6_inState cI cC h0 h_s h_aside h_past h_snapshot h_text m_s m_pasts m_isKept m_length m_hasStop m_stopAt m_stopWhy m_spot m_isWrong m_kind m_first m_second m_third m_fourth) sz r0) 0 0 (va_A (w_X6_inState cI cC h0 h_s h_aside h_past h_snapshot h_text m_s m_pasts m_isKept m_length m_hasStop m_stopAt m_stopWhy m_spot m_isWrong m_kind m_first m_second m_third m_fourth) sz) := by
  refine kMetI (cc := cX6_inState) (maxL := 4) (own := RX6) (by decide) rfl (Nat.le_of_ble_eq_true rfl) rfl ?_
  intro p e s m below meth c A Q hx hb hml hown hts hP hK hD hA hS hname fin ls hl
  have hl : lv_has ls 4 [(0, .ref h0), (1, .int p1)] := hl
  have hiX6 : ∀ w ∈ u_ws RX6 TX6 18, w ∈ wsX6_inState := by decide +kernel
  have hL4 : ∀ (k : Nat), ∀ (x2 : Int32) (x3 : Int32) (H : Heap) (locs : List Loc), va_P D vwCl (w_X6_inState cI cC h0 h_s h_aside h_past h_snapshot h_text m_s m_pasts m_isKept m_length m_hasStop m_stopAt m_stopWhy m_spot m_isWrong m_kind m_first m_second m_third m_fourth) H → va_D A (w_X6_inState cI cC h0 h_s h_aside h_past h_snapshot h_text m_s m_pasts m_isKept m_length m_hasStop m_stopAt m_stopWhy m_spot m_isWrong m_kind m_first m_second m_third m_fourth) → va_S A s.heap H locs → ∀ (ls : Array Slot), lv_has ls 4 [(0, .ref h0), (1, .int p1), (2, .int x2), (3, .int x3)] → lp_X6_inState_4  m_s p1 k x2 x3 = some r0 → W p l e ({ frames := 1, cells := 0, slots := 0, locals := 21 } : Room) s m [.ref h0, .int p1].toArray below meth c H locs 0 0 Q (F0 m 4 ls []) := by
    intro k
    induction k with
    | zero =>
      intro x2 x3 H locs hP hD hS ls hl h
      exact k_none h
    | succ k ih =>
      intro x2 x3 H locs hP hD hS ls hl h
      dsimp only [lp_X6_inState_4] at h
      refine lv_iload_n hx hb dX6_inState_4 rfl (lv_at hl 3 rfl) ?_
      refine lv_aload_n hx hb dX6_inState_5 rfl (lv_at hl 0 rfl) ?_
      refine va_get (ci := 6) (C := RX6) (T := TX6) (N := 18) hx hb hts hiX6 hown hK hP 0 rfl rfl 0 (by decide) (hts (.fieldLink RX6 7 "RiddleTradeModel" "s" "[I") (List.mem_of_getElem? (i := 1) rfl)) (fun _ h9 => h9) rfl dX6_inState_6 ?_
      refine lv_sipush (v := 484) hx hb dX6_inState_9 (by decide) ?_
      refine k_iald hx hb hK hP 1 0 rfl rfl h dX6_inState_12 (fun v1 h => ?_)
      refine lv_icmp_ge (tgt := 44) hx hb dX6_inState_13 (by decide) (fun c2 => ?_) (fun c2 => ?_)
      · have h := (k_iB h).1 c2
        refine lv_iload_n hx hb dX6_inState_44 rfl (lv_at hl 2 rfl) ?_
        obtain rfl := Option.some.inj h
        exact fin _ _ _ _ dX6_inState_45 hP hD hS
      · have h := (k_iB h).2 c2
        refine lv_iload_n hx hb dX6_inState_16 rfl (lv_at hl 2 rfl) ?_
        refine lv_aload_n hx hb dX6_inState_17 rfl (lv_at hl 0 rfl) ?_
        refine va_get (ci := 6) (C := RX6) (T := TX6) (N := 18) hx hb hts hiX6 hown hK hP 0 rfl rfl 0 (by decide) (hts (.fieldLink RX6 7 "RiddleTradeModel" "s" "[I") (List.mem_of_getElem? (i := 1) rfl)) (fun _ h9 => h9) rfl dX6_inState_18 ?_
        refine lv_iload_n hx hb dX6_inState_21 rfl (lv_at hl 3 rfl) ?_
        refine lv_iconst (v := 4) hx hb dX6_inState_22 (by decide) ?_
        refine kcSi (ws1 := (w_X6_inState cI cC h0 h_s h_aside h_past h_snapshot h_text m_s m_pasts m_isKept m_length m_hasStop m_stopAt m_stopWhy m_spot m_isWrong m_kind m_first m_second m_third m_fourth)) ⟨hx, hb, hml, hown, hts⟩ [] [0, 1] (c_X6_ofA l D cI cC cE _ x3 4 (d_X6_ofA x3 4) rfl) (va_cwS 2 hts gX6_inState_X6_ofA rfl rfl rfl (by decide +kernel) ⟨Nat.le_of_ble_eq_true rfl, Nat.le_of_ble_eq_true rfl⟩) hK hP hD hS hA rfl rfl rfl rfl rfl rfl rfl hl.1 rfl (Nat.le_of_ble_eq_true rfl) dX6_inState_23 ⟨Nat.le_refl 0, Nat.le_refl 0⟩ (fun H locs hP hD hS => ?_)
        refine k_iald hx hb hK hP 1 0 rfl rfl h dX6_inState_26 (fun v3 h => ?_)
        refine lv_iload_n hx hb dX6_inState_27 rfl (lv_at hl 1 rfl) ?_
        refine lv_icmp_ne (tgt := 35) hx hb dX6_inState_28 (by decide) (fun c4 => ?_) (fun c4 => ?_)
        · have h := (k_iB h).2 c4
          refine lv_iconst (v := 0) hx hb dX6_inState_35 (by decide) ?_
          refine lv_iadd hx hb dX6_inState_36 ?_
          refine lv_istore_n (lv' := [(2, .int (x2 + 0)), (0, .ref h0), (1, .int p1), (3, .int x3)]) hx hb dX6_inState_37 rfl hl (by decide) rfl (fun ls hl => ?_)
          refine lv_iinc (v := (x3 + 1)) (lv' := [(3, .int (x3 + 1)), (2, .int (x2 + 0)), (0, .ref h0), (1, .int p1)]) hx hb dX6_inState_38 hl (k := 3) rfl rfl (by decide) rfl (fun ls hl => ?_)
          refine lv_goto (tgt := 4) hx hb dX6_inState_41 (by decide) ?_
          exact ih (x2 + 0) (x3 + 1) _ _ hP hD hS _ (lv_sub hl [2, 3, 1, 0] rfl) h
        · have h := (k_iB h).1 c4
          refine lv_iconst (v := 1) hx hb dX6_inState_31 (by decide) ?_
          refine lv_goto (tgt := 36) hx hb dX6_inState_32 (by decide) ?_
          refine lv_iadd hx hb dX6_inState_36 ?_
          refine lv_istore_n (lv' := [(2, .int (x2 + 1)), (0, .ref h0), (1, .int p1), (3, .int x3)]) hx hb dX6_inState_37 rfl hl (by decide) rfl (fun ls hl => ?_)
          refine lv_iinc (v := (x3 + 1)) (lv' := [(3, .int (x3 + 1)), (2, .int (x2 + 1)), (0, .ref h0), (1, .int p1)]) hx hb dX6_inState_38 hl (k := 3) rfl rfl (by decide) rfl (fun ls hl => ?_)
          refine lv_goto (tgt := 4) hx hb dX6_inState_41 (by decide) ?_
          exact ih (x2 + 1) (x3 + 1) _ _ hP hD hS _ (lv_sub hl [2, 3, 1, 0] rfl) h
  dsimp only [d_X6_inState] at h
  refine lv_iconst (v := 0) hx hb dX6_inState_0 (by decide) ?_
  refine lv_istore_n (lv' := [(2, .int 0), (0, .ref h0), (1, .int p1)]) hx hb dX6_inState_1 rfl hl (by decide) rfl (fun ls hl => ?_)
  refine lv_iconst (v := 0) hx hb dX6_inState_2 (by decide) ?_
  refine lv_istore_n (lv' := [(3, .int 0), (2, .int 0), (0, .ref h0), (1, .int p1)]) hx hb dX6_inState_3 rfl hl (by decide) rfl (fun ls hl => ?_)
  exact hL4   fuel 0 0 _ _ hP hD hS _ (lv_sub hl [2, 3, 1, 0] rfl) h
abbrev w_X6_passes (cI cC : ClassId) (h0 h_s h_aside h_past h_snapshot h_text : Nat) (m_s : Nat → Int32) (m_pasts : Int32) (m_isKept : Int32) (m_length : Int32) (m_hasStop : Int32) (m_stopAt : Int32) (m_stopWhy : Int32) (m_spot : Int32) (m_isWrong : Int32) (m_kind : Int32) (m_first : Int32) (m_second : Int32) (m_third : Int32) (m_fourth : Int32) : va_W := [(h0, .inr (6, [.ref h_s, .ref h_aside, .ref h_past, .int m_pasts, .ref h_snapshot, .int m_isKept, .ref h_text, .int m_length, .int m_hasStop, .int m_stopAt, .int m_stopWhy, .int m_spot, .int m_isWrong, .int m_kind, .int m_first, .int m_second, .int m_third, .int m_fourth])), (h_s, .inl (cI, 490, .inl m_s))]
def lp_X6_passes_8 (p1 : Int32) : Nat → Int32 → Int32 → (Nat → Int32) → Option (Int32 × (Nat → Int32))
  | 0 => fun _ _ _ => none
  | k + 1 => fun x2 x3 m_s =>
    if p1 ≤ x3 then (ob1 (d_X6_inState 1 m_s) fun r4 =>
    some ((r4 - x2), m_s))
    else (ob1 (d_X6_round m_s) fun m_s_6 =>
    (lp_X6_passes_8  p1 k) x2 (x3 + 1) m_s_6)
def d_X6_passes (p1 : Int32) (m_s : Nat → Int32) : Option (Int32 × (Nat → Int32)) :=
    ob1 (d_X6_inState 1 m_s) fun r1 =>
    lp_X6_passes_8  p1 fuel r1 0 m_s
set_option maxHeartbeats 4000000 in
set_option maxRecDepth 100000 in
theorem c_X6_passes (l : Launch) (D : va_G) (cI cC cE : ClassId) (h0 h_s h_aside h_past h_snapshot h_text : Nat) (sz : Nat) (m_s : Nat → Int32) (m_pasts : Int32) (m_isKept : Int32) (m_length : Int32) (m_hasStop : Int32) (m_stopAt : Int32) (m_stopWhy : Int32) (m_spot : Int32) (m_isWrong : Int32) (m_kind : Int32) (m_first : Int32) (m_second : Int32) (m_third : Int32) (m_fourth : Int32) (p1 : Int32) (r0 : Int32) (o_m_s : Nat → Int32) (h : d_X6_passes p1 m_s = some (r0, o_m_s)) : Met l yX6_passes wsX6_passes ({ frames := 4, cells := 0, slots := 0, locals := 93 } : Room) (kP D (kT cI cC cE) [.ref h0, .int p1] (w_X6_passes cI cC h0 h_s h_aside h_past h_snapshot h_text m_s m_pasts m_isKept m_length m_hasStop m_stopAt m_stopWhy m_spot m_isWrong m_kind m_first m_second m_third m_fourth) sz) (kQi D (kT cI cC cE) (w_X6_passes cI cC h0 h_s h_aside h_past h_snapshot h_text m_s m_pasts m_isKept m_length m_hasStop m_stopAt m_stopWhy m_spot m_isWrong m_kind m_first m_second m_third m_fourth) (w_X6_passes cI cC h0 h_s h_aside h_past h_snapshot h_text o_m_s m_pasts m_isKept m_length m_hasStop m_stopAt m_stopWhy m_spot m_isWrong m_kind m_first m_second m_third m_fourth) sz r0) 0 0 (va_A (w_X6_passes cI cC h0 h_s h_aside h_past h_snapshot h_text m_s m_pasts m_isKept m_length m_hasStop m_stopAt m_stopWhy m_spot m_isWrong m_kind m_first m_second m_third m_fourth) sz) := by
  refine kMetI (cc := cX6_passes) (maxL := 4) (own := RX6) (by decide) rfl (Nat.le_of_ble_eq_true rfl) rfl ?_
  intro p e s m below meth c A Q hx hb hml hown hts hP hK hD hA hS hname fin ls hl
  have hl : lv_has ls 4 [(0, .ref h0), (1, .int p1)] := hl
  have hL8 : ∀ (k : Nat), ∀ (x2 : Int32) (x3 : Int32) (m_s : Nat → Int32) (H : Heap) (locs : List Loc), va_P D vwCl (w_X6_passes cI cC h0 h_s h_aside h_past h_snapshot h_text m_s m_pasts m_isKept m_length m_hasStop m_stopAt m_stopWhy m_spot m_isWrong m_kind m_first m_second m_third m_fourth) H → va_D A (w_X6_passes cI cC h0 h_s h_aside h_past h_snapshot h_text m_s m_pasts m_isKept m_length m_hasStop m_stopAt m_stopWhy m_spot m_isWrong m_kind m_first m_second m_third m_fourth) → va_S A s.heap H locs → ∀ (ls : Array Slot), lv_has ls 4 [(0, .ref h0), (1, .int p1), (2, .int x2), (3, .int x3)] → lp_X6_passes_8  p1 k x2 x3 m_s = some (r0, o_m_s) → W p l e ({ frames := 4, cells := 0, slots := 0, locals := 93 } : Room) s m [.ref h0, .int p1].toArray below meth c H locs 0 0 Q (F0 m 8 ls []) := by
    intro k
    induction k with
    | zero =>
      intro x2 x3 m_s H locs hP hD hS ls hl h
      exact k_none h
    | succ k ih =>
      intro x2 x3 m_s H locs hP hD hS ls hl h
      dsimp only [lp_X6_passes_8] at h
      refine lv_iload_n hx hb dX6_passes_8 rfl (lv_at hl 3 rfl) ?_
      refine lv_iload_n hx hb dX6_passes_9 rfl (lv_at hl 1 rfl) ?_
      refine lv_icmp_ge (tgt := 23) hx hb dX6_passes_10 (by decide) (fun c3 => ?_) (fun c3 => ?_)
      · have h := (k_iB h).1 c3
        refine lv_aload_n hx hb dX6_passes_23 rfl (lv_at hl 0 rfl) ?_
        refine lv_iconst (v := 1) hx hb dX6_passes_24 (by decide) ?_
        obtain ⟨r4, hu5, h⟩ := ob1_el h
        refine kcVi (ci := 6) (q := (RX6, TX6, 18)) (ws1 := (w_X6_passes cI cC h0 h_s h_aside h_past h_snapshot h_text m_s m_pasts m_isKept m_length m_hasStop m_stopAt m_stopWhy m_spot m_isWrong m_kind m_first m_second m_third m_fourth)) ⟨hx, hb, hml, hown, hts⟩ [0, 1] [] (c_X6_inState l D cI cC cE h0 h_s h_aside h_past h_snapshot h_text _ m_s m_pasts m_isKept m_length m_hasStop m_stopAt m_stopWhy m_spot m_isWrong m_kind m_first m_second m_third m_fourth 1 r4 hu5) (cwV 1 hts gX6_passes_X6_inState rfl rfl rfl (by decide +kernel) ⟨Nat.le_of_ble_eq_true rfl, Nat.le_of_ble_eq_true rfl⟩) hK hP hD hS hA rfl rfl rfl rfl rfl rfl rfl rfl rfl hl.1 rfl (Nat.le_of_ble_eq_true rfl) dX6_passes_25 ⟨Nat.le_refl 0, Nat.le_refl 0⟩ (fun H locs hP hD hS => ?_)
        refine lv_iload_n hx hb dX6_passes_28 rfl (lv_at hl 2 rfl) ?_
        refine lv_isub hx hb dX6_passes_29 ?_
        obtain ⟨rfl, rfl⟩ := inj2 (Option.some.inj h)
        exact fin _ _ _ _ dX6_passes_30 hP hD hS
      · have h := (k_iB h).2 c3
        refine lv_aload_n hx hb dX6_passes_13 rfl (lv_at hl 0 rfl) ?_
        obtain ⟨m_s_6, hu7, h⟩ := ob1_el h
        refine kcVv (ci := 6) (q := (RX6, TX6, 18)) (ws1 := (w_X6_passes cI cC h0 h_s h_aside h_past h_snapshot h_text m_s_6 m_pasts m_isKept m_length m_hasStop m_stopAt m_stopWhy m_spot m_isWrong m_kind m_first m_second m_third m_fourth)) ⟨hx, hb, hml, hown, hts⟩ [0, 1] [] (c_X6_round l D cI cC cE h0 h_s h_aside h_past h_snapshot h_text _ m_s m_pasts m_isKept m_length m_hasStop m_stopAt m_stopWhy m_spot m_isWrong m_kind m_first m_second m_third m_fourth m_s_6 hu7) (cwV 0 hts gX6_passes_X6_round rfl rfl rfl (by decide +kernel) ⟨Nat.le_of_ble_eq_true rfl, Nat.le_of_ble_eq_true rfl⟩) hK hP hD hS hA rfl rfl rfl rfl rfl rfl rfl rfl rfl hl.1 rfl (Nat.le_of_ble_eq_true rfl) dX6_passes_14 ⟨Nat.le_refl 0, Nat.le_refl 0⟩ (fun H locs hP hD hS => ?_)
        refine lv_iinc (v := (x3 + 1)) (lv' := [(3, .int (x3 + 1)), (0, .ref h0), (1, .int p1), (2, .int x2)]) hx hb dX6_passes_17 hl (k := 3) rfl rfl (by decide) rfl (fun ls hl => ?_)
        refine lv_goto (tgt := 8) hx hb dX6_passes_20 (by decide) ?_
        exact ih x2 (x3 + 1) m_s_6 _ _ hP hD hS _ (lv_sub hl [1, 2, 3, 0] rfl) h
  dsimp only [d_X6_passes] at h
  refine lv_aload_n hx hb dX6_passes_0 rfl (lv_at hl 0 rfl) ?_
  refine lv_iconst (v := 1) hx hb dX6_passes_1 (by decide) ?_
  obtain ⟨r1, hu2, h⟩ := ob1_el h
  refine kcVi (ci := 6) (q := (RX6, TX6, 18)) (ws1 := (w_X6_passes cI cC h0 h_s h_aside h_past h_snapshot h_text m_s m_pasts m_isKept m_length m_hasStop m_stopAt m_stopWhy m_spot m_isWrong m_kind m_first m_second m_third m_fourth)) ⟨hx, hb, hml, hown, hts⟩ [0, 1] [] (c_X6_inState l D cI cC cE h0 h_s h_aside h_past h_snapshot h_text _ m_s m_pasts m_isKept m_length m_hasStop m_stopAt m_stopWhy m_spot m_isWrong m_kind m_first m_second m_third m_fourth 1 r1 hu2) (cwV 1 hts gX6_passes_X6_inState rfl rfl rfl (by decide +kernel) ⟨Nat.le_of_ble_eq_true rfl, Nat.le_of_ble_eq_true rfl⟩) hK hP hD hS hA rfl rfl rfl rfl rfl rfl rfl rfl rfl hl.1 rfl (Nat.le_of_ble_eq_true rfl) dX6_passes_2 ⟨Nat.le_refl 0, Nat.le_refl 0⟩ (fun H locs hP hD hS => ?_)
  refine lv_istore_n (lv' := [(2, .int r1), (0, .ref h0), (1, .int p1)]) hx hb dX6_passes_5 rfl hl (by decide) rfl (fun ls hl => ?_)
  refine lv_iconst (v := 0) hx hb dX6_passes_6 (by decide) ?_
  refine lv_istore_n (lv' := [(3, .int 0), (2, .int r1), (0, .ref h0), (1, .int p1)]) hx hb dX6_passes_7 rfl hl (by decide) rfl (fun ls hl => ?_)
  exact hL8   fuel r1 0 m_s _ _ hP hD hS _ (lv_sub hl [2, 3, 1, 0] rfl) h
abbrev w_X6_barPass (cI cC : ClassId) (h0 h_s h_aside h_past h_snapshot h_text : Nat) (m_s : Nat → Int32) (m_pasts : Int32) (m_isKept : Int32) (m_length : Int32) (m_hasStop : Int32) (m_stopAt : Int32) (m_stopWhy : Int32) (m_spot : Int32) (m_isWrong : Int32) (m_kind : Int32) (m_first : Int32) (m_second : Int32) (m_third : Int32) (m_fourth : Int32) : va_W := [(h0, .inr (6, [.ref h_s, .ref h_aside, .ref h_past, .int m_pasts, .ref h_snapshot, .int m_isKept, .ref h_text, .int m_length, .int m_hasStop, .int m_stopAt, .int m_stopWhy, .int m_spot, .int m_isWrong, .int m_kind, .int m_first, .int m_second, .int m_third, .int m_fourth])), (h_s, .inl (cI, 490, .inl m_s))]
def d_X6_barPass (p1 : Int32) (m_s : Nat → Int32) : Option (Int32) :=
    if (d_X6_in p1 1 99) = 0 then (some (-2))
    else (ob1 (rd 490 m_s 485) fun v2 =>
    if (v2 + p1) ≤ 9999 then (some 0)
    else (some (-3)))
set_option maxHeartbeats 4000000 in
set_option maxRecDepth 100000 in
theorem c_X6_barPass (l : Launch) (D : va_G) (cI cC cE : ClassId) (h0 h_s h_aside h_past h_snapshot h_text : Nat) (sz : Nat) (m_s : Nat → Int32) (m_pasts : Int32) (m_isKept : Int32) (m_length : Int32) (m_hasStop : Int32) (m_stopAt : Int32) (m_stopWhy : Int32) (m_spot : Int32) (m_isWrong : Int32) (m_kind : Int32) (m_first : Int32) (m_second : Int32) (m_third : Int32) (m_fourth : Int32) (p1 : Int32) (r0 : Int32) (h : d_X6_barPass p1 m_s = some r0) : Met l yX6_barPass wsX6_barPass ({ frames := 1, cells := 0, slots := 0, locals := 22 } : Room) (kP D (kT cI cC cE) [.ref h0, .int p1] (w_X6_barPass cI cC h0 h_s h_aside h_past h_snapshot h_text m_s m_pasts m_isKept m_length m_hasStop m_stopAt m_stopWhy m_spot m_isWrong m_kind m_first m_second m_third m_fourth) sz) (kQi D (kT cI cC cE) (w_X6_barPass cI cC h0 h_s h_aside h_past h_snapshot h_text m_s m_pasts m_isKept m_length m_hasStop m_stopAt m_stopWhy m_spot m_isWrong m_kind m_first m_second m_third m_fourth) (w_X6_barPass cI cC h0 h_s h_aside h_past h_snapshot h_text m_s m_pasts m_isKept m_length m_hasStop m_stopAt m_stopWhy m_spot m_isWrong m_kind m_first m_second m_third m_fourth) sz r0) 0 0 (va_A (w_X6_barPass cI cC h0 h_s h_aside h_past h_snapshot h_text m_s m_pasts m_isKept m_length m_hasStop m_stopAt m_stopWhy m_spot m_isWrong m_kind m_first m_second m_third m_fourth) sz) := by
  refine kMetI (cc := cX6_barPass) (maxL := 2) (own := RX6) (by decide) rfl (Nat.le_of_ble_eq_true rfl) rfl ?_
  intro p e s m below meth c A Q hx hb hml hown hts hP hK hD hA hS hname fin ls hl
  have hl : lv_has ls 2 [(0, .ref h0), (1, .int p1)] := hl
  have hiX6 : ∀ w ∈ u_ws RX6 TX6 18, w ∈ wsX6_barPass := by decide +kernel
  dsimp only [d_X6_barPass] at h
  refine lv_iload_n hx hb dX6_barPass_0 rfl (lv_at hl 1 rfl) ?_
  refine lv_iconst (v := 1) hx hb dX6_barPass_1 (by decide) ?_
  refine lv_bipush (v := 99) hx hb dX6_barPass_2 (by decide) ?_
  refine kcSi (ws1 := (w_X6_barPass cI cC h0 h_s h_aside h_past h_snapshot h_text m_s m_pasts m_isKept m_length m_hasStop m_stopAt m_stopWhy m_spot m_isWrong m_kind m_first m_second m_third m_fourth)) ⟨hx, hb, hml, hown, hts⟩ [] [0, 1] (c_X6_in l D cI cC cE _ p1 1 99 (d_X6_in p1 1 99) rfl) (va_cwS 3 hts gX6_barPass_X6_in rfl rfl rfl (by decide +kernel) ⟨Nat.le_of_ble_eq_true rfl, Nat.le_of_ble_eq_true rfl⟩) hK hP hD hS hA rfl rfl rfl rfl rfl rfl rfl hl.1 rfl (Nat.le_of_ble_eq_true rfl) dX6_barPass_4 ⟨Nat.le_refl 0, Nat.le_refl 0⟩ (fun H locs hP hD hS => ?_)
  refine lv_if_ne (tgt := 15) hx hb dX6_barPass_7 (by decide) (fun c1 => ?_) (fun c1 => ?_)
  · have h := (k_iB h).2 c1
    refine lv_aload_n hx hb dX6_barPass_15 rfl (lv_at hl 0 rfl) ?_
    refine va_get (ci := 6) (C := RX6) (T := TX6) (N := 18) hx hb hts hiX6 hown hK hP 0 rfl rfl 0 (by decide) (hts (.fieldLink RX6 7 "RiddleTradeModel" "s" "[I") (List.mem_of_getElem? (i := 1) rfl)) (fun _ h9 => h9) rfl dX6_barPass_16 ?_
    refine lv_sipush (v := 485) hx hb dX6_barPass_19 (by decide) ?_
    refine k_iald hx hb hK hP 1 0 rfl rfl h dX6_barPass_22 (fun v2 h => ?_)
    refine lv_iload_n hx hb dX6_barPass_23 rfl (lv_at hl 1 rfl) ?_
    refine lv_iadd hx hb dX6_barPass_24 ?_
    refine lv_sipush (v := 9999) hx hb dX6_barPass_25 (by decide) ?_
    refine lv_icmp_le (tgt := 36) hx hb dX6_barPass_28 (by decide) (fun c3 => ?_) (fun c3 => ?_)
    · have h := (k_iB h).1 c3
      refine lv_iconst (v := 0) hx hb dX6_barPass_36 (by decide) ?_
      obtain rfl := Option.some.inj h
      exact fin _ _ _ _ dX6_barPass_37 hP hD hS
    · have h := (k_iB h).2 c3
      refine lv_bipush (v := (-3)) hx hb dX6_barPass_31 (by decide) ?_
      refine lv_goto (tgt := 37) hx hb dX6_barPass_33 (by decide) ?_
      obtain rfl := Option.some.inj h
      exact fin _ _ _ _ dX6_barPass_37 hP hD hS
  · have h := (k_iB h).1 c1
    refine lv_bipush (v := (-2)) hx hb dX6_barPass_10 (by decide) ?_
    refine lv_goto (tgt := 37) hx hb dX6_barPass_12 (by decide) ?_
    obtain rfl := Option.some.inj h
    exact fin _ _ _ _ dX6_barPass_37 hP hD hS
abbrev w_X6_pass (cI cC : ClassId) (h0 h_s h_aside h_past h_snapshot h_text : Nat) (m_s : Nat → Int32) (m_past : Nat → Int32) (m_pasts : Int32) (m_isKept : Int32) (m_length : Int32) (m_hasStop : Int32) (m_stopAt : Int32) (m_stopWhy : Int32) (m_spot : Int32) (m_isWrong : Int32) (m_kind : Int32) (m_first : Int32) (m_second : Int32) (m_third : Int32) (m_fourth : Int32) : va_W := [(h0, .inr (6, [.ref h_s, .ref h_aside, .ref h_past, .int m_pasts, .ref h_snapshot, .int m_isKept, .ref h_text, .int m_length, .int m_hasStop, .int m_stopAt, .int m_stopWhy, .int m_spot, .int m_isWrong, .int m_kind, .int m_first, .int m_second, .int m_third, .int m_fourth])), (h_s, .inl (cI, 490, .inl m_s)), (h_past, .inl (cI, 1960, .inl m_past))]
def d_X6_pass (p1 : Int32) (m_s : Nat → Int32) (m_past : Nat → Int32) (m_pasts : Int32) : Option (Int32 × (Nat → Int32) × (Nat → Int32) × Int32) :=
    ob1 (d_X6_barPass p1 m_s) fun r1 =>
    if 0 ≤ r1 then (ob2 (d_X6_records m_s m_past m_pasts) fun m_past_4 m_pasts_5 =>
    ob2 (d_X6_passes p1 m_s) fun r7 m_s_8 =>
    some (r7, m_s_8, m_past_4, m_pasts_5))
    else (some (r1, m_s, m_past, m_pasts))
set_option maxHeartbeats 4000000 in
set_option maxRecDepth 100000 in
theorem c_X6_pass (l : Launch) (D : va_G) (cI cC cE : ClassId) (h0 h_s h_aside h_past h_snapshot h_text : Nat) (sz : Nat) (m_s : Nat → Int32) (m_past : Nat → Int32) (m_pasts : Int32) (m_isKept : Int32) (m_length : Int32) (m_hasStop : Int32) (m_stopAt : Int32) (m_stopWhy : Int32) (m_spot : Int32) (m_isWrong : Int32) (m_kind : Int32) (m_first : Int32) (m_second : Int32) (m_third : Int32) (m_fourth : Int32) (p1 : Int32) (r0 : Int32) (o_m_s : Nat → Int32) (o_m_past : Nat → Int32) (o_m_pasts : Int32) (h : d_X6_pass p1 m_s m_past m_pasts = some (r0, o_m_s, o_m_past, o_m_pasts)) : Met l yX6_pass wsX6_pass ({ frames := 5, cells := 0, slots := 0, locals := 116 } : Room) (kP D (kT cI cC cE) [.ref h0, .int p1] (w_X6_pass cI cC h0 h_s h_aside h_past h_snapshot h_text m_s m_past m_pasts m_isKept m_length m_hasStop m_stopAt m_stopWhy m_spot m_isWrong m_kind m_first m_second m_third m_fourth) sz) (kQi D (kT cI cC cE) (w_X6_pass cI cC h0 h_s h_aside h_past h_snapshot h_text m_s m_past m_pasts m_isKept m_length m_hasStop m_stopAt m_stopWhy m_spot m_isWrong m_kind m_first m_second m_third m_fourth) (w_X6_pass cI cC h0 h_s h_aside h_past h_snapshot h_text o_m_s o_m_past o_m_pasts m_isKept m_length m_hasStop m_stopAt m_stopWhy m_spot m_isWrong m_kind m_first m_second m_third m_fourth) sz r0) 0 0 (va_A (w_X6_pass cI cC h0 h_s h_aside h_past h_snapshot h_text m_s m_past m_pasts m_isKept m_length m_hasStop m_stopAt m_stopWhy m_spot m_isWrong m_kind m_first m_second m_third m_fourth) sz) := by
  refine kMetI (cc := cX6_pass) (maxL := 3) (own := RX6) (by decide) rfl (Nat.le_of_ble_eq_true rfl) rfl ?_
  intro p e s m below meth c A Q hx hb hml hown hts hP hK hD hA hS hname fin ls hl
  have hl : lv_has ls 3 [(0, .ref h0), (1, .int p1)] := hl
  dsimp only [d_X6_pass] at h
  refine lv_aload_n hx hb dX6_pass_0 rfl (lv_at hl 0 rfl) ?_
  refine lv_iload_n hx hb dX6_pass_1 rfl (lv_at hl 1 rfl) ?_
  obtain ⟨r1, hu2, h⟩ := ob1_el h
  refine kcVi (ci := 6) (q := (RX6, TX6, 18)) (ws1 := (w_X6_pass cI cC h0 h_s h_aside h_past h_snapshot h_text m_s m_past m_pasts m_isKept m_length m_hasStop m_stopAt m_stopWhy m_spot m_isWrong m_kind m_first m_second m_third m_fourth)) ⟨hx, hb, hml, hown, hts⟩ [0, 1] [2] (c_X6_barPass l D cI cC cE h0 h_s h_aside h_past h_snapshot h_text _ m_s m_pasts m_isKept m_length m_hasStop m_stopAt m_stopWhy m_spot m_isWrong m_kind m_first m_second m_third m_fourth p1 r1 hu2) (cwV 1 hts gX6_pass_X6_barPass rfl rfl rfl (by decide +kernel) ⟨Nat.le_of_ble_eq_true rfl, Nat.le_of_ble_eq_true rfl⟩) hK hP hD hS hA rfl rfl rfl rfl rfl rfl rfl rfl rfl hl.1 rfl (Nat.le_of_ble_eq_true rfl) dX6_pass_2 ⟨Nat.le_refl 0, Nat.le_refl 0⟩ (fun H locs hP hD hS => ?_)
  refine lv_istore_n (lv' := [(2, .int r1), (0, .ref h0), (1, .int p1)]) hx hb dX6_pass_5 rfl hl (by decide) rfl (fun ls hl => ?_)
  refine lv_iload_n hx hb dX6_pass_6 rfl (lv_at hl 0 rfl) ?_
  refine lv_if_ge (tgt := 12) hx hb dX6_pass_7 (by decide) (fun c3 => ?_) (fun c3 => ?_)
  · have h := (k_iB h).1 c3
    refine lv_aload_n hx hb dX6_pass_12 rfl (lv_at hl 1 rfl) ?_
    obtain ⟨m_past_4, m_pasts_5, hu6, h⟩ := ob2_el h
    refine kcVv (ci := 6) (q := (RX6, TX6, 18)) (ws1 := (w_X6_pass cI cC h0 h_s h_aside h_past h_snapshot h_text m_s m_past_4 m_pasts_5 m_isKept m_length m_hasStop m_stopAt m_stopWhy m_spot m_isWrong m_kind m_first m_second m_third m_fourth)) ⟨hx, hb, hml, hown, hts⟩ [0, 1, 2] [] (c_X6_records l D cI cC cE h0 h_s h_aside h_past h_snapshot h_text _ m_s m_past m_pasts m_isKept m_length m_hasStop m_stopAt m_stopWhy m_spot m_isWrong m_kind m_first m_second m_third m_fourth m_past_4 m_pasts_5 hu6) (cwV 0 hts gX6_pass_X6_records rfl rfl rfl (by decide +kernel) ⟨Nat.le_of_ble_eq_true rfl, Nat.le_of_ble_eq_true rfl⟩) hK hP hD hS hA rfl rfl rfl rfl rfl rfl rfl rfl rfl hl.1 rfl (Nat.le_of_ble_eq_true rfl) dX6_pass_13 ⟨Nat.le_refl 0, Nat.le_refl 0⟩ (fun H locs hP hD hS => ?_)
    refine lv_aload_n hx hb dX6_pass_16 rfl (lv_at hl 1 rfl) ?_
    refine lv_iload_n hx hb dX6_pass_17 rfl (lv_at hl 2 rfl) ?_
    obtain ⟨r7, m_s_8, hu9, h⟩ := ob2_el h
    refine kcVi (ci := 6) (q := (RX6, TX6, 18)) (ws1 := (w_X6_pass cI cC h0 h_s h_aside h_past h_snapshot h_text m_s_8 m_past_4 m_pasts_5 m_isKept m_length m_hasStop m_stopAt m_stopWhy m_spot m_isWrong m_kind m_first m_second m_third m_fourth)) ⟨hx, hb, hml, hown, hts⟩ [0, 1] [2] (c_X6_passes l D cI cC cE h0 h_s h_aside h_past h_snapshot h_text _ m_s m_pasts_5 m_isKept m_length m_hasStop m_stopAt m_stopWhy m_spot m_isWrong m_kind m_first m_second m_third m_fourth p1 r7 m_s_8 hu9) (cwV 1 hts gX6_pass_X6_passes rfl rfl rfl (by decide +kernel) ⟨Nat.le_of_ble_eq_true rfl, Nat.le_of_ble_eq_true rfl⟩) hK hP hD hS hA rfl rfl rfl rfl rfl rfl rfl rfl rfl hl.1 rfl (Nat.le_of_ble_eq_true rfl) dX6_pass_18 ⟨Nat.le_refl 0, Nat.le_refl 0⟩ (fun H locs hP hD hS => ?_)
    obtain ⟨rfl, rfl, rfl, rfl⟩ := inj4 (Option.some.inj h)
    exact fin _ _ _ _ dX6_pass_21 hP hD hS
  · have h := (k_iB h).2 c3
    refine lv_iload_n hx hb dX6_pass_10 rfl (lv_at hl 0 rfl) ?_
    obtain ⟨rfl, rfl, rfl, rfl⟩ := inj4 (Option.some.inj h)
    exact fin _ _ _ _ dX6_pass_11 hP hD hS
abbrev w_X6_type (cI cC : ClassId) (h0 h_s h_aside h_past h_snapshot h_text : Nat) (m_pasts : Int32) (m_isKept : Int32) (m_text : Nat → Int32) (m_length : Int32) (m_hasStop : Int32) (m_stopAt : Int32) (m_stopWhy : Int32) (m_spot : Int32) (m_isWrong : Int32) (m_kind : Int32) (m_first : Int32) (m_second : Int32) (m_third : Int32) (m_fourth : Int32) : va_W := [(h0, .inr (6, [.ref h_s, .ref h_aside, .ref h_past, .int m_pasts, .ref h_snapshot, .int m_isKept, .ref h_text, .int m_length, .int m_hasStop, .int m_stopAt, .int m_stopWhy, .int m_spot, .int m_isWrong, .int m_kind, .int m_first, .int m_second, .int m_third, .int m_fourth])), (h_text, .inl (cC, 60, .inl m_text))]
def d_X6_type (p1 : Int32) (m_text : Nat → Int32) (m_length : Int32) : Option (Int32 × (Nat → Int32) × Int32) :=
    if m_length = 60 then (some ((-3), m_text, m_length))
    else (ob1 (wr 60 m_text m_length (vp_nar .char p1)) fun m_text_2 =>
    some ((m_length + 1), m_text_2, (m_length + 1)))
set_option maxHeartbeats 4000000 in
set_option maxRecDepth 100000 in
theorem c_X6_type (l : Launch) (D : va_G) (cI cC cE : ClassId) (h0 h_s h_aside h_past h_snapshot h_text : Nat) (sz : Nat) (m_pasts : Int32) (m_isKept : Int32) (m_text : Nat → Int32) (m_length : Int32) (m_hasStop : Int32) (m_stopAt : Int32) (m_stopWhy : Int32) (m_spot : Int32) (m_isWrong : Int32) (m_kind : Int32) (m_first : Int32) (m_second : Int32) (m_third : Int32) (m_fourth : Int32) (p1 : Int32) (r0 : Int32) (o_m_text : Nat → Int32) (o_m_length : Int32) (h : d_X6_type p1 m_text m_length = some (r0, o_m_text, o_m_length)) : Met l yX6_type wsX6_type ({ frames := 0, cells := 0, slots := 0, locals := 0 } : Room) (kP D (kT cI cC cE) [.ref h0, .int p1] (w_X6_type cI cC h0 h_s h_aside h_past h_snapshot h_text m_pasts m_isKept m_text m_length m_hasStop m_stopAt m_stopWhy m_spot m_isWrong m_kind m_first m_second m_third m_fourth) sz) (kQi D (kT cI cC cE) (w_X6_type cI cC h0 h_s h_aside h_past h_snapshot h_text m_pasts m_isKept m_text m_length m_hasStop m_stopAt m_stopWhy m_spot m_isWrong m_kind m_first m_second m_third m_fourth) (w_X6_type cI cC h0 h_s h_aside h_past h_snapshot h_text m_pasts m_isKept o_m_text o_m_length m_hasStop m_stopAt m_stopWhy m_spot m_isWrong m_kind m_first m_second m_third m_fourth) sz r0) 0 0 (va_A (w_X6_type cI cC h0 h_s h_aside h_past h_snapshot h_text m_pasts m_isKept m_text m_length m_hasStop m_stopAt m_stopWhy m_spot m_isWrong m_kind m_first m_second m_third m_fourth) sz) := by
  refine kMetI (cc := cX6_type) (maxL := 2) (own := RX6) (by decide) rfl (Nat.le_of_ble_eq_true rfl) rfl ?_
  intro p e s m below meth c A Q hx hb hml hown hts hP hK hD hA hS hname fin ls hl
  have hl : lv_has ls 2 [(0, .ref h0), (1, .int p1)] := hl
  have hiX6 : ∀ w ∈ u_ws RX6 TX6 18, w ∈ wsX6_type := by decide +kernel
  dsimp only [d_X6_type] at h
  refine lv_aload_n hx hb dX6_type_0 rfl (lv_at hl 0 rfl) ?_
  refine va_get (ci := 6) (C := RX6) (T := TX6) (N := 18) hx hb hts hiX6 hown hK hP 0 rfl rfl 7 (by decide) (hts (.fieldLink RX6 108 "RiddleTradeModel" "length" "I") (List.mem_of_getElem? (i := 1) rfl)) (fun _ h9 => h9) rfl dX6_type_1 ?_
  refine lv_bipush (v := 60) hx hb dX6_type_4 (by decide) ?_
  refine lv_icmp_ne (tgt := 12) hx hb dX6_type_6 (by decide) (fun c1 => ?_) (fun c1 => ?_)
  · have h := (k_iB h).2 c1
    refine lv_aload_n hx hb dX6_type_12 rfl (lv_at hl 0 rfl) ?_
    refine va_get (ci := 6) (C := RX6) (T := TX6) (N := 18) hx hb hts hiX6 hown hK hP 0 rfl rfl 6 (by decide) (hts (.fieldLink RX6 22 "RiddleTradeModel" "text" "[C") (List.mem_of_getElem? (i := 2) rfl)) (fun _ h9 => h9) rfl dX6_type_13 ?_
    refine lv_aload_n hx hb dX6_type_16 rfl (lv_at hl 0 rfl) ?_
    refine va_get (ci := 6) (C := RX6) (T := TX6) (N := 18) hx hb hts hiX6 hown hK hP 0 rfl rfl 7 (by decide) (hts (.fieldLink RX6 108 "RiddleTradeModel" "length" "I") (List.mem_of_getElem? (i := 1) rfl)) (fun _ h9 => h9) rfl dX6_type_17 ?_
    refine lv_iload_n hx hb dX6_type_20 rfl (lv_at hl 1 rfl) ?_
    refine k_cast hx hb hK hP hD hS 1 1 rfl rfl h dX6_type_21 (fun m_text_2 H locs hP hD hS h => ?_)
    have hP : va_P D vwCl (w_X6_type cI cC h0 h_s h_aside h_past h_snapshot h_text m_pasts m_isKept m_text_2 m_length m_hasStop m_stopAt m_stopWhy m_spot m_isWrong m_kind m_first m_second m_third m_fourth) H := hP
    have hD : va_D A (w_X6_type cI cC h0 h_s h_aside h_past h_snapshot h_text m_pasts m_isKept m_text_2 m_length m_hasStop m_stopAt m_stopWhy m_spot m_isWrong m_kind m_first m_second m_third m_fourth) := hD
    refine lv_aload_n hx hb dX6_type_22 rfl (lv_at hl 0 rfl) ?_
    refine lv_dup hx hb dX6_type_23 rfl ?_
    refine va_get (ci := 6) (C := RX6) (T := TX6) (N := 18) hx hb hts hiX6 hown hK hP 0 rfl rfl 7 (by decide) (hts (.fieldLink RX6 108 "RiddleTradeModel" "length" "I") (List.mem_of_getElem? (i := 1) rfl)) (fun _ h9 => h9) rfl dX6_type_24 ?_
    refine lv_iconst (v := 1) hx hb dX6_type_27 (by decide) ?_
    refine lv_iadd hx hb dX6_type_28 ?_
    refine va_put (ci := 6) (ty := .int) (C := RX6) (T := TX6) (N := 18) hx hb hts hiX6 tyX6 tyX6_ok nmX6 hown hK hP hD hS 0 rfl rfl 7 (by decide) (hts (.fieldLink RX6 108 "RiddleTradeModel" "length" "I") (List.mem_of_getElem? (i := 1) rfl)) (fun _ h9 => h9) rfl (by decide +kernel) rfl rfl (Nat.le_of_ble_eq_true rfl) dX6_type_29 (fun H locs hP hD hS => ?_)
    have hP : va_P D vwCl (w_X6_type cI cC h0 h_s h_aside h_past h_snapshot h_text m_pasts m_isKept m_text_2 (m_length + 1) m_hasStop m_stopAt m_stopWhy m_spot m_isWrong m_kind m_first m_second m_third m_fourth) H := hP
    have hD : va_D A (w_X6_type cI cC h0 h_s h_aside h_past h_snapshot h_text m_pasts m_isKept m_text_2 (m_length + 1) m_hasStop m_stopAt m_stopWhy m_spot m_isWrong m_kind m_first m_second m_third m_fourth) := hD
    refine lv_aload_n hx hb dX6_type_32 rfl (lv_at hl 0 rfl) ?_
    refine va_get (ci := 6) (C := RX6) (T := TX6) (N := 18) hx hb hts hiX6 hown hK hP 0 rfl rfl 7 (by decide) (hts (.fieldLink RX6 108 "RiddleTradeModel" "length" "I") (List.mem_of_getElem? (i := 1) rfl)) (fun _ h9 => h9) rfl dX6_type_33 ?_
    obtain ⟨rfl, rfl, rfl⟩ := inj3 (Option.some.inj h)
    exact fin _ _ _ _ dX6_type_36 hP hD hS
  · have h := (k_iB h).1 c1
    refine lv_bipush (v := (-3)) hx hb dX6_type_9 (by decide) ?_
    obtain ⟨rfl, rfl, rfl⟩ := inj3 (Option.some.inj h)
    exact fin _ _ _ _ dX6_type_11 hP hD hS
abbrev w_X6_clearText (cI cC : ClassId) (h0 h_s h_aside h_past h_snapshot h_text : Nat) (m_pasts : Int32) (m_isKept : Int32) (m_length : Int32) (m_hasStop : Int32) (m_stopAt : Int32) (m_stopWhy : Int32) (m_spot : Int32) (m_isWrong : Int32) (m_kind : Int32) (m_first : Int32) (m_second : Int32) (m_third : Int32) (m_fourth : Int32) : va_W := [(h0, .inr (6, [.ref h_s, .ref h_aside, .ref h_past, .int m_pasts, .ref h_snapshot, .int m_isKept, .ref h_text, .int m_length, .int m_hasStop, .int m_stopAt, .int m_stopWhy, .int m_spot, .int m_isWrong, .int m_kind, .int m_first, .int m_second, .int m_third, .int m_fourth]))]
def d_X6_clearText (m_length : Int32) : Int32 × Int32 :=
    (m_length, 0)
set_option maxHeartbeats 4000000 in
set_option maxRecDepth 100000 in
theorem c_X6_clearText (l : Launch) (D : va_G) (cI cC cE : ClassId) (h0 h_s h_aside h_past h_snapshot h_text : Nat) (sz : Nat) (m_pasts : Int32) (m_isKept : Int32) (m_length : Int32) (m_hasStop : Int32) (m_stopAt : Int32) (m_stopWhy : Int32) (m_spot : Int32) (m_isWrong : Int32) (m_kind : Int32) (m_first : Int32) (m_second : Int32) (m_third : Int32) (m_fourth : Int32) (r0 : Int32) (o_m_length : Int32) (h : d_X6_clearText m_length = (r0, o_m_length)) : Met l yX6_clearText wsX6_clearText ({ frames := 0, cells := 0, slots := 0, locals := 0 } : Room) (kP D (kT cI cC cE) [.ref h0] (w_X6_clearText cI cC h0 h_s h_aside h_past h_snapshot h_text m_pasts m_isKept m_length m_hasStop m_stopAt m_stopWhy m_spot m_isWrong m_kind m_first m_second m_third m_fourth) sz) (kQi D (kT cI cC cE) (w_X6_clearText cI cC h0 h_s h_aside h_past h_snapshot h_text m_pasts m_isKept m_length m_hasStop m_stopAt m_stopWhy m_spot m_isWrong m_kind m_first m_second m_third m_fourth) (w_X6_clearText cI cC h0 h_s h_aside h_past h_snapshot h_text m_pasts m_isKept o_m_length m_hasStop m_stopAt m_stopWhy m_spot m_isWrong m_kind m_first m_second m_third m_fourth) sz r0) 0 0 (va_A (w_X6_clearText cI cC h0 h_s h_aside h_past h_snapshot h_text m_pasts m_isKept m_length m_hasStop m_stopAt m_stopWhy m_spot m_isWrong m_kind m_first m_second m_third m_fourth) sz) := by
  refine kMetI (cc := cX6_clearText) (maxL := 2) (own := RX6) (by decide) rfl (Nat.le_of_ble_eq_true rfl) rfl ?_
  intro p e s m below meth c A Q hx hb hml hown hts hP hK hD hA hS hname fin ls hl
  have hl : lv_has ls 2 [(0, .ref h0)] := hl
  have hiX6 : ∀ w ∈ u_ws RX6 TX6 18, w ∈ wsX6_clearText := by decide +kernel
  dsimp only [d_X6_clearText] at h
  refine lv_aload_n hx hb dX6_clearText_0 rfl (lv_at hl 0 rfl) ?_
  refine va_get (ci := 6) (C := RX6) (T := TX6) (N := 18) hx hb hts hiX6 hown hK hP 0 rfl rfl 7 (by decide) (hts (.fieldLink RX6 108 "RiddleTradeModel" "length" "I") (List.mem_of_getElem? (i := 1) rfl)) (fun _ h9 => h9) rfl dX6_clearText_1 ?_
  refine lv_istore_n (lv' := [(1, .int m_length), (0, .ref h0)]) hx hb dX6_clearText_4 rfl hl (by decide) rfl (fun ls hl => ?_)
  refine lv_aload_n hx hb dX6_clearText_5 rfl (lv_at hl 1 rfl) ?_
  refine lv_iconst (v := 0) hx hb dX6_clearText_6 (by decide) ?_
  refine va_put (ci := 6) (ty := .int) (C := RX6) (T := TX6) (N := 18) hx hb hts hiX6 tyX6 tyX6_ok nmX6 hown hK hP hD hS 0 rfl rfl 7 (by decide) (hts (.fieldLink RX6 108 "RiddleTradeModel" "length" "I") (List.mem_of_getElem? (i := 1) rfl)) (fun _ h9 => h9) rfl (by decide +kernel) rfl rfl (Nat.le_of_ble_eq_true rfl) dX6_clearText_7 (fun H locs hP hD hS => ?_)
  have hP : va_P D vwCl (w_X6_clearText cI cC h0 h_s h_aside h_past h_snapshot h_text m_pasts m_isKept 0 m_hasStop m_stopAt m_stopWhy m_spot m_isWrong m_kind m_first m_second m_third m_fourth) H := hP
  have hD : va_D A (w_X6_clearText cI cC h0 h_s h_aside h_past h_snapshot h_text m_pasts m_isKept 0 m_hasStop m_stopAt m_stopWhy m_spot m_isWrong m_kind m_first m_second m_third m_fourth) := hD
  refine lv_iload_n hx hb dX6_clearText_10 rfl (lv_at hl 0 rfl) ?_
  obtain ⟨rfl, rfl⟩ := inj2 (h)
  exact fin _ _ _ _ dX6_clearText_11 hP hD hS
abbrev w_X6_next (cI cC : ClassId) (h0 h_s h_aside h_past h_snapshot h_text : Nat) (m_pasts : Int32) (m_isKept : Int32) (m_text : Nat → Int32) (m_length : Int32) (m_hasStop : Int32) (m_stopAt : Int32) (m_stopWhy : Int32) (m_spot : Int32) (m_isWrong : Int32) (m_kind : Int32) (m_first : Int32) (m_second : Int32) (m_third : Int32) (m_fourth : Int32) : va_W := [(h0, .inr (6, [.ref h_s, .ref h_aside, .ref h_past, .int m_pasts, .ref h_snapshot, .int m_isKept, .ref h_text, .int m_length, .int m_hasStop, .int m_stopAt, .int m_stopWhy, .int m_spot, .int m_isWrong, .int m_kind, .int m_first, .int m_second, .int m_third, .int m_fourth])), (h_text, .inl (cC, 60, .inl m_text))]
def d_X6_next (m_text : Nat → Int32) (m_length : Int32) (m_spot : Int32) : Option (Int32) :=
    if m_length ≤ m_spot then (some 0)
    else (ob1 (rd 60 m_text m_spot) fun v2 =>
    some v2)
set_option maxHeartbeats 4000000 in
set_option maxRecDepth 100000 in
theorem c_X6_next (l : Launch) (D : va_G) (cI cC cE : ClassId) (h0 h_s h_aside h_past h_snapshot h_text : Nat) (sz : Nat) (m_pasts : Int32) (m_isKept : Int32) (m_text : Nat → Int32) (m_length : Int32) (m_hasStop : Int32) (m_stopAt : Int32) (m_stopWhy : Int32) (m_spot : Int32) (m_isWrong : Int32) (m_kind : Int32) (m_first : Int32) (m_second : Int32) (m_third : Int32) (m_fourth : Int32) (r0 : Int32) (h : d_X6_next m_text m_length m_spot = some r0) : Met l yX6_next wsX6_next ({ frames := 0, cells := 0, slots := 0, locals := 0 } : Room) (kP D (kT cI cC cE) [.ref h0] (w_X6_next cI cC h0 h_s h_aside h_past h_snapshot h_text m_pasts m_isKept m_text m_length m_hasStop m_stopAt m_stopWhy m_spot m_isWrong m_kind m_first m_second m_third m_fourth) sz) (kQi D (kT cI cC cE) (w_X6_next cI cC h0 h_s h_aside h_past h_snapshot h_text m_pasts m_isKept m_text m_length m_hasStop m_stopAt m_stopWhy m_spot m_isWrong m_kind m_first m_second m_third m_fourth) (w_X6_next cI cC h0 h_s h_aside h_past h_snapshot h_text m_pasts m_isKept m_text m_length m_hasStop m_stopAt m_stopWhy m_spot m_isWrong m_kind m_first m_second m_third m_fourth) sz r0) 0 0 (va_A (w_X6_next cI cC h0 h_s h_aside h_past h_snapshot h_text m_pasts m_isKept m_text m_length m_hasStop m_stopAt m_stopWhy m_spot m_isWrong m_kind m_first m_second m_third m_fourth) sz) := by
  refine kMetI (cc := cX6_next) (maxL := 1) (own := RX6) (by decide) rfl (Nat.le_of_ble_eq_true rfl) rfl ?_
  intro p e s m below meth c A Q hx hb hml hown hts hP hK hD hA hS hname fin ls hl
  have hl : lv_has ls 1 [(0, .ref h0)] := hl
  have hiX6 : ∀ w ∈ u_ws RX6 TX6 18, w ∈ wsX6_next := by decide +kernel
  dsimp only [d_X6_next] at h
  refine lv_aload_n hx hb dX6_next_0 rfl (lv_at hl 0 rfl) ?_
  refine va_get (ci := 6) (C := RX6) (T := TX6) (N := 18) hx hb hts hiX6 hown hK hP 0 rfl rfl 11 (by decide) (hts (.fieldLink RX6 111 "RiddleTradeModel" "spot" "I") (List.mem_of_getElem? (i := 1) rfl)) (fun _ h9 => h9) rfl dX6_next_1 ?_
  refine lv_aload_n hx hb dX6_next_4 rfl (lv_at hl 0 rfl) ?_
  refine va_get (ci := 6) (C := RX6) (T := TX6) (N := 18) hx hb hts hiX6 hown hK hP 0 rfl rfl 7 (by decide) (hts (.fieldLink RX6 108 "RiddleTradeModel" "length" "I") (List.mem_of_getElem? (i := 2) rfl)) (fun _ h9 => h9) rfl dX6_next_5 ?_
  refine lv_icmp_ge (tgt := 23) hx hb dX6_next_8 (by decide) (fun c1 => ?_) (fun c1 => ?_)
  · have h := (k_iB h).1 c1
    refine lv_iconst (v := 0) hx hb dX6_next_23 (by decide) ?_
    obtain rfl := Option.some.inj h
    exact fin _ _ _ _ dX6_next_24 hP hD hS
  · have h := (k_iB h).2 c1
    refine lv_aload_n hx hb dX6_next_11 rfl (lv_at hl 0 rfl) ?_
    refine va_get (ci := 6) (C := RX6) (T := TX6) (N := 18) hx hb hts hiX6 hown hK hP 0 rfl rfl 6 (by decide) (hts (.fieldLink RX6 22 "RiddleTradeModel" "text" "[C") (List.mem_of_getElem? (i := 3) rfl)) (fun _ h9 => h9) rfl dX6_next_12 ?_
    refine lv_aload_n hx hb dX6_next_15 rfl (lv_at hl 0 rfl) ?_
    refine va_get (ci := 6) (C := RX6) (T := TX6) (N := 18) hx hb hts hiX6 hown hK hP 0 rfl rfl 11 (by decide) (hts (.fieldLink RX6 111 "RiddleTradeModel" "spot" "I") (List.mem_of_getElem? (i := 1) rfl)) (fun _ h9 => h9) rfl dX6_next_16 ?_
    refine k_cald hx hb hK hP 1 1 rfl rfl h dX6_next_19 (fun v2 h => ?_)
    refine lv_goto (tgt := 24) hx hb dX6_next_20 (by decide) ?_
    obtain rfl := Option.some.inj h
    exact fin _ _ _ _ dX6_next_24 hP hD hS
abbrev w_X6_sign (cI cC : ClassId) (h0 h_s h_aside h_past h_snapshot h_text : Nat) (m_pasts : Int32) (m_isKept : Int32) (m_text : Nat → Int32) (m_length : Int32) (m_hasStop : Int32) (m_stopAt : Int32) (m_stopWhy : Int32) (m_spot : Int32) (m_isWrong : Int32) (m_kind : Int32) (m_first : Int32) (m_second : Int32) (m_third : Int32) (m_fourth : Int32) : va_W := [(h0, .inr (6, [.ref h_s, .ref h_aside, .ref h_past, .int m_pasts, .ref h_snapshot, .int m_isKept, .ref h_text, .int m_length, .int m_hasStop, .int m_stopAt, .int m_stopWhy, .int m_spot, .int m_isWrong, .int m_kind, .int m_first, .int m_second, .int m_third, .int m_fourth])), (h_text, .inl (cC, 60, .inl m_text))]
def j_X6_sign_35 (m_text : Nat → Int32) (m_length : Int32) (p1 : Int32) (m_spot : Int32) (m_isWrong : Int32) : Option (Int32 × Int32) :=
    if m_isWrong = 0 then (some ((m_spot + 1), m_isWrong))
    else (some ((m_spot + 0), m_isWrong))
def d_X6_sign (p1 : Int32) (m_text : Nat → Int32) (m_length : Int32) (m_spot : Int32) (m_isWrong : Int32) : Option (Int32 × Int32) :=
    if m_isWrong = 0 then (if m_spot = m_length then (j_X6_sign_35  m_text m_length p1 m_spot 1)
    else (ob1 (d_X6_next m_text m_length m_spot) fun r4 =>
    if r4 = p1 then (j_X6_sign_35  m_text m_length p1 m_spot 0)
    else (j_X6_sign_35  m_text m_length p1 m_spot 1)))
    else (j_X6_sign_35  m_text m_length p1 m_spot 1)
set_option maxHeartbeats 4000000 in
set_option maxRecDepth 100000 in
theorem c_X6_sign (l : Launch) (D : va_G) (cI cC cE : ClassId) (h0 h_s h_aside h_past h_snapshot h_text : Nat) (sz : Nat) (m_pasts : Int32) (m_isKept : Int32) (m_text : Nat → Int32) (m_length : Int32) (m_hasStop : Int32) (m_stopAt : Int32) (m_stopWhy : Int32) (m_spot : Int32) (m_isWrong : Int32) (m_kind : Int32) (m_first : Int32) (m_second : Int32) (m_third : Int32) (m_fourth : Int32) (p1 : Int32) (o_m_spot : Int32) (o_m_isWrong : Int32) (h : d_X6_sign p1 m_text m_length m_spot m_isWrong = some (o_m_spot, o_m_isWrong)) : Met l yX6_sign wsX6_sign ({ frames := 1, cells := 0, slots := 0, locals := 20 } : Room) (kP D (kT cI cC cE) [.ref h0, .int p1] (w_X6_sign cI cC h0 h_s h_aside h_past h_snapshot h_text m_pasts m_isKept m_text m_length m_hasStop m_stopAt m_stopWhy m_spot m_isWrong m_kind m_first m_second m_third m_fourth) sz) (kQv D (kT cI cC cE) (w_X6_sign cI cC h0 h_s h_aside h_past h_snapshot h_text m_pasts m_isKept m_text m_length m_hasStop m_stopAt m_stopWhy m_spot m_isWrong m_kind m_first m_second m_third m_fourth) (w_X6_sign cI cC h0 h_s h_aside h_past h_snapshot h_text m_pasts m_isKept m_text m_length m_hasStop m_stopAt m_stopWhy o_m_spot o_m_isWrong m_kind m_first m_second m_third m_fourth) sz) 0 0 (va_A (w_X6_sign cI cC h0 h_s h_aside h_past h_snapshot h_text m_pasts m_isKept m_text m_length m_hasStop m_stopAt m_stopWhy m_spot m_isWrong m_kind m_first m_second m_third m_fourth) sz) := by
  refine kMetV (cc := cX6_sign) (maxL := 2) (own := RX6) (by decide) rfl (Nat.le_of_ble_eq_true rfl) rfl ?_
  intro p e s m below meth c A Q hx hb hml hown hts hP hK hD hA hS hname fin ls hl
  have hl : lv_has ls 2 [(0, .ref h0), (1, .int p1)] := hl
  have hiX6 : ∀ w ∈ u_ws RX6 TX6 18, w ∈ wsX6_sign := by decide +kernel
  have hJ35 : ∀ (m_spot : Int32) (m_isWrong : Int32) (H : Heap) (locs : List Loc), va_P D vwCl (w_X6_sign cI cC h0 h_s h_aside h_past h_snapshot h_text m_pasts m_isKept m_text m_length m_hasStop m_stopAt m_stopWhy m_spot m_isWrong m_kind m_first m_second m_third m_fourth) H → va_D A (w_X6_sign cI cC h0 h_s h_aside h_past h_snapshot h_text m_pasts m_isKept m_text m_length m_hasStop m_stopAt m_stopWhy m_spot m_isWrong m_kind m_first m_second m_third m_fourth) → va_S A s.heap H locs → ∀ (ls : Array Slot), lv_has ls 2 [(0, .ref h0)] → j_X6_sign_35  m_text m_length p1 m_spot m_isWrong = some (o_m_spot, o_m_isWrong) → W p l e ({ frames := 1, cells := 0, slots := 0, locals := 20 } : Room) s m [.ref h0, .int p1].toArray below meth c H locs 0 0 Q (F0 m 35 ls []) := by
    intro m_spot m_isWrong H locs hP hD hS ls hl h
    dsimp only [j_X6_sign_35] at h
    refine lv_aload_n hx hb dX6_sign_35 rfl (lv_at hl 0 rfl) ?_
    refine lv_dup hx hb dX6_sign_36 rfl ?_
    refine va_get (ci := 6) (C := RX6) (T := TX6) (N := 18) hx hb hts hiX6 hown hK hP 0 rfl rfl 11 (by decide) (hts (.fieldLink RX6 111 "RiddleTradeModel" "spot" "I") (List.mem_of_getElem? (i := 2) rfl)) (fun _ h9 => h9) rfl dX6_sign_37 ?_
    refine lv_aload_n hx hb dX6_sign_40 rfl (lv_at hl 0 rfl) ?_
    refine va_get (ci := 6) (C := RX6) (T := TX6) (N := 18) hx hb hts hiX6 hown hK hP 0 rfl rfl 12 (by decide) (hts (.fieldLink RX6 114 "RiddleTradeModel" "isWrong" "Z") (List.mem_of_getElem? (i := 1) rfl)) (fun _ h9 => h9) rfl dX6_sign_41 ?_
    refine lv_if_eq (tgt := 51) hx hb dX6_sign_44 (by decide) (fun c2 => ?_) (fun c2 => ?_)
    · have h := (k_iB h).1 c2
      refine lv_iconst (v := 1) hx hb dX6_sign_51 (by decide) ?_
      refine lv_iadd hx hb dX6_sign_52 ?_
      refine va_put (ci := 6) (ty := .int) (C := RX6) (T := TX6) (N := 18) hx hb hts hiX6 tyX6 tyX6_ok nmX6 hown hK hP hD hS 0 rfl rfl 11 (by decide) (hts (.fieldLink RX6 111 "RiddleTradeModel" "spot" "I") (List.mem_of_getElem? (i := 2) rfl)) (fun _ h9 => h9) rfl (by decide +kernel) rfl rfl (Nat.le_of_ble_eq_true rfl) dX6_sign_53 (fun H locs hP hD hS => ?_)
      have hP : va_P D vwCl (w_X6_sign cI cC h0 h_s h_aside h_past h_snapshot h_text m_pasts m_isKept m_text m_length m_hasStop m_stopAt m_stopWhy (m_spot + 1) m_isWrong m_kind m_first m_second m_third m_fourth) H := hP
      have hD : va_D A (w_X6_sign cI cC h0 h_s h_aside h_past h_snapshot h_text m_pasts m_isKept m_text m_length m_hasStop m_stopAt m_stopWhy (m_spot + 1) m_isWrong m_kind m_first m_second m_third m_fourth) := hD
      obtain ⟨rfl, rfl⟩ := inj2 (Option.some.inj h)
      exact fin _ _ _ _ dX6_sign_56 hP hD hS
    · have h := (k_iB h).2 c2
      refine lv_iconst (v := 0) hx hb dX6_sign_47 (by decide) ?_
      refine lv_goto (tgt := 52) hx hb dX6_sign_48 (by decide) ?_
      refine lv_iadd hx hb dX6_sign_52 ?_
      refine va_put (ci := 6) (ty := .int) (C := RX6) (T := TX6) (N := 18) hx hb hts hiX6 tyX6 tyX6_ok nmX6 hown hK hP hD hS 0 rfl rfl 11 (by decide) (hts (.fieldLink RX6 111 "RiddleTradeModel" "spot" "I") (List.mem_of_getElem? (i := 2) rfl)) (fun _ h9 => h9) rfl (by decide +kernel) rfl rfl (Nat.le_of_ble_eq_true rfl) dX6_sign_53 (fun H locs hP hD hS => ?_)
      have hP : va_P D vwCl (w_X6_sign cI cC h0 h_s h_aside h_past h_snapshot h_text m_pasts m_isKept m_text m_length m_hasStop m_stopAt m_stopWhy (m_spot + 0) m_isWrong m_kind m_first m_second m_third m_fourth) H := hP
      have hD : va_D A (w_X6_sign cI cC h0 h_s h_aside h_past h_snapshot h_text m_pasts m_isKept m_text m_length m_hasStop m_stopAt m_stopWhy (m_spot + 0) m_isWrong m_kind m_first m_second m_third m_fourth) := hD
      obtain ⟨rfl, rfl⟩ := inj2 (Option.some.inj h)
      exact fin _ _ _ _ dX6_sign_56 hP hD hS
  dsimp only [d_X6_sign] at h
  refine lv_aload_n hx hb dX6_sign_0 rfl (lv_at hl 0 rfl) ?_
  refine lv_aload_n hx hb dX6_sign_1 rfl (lv_at hl 0 rfl) ?_
  refine va_get (ci := 6) (C := RX6) (T := TX6) (N := 18) hx hb hts hiX6 hown hK hP 0 rfl rfl 12 (by decide) (hts (.fieldLink RX6 114 "RiddleTradeModel" "isWrong" "Z") (List.mem_of_getElem? (i := 1) rfl)) (fun _ h9 => h9) rfl dX6_sign_2 ?_
  refine lv_if_ne (tgt := 27) hx hb dX6_sign_5 (by decide) (fun c1 => ?_) (fun c1 => ?_)
  · have h := (k_iB h).2 c1
    refine lv_iconst (v := 1) hx hb dX6_sign_27 (by decide) ?_
    refine lv_goto (tgt := 32) hx hb dX6_sign_28 (by decide) ?_
    refine va_put (ci := 6) (ty := .boolean) (C := RX6) (T := TX6) (N := 18) hx hb hts hiX6 tyX6 tyX6_ok nmX6 hown hK hP hD hS 0 rfl rfl 12 (by decide) (hts (.fieldLink RX6 114 "RiddleTradeModel" "isWrong" "Z") (List.mem_of_getElem? (i := 1) rfl)) (fun _ h9 => h9) rfl (by decide +kernel) rfl rfl (Nat.le_of_ble_eq_true rfl) dX6_sign_32 (fun H locs hP hD hS => ?_)
    have hP : va_P D vwCl (w_X6_sign cI cC h0 h_s h_aside h_past h_snapshot h_text m_pasts m_isKept m_text m_length m_hasStop m_stopAt m_stopWhy m_spot 1 m_kind m_first m_second m_third m_fourth) H := hP
    have hD : va_D A (w_X6_sign cI cC h0 h_s h_aside h_past h_snapshot h_text m_pasts m_isKept m_text m_length m_hasStop m_stopAt m_stopWhy m_spot 1 m_kind m_first m_second m_third m_fourth) := hD
    exact hJ35   m_spot 1 _ _ hP hD hS _ (lv_sub hl [0] rfl) h
  · have h := (k_iB h).1 c1
    refine lv_aload_n hx hb dX6_sign_8 rfl (lv_at hl 0 rfl) ?_
    refine va_get (ci := 6) (C := RX6) (T := TX6) (N := 18) hx hb hts hiX6 hown hK hP 0 rfl rfl 11 (by decide) (hts (.fieldLink RX6 111 "RiddleTradeModel" "spot" "I") (List.mem_of_getElem? (i := 2) rfl)) (fun _ h9 => h9) rfl dX6_sign_9 ?_
    refine lv_aload_n hx hb dX6_sign_12 rfl (lv_at hl 0 rfl) ?_
    refine va_get (ci := 6) (C := RX6) (T := TX6) (N := 18) hx hb hts hiX6 hown hK hP 0 rfl rfl 7 (by decide) (hts (.fieldLink RX6 108 "RiddleTradeModel" "length" "I") (List.mem_of_getElem? (i := 3) rfl)) (fun _ h9 => h9) rfl dX6_sign_13 ?_
    refine lv_icmp_eq (tgt := 27) hx hb dX6_sign_16 (by decide) (fun c3 => ?_) (fun c3 => ?_)
    · have h := (k_iB h).1 c3
      refine lv_iconst (v := 1) hx hb dX6_sign_27 (by decide) ?_
      refine lv_goto (tgt := 32) hx hb dX6_sign_28 (by decide) ?_
      refine va_put (ci := 6) (ty := .boolean) (C := RX6) (T := TX6) (N := 18) hx hb hts hiX6 tyX6 tyX6_ok nmX6 hown hK hP hD hS 0 rfl rfl 12 (by decide) (hts (.fieldLink RX6 114 "RiddleTradeModel" "isWrong" "Z") (List.mem_of_getElem? (i := 1) rfl)) (fun _ h9 => h9) rfl (by decide +kernel) rfl rfl (Nat.le_of_ble_eq_true rfl) dX6_sign_32 (fun H locs hP hD hS => ?_)
      have hP : va_P D vwCl (w_X6_sign cI cC h0 h_s h_aside h_past h_snapshot h_text m_pasts m_isKept m_text m_length m_hasStop m_stopAt m_stopWhy m_spot 1 m_kind m_first m_second m_third m_fourth) H := hP
      have hD : va_D A (w_X6_sign cI cC h0 h_s h_aside h_past h_snapshot h_text m_pasts m_isKept m_text m_length m_hasStop m_stopAt m_stopWhy m_spot 1 m_kind m_first m_second m_third m_fourth) := hD
      exact hJ35   m_spot 1 _ _ hP hD hS _ (lv_sub hl [0] rfl) h
    · have h := (k_iB h).2 c3
      refine lv_aload_n hx hb dX6_sign_19 rfl (lv_at hl 0 rfl) ?_
      obtain ⟨r4, hu5, h⟩ := ob1_el h
      refine kcVi (ci := 6) (q := (RX6, TX6, 18)) (ws1 := (w_X6_sign cI cC h0 h_s h_aside h_past h_snapshot h_text m_pasts m_isKept m_text m_length m_hasStop m_stopAt m_stopWhy m_spot m_isWrong m_kind m_first m_second m_third m_fourth)) ⟨hx, hb, hml, hown, hts⟩ [0, 1] [] (c_X6_next l D cI cC cE h0 h_s h_aside h_past h_snapshot h_text _ m_pasts m_isKept m_text m_length m_hasStop m_stopAt m_stopWhy m_spot m_isWrong m_kind m_first m_second m_third m_fourth r4 hu5) (cwV 0 hts gX6_sign_X6_next rfl rfl rfl (by decide +kernel) ⟨Nat.le_of_ble_eq_true rfl, Nat.le_of_ble_eq_true rfl⟩) hK hP hD hS hA rfl rfl rfl rfl rfl rfl rfl rfl rfl hl.1 rfl (Nat.le_of_ble_eq_true rfl) dX6_sign_20 ⟨Nat.le_refl 0, Nat.le_refl 0⟩ (fun H locs hP hD hS => ?_)
      refine lv_iload_n hx hb dX6_sign_23 rfl (lv_at hl 1 rfl) ?_
      refine lv_icmp_eq (tgt := 31) hx hb dX6_sign_24 (by decide) (fun c6 => ?_) (fun c6 => ?_)
      · have h := (k_iB h).1 c6
        refine lv_iconst (v := 0) hx hb dX6_sign_31 (by decide) ?_
        refine va_put (ci := 6) (ty := .boolean) (C := RX6) (T := TX6) (N := 18) hx hb hts hiX6 tyX6 tyX6_ok nmX6 hown hK hP hD hS 0 rfl rfl 12 (by decide) (hts (.fieldLink RX6 114 "RiddleTradeModel" "isWrong" "Z") (List.mem_of_getElem? (i := 1) rfl)) (fun _ h9 => h9) rfl (by decide +kernel) rfl rfl (Nat.le_of_ble_eq_true rfl) dX6_sign_32 (fun H locs hP hD hS => ?_)
        have hP : va_P D vwCl (w_X6_sign cI cC h0 h_s h_aside h_past h_snapshot h_text m_pasts m_isKept m_text m_length m_hasStop m_stopAt m_stopWhy m_spot 0 m_kind m_first m_second m_third m_fourth) H := hP
        have hD : va_D A (w_X6_sign cI cC h0 h_s h_aside h_past h_snapshot h_text m_pasts m_isKept m_text m_length m_hasStop m_stopAt m_stopWhy m_spot 0 m_kind m_first m_second m_third m_fourth) := hD
        exact hJ35   m_spot 0 _ _ hP hD hS _ (lv_sub hl [0] rfl) h
      · have h := (k_iB h).2 c6
        refine lv_iconst (v := 1) hx hb dX6_sign_27 (by decide) ?_
        refine lv_goto (tgt := 32) hx hb dX6_sign_28 (by decide) ?_
        refine va_put (ci := 6) (ty := .boolean) (C := RX6) (T := TX6) (N := 18) hx hb hts hiX6 tyX6 tyX6_ok nmX6 hown hK hP hD hS 0 rfl rfl 12 (by decide) (hts (.fieldLink RX6 114 "RiddleTradeModel" "isWrong" "Z") (List.mem_of_getElem? (i := 1) rfl)) (fun _ h9 => h9) rfl (by decide +kernel) rfl rfl (Nat.le_of_ble_eq_true rfl) dX6_sign_32 (fun H locs hP hD hS => ?_)
        have hP : va_P D vwCl (w_X6_sign cI cC h0 h_s h_aside h_past h_snapshot h_text m_pasts m_isKept m_text m_length m_hasStop m_stopAt m_stopWhy m_spot 1 m_kind m_first m_second m_third m_fourth) H := hP
        have hD : va_D A (w_X6_sign cI cC h0 h_s h_aside h_past h_snapshot h_text m_pasts m_isKept m_text m_length m_hasStop m_stopAt m_stopWhy m_spot 1 m_kind m_first m_second m_third m_fourth) := hD
        exact hJ35   m_spot 1 _ _ hP hD hS _ (lv_sub hl [0] rfl) h
abbrev w_X6_number (cI cC : ClassId) (h0 h_s h_aside h_past h_snapshot h_text : Nat) (m_pasts : Int32) (m_isKept : Int32) (m_text : Nat → Int32) (m_length : Int32) (m_hasStop : Int32) (m_stopAt : Int32) (m_stopWhy : Int32) (m_spot : Int32) (m_isWrong : Int32) (m_kind : Int32) (m_first : Int32) (m_second : Int32) (m_third : Int32) (m_fourth : Int32) : va_W := [(h0, .inr (6, [.ref h_s, .ref h_aside, .ref h_past, .int m_pasts, .ref h_snapshot, .int m_isKept, .ref h_text, .int m_length, .int m_hasStop, .int m_stopAt, .int m_stopWhy, .int m_spot, .int m_isWrong, .int m_kind, .int m_first, .int m_second, .int m_third, .int m_fourth])), (h_text, .inl (cC, 60, .inl m_text))]
def j_X6_number_161 (LP97 : Int32 → Int32 → Int32 → Int32 → Option (Int32 × Int32 × Int32)) (m_text : Nat → Int32) (m_length : Int32) (p1 : Int32) (p2 : Int32) (x3 : Int32) (x4 : Int32) (m_spot : Int32) (m_isWrong : Int32) : Option (Int32 × Int32 × Int32) :=
    if x4 = 0 then (LP97 x3 x4 (m_spot + 0) m_isWrong)
    else (LP97 x3 x4 (m_spot + 1) m_isWrong)
def j_X6_number_139 (LP97 : Int32 → Int32 → Int32 → Int32 → Option (Int32 × Int32 × Int32)) (m_text : Nat → Int32) (m_length : Int32) (p1 : Int32) (p2 : Int32) (x3 : Int32) (x4 : Int32) (m_spot : Int32) (m_isWrong : Int32) : Option (Int32 × Int32 × Int32) :=
    if x4 = 0 then (j_X6_number_161 LP97 m_text m_length p1 p2 x3 x4 m_spot m_isWrong)
    else (ob1 (d_X6_next m_text m_length m_spot) fun r11 =>
    j_X6_number_161 LP97 m_text m_length p1 p2 (((10 * x3) + r11) - 48) x4 m_spot m_isWrong)
def j_X6_number_136 (LP97 : Int32 → Int32 → Int32 → Int32 → Option (Int32 × Int32 × Int32)) (m_text : Nat → Int32) (m_length : Int32) (p1 : Int32) (p2 : Int32) (x3 : Int32) (m_spot : Int32) (m_isWrong : Int32) : Option (Int32 × Int32 × Int32) :=
    j_X6_number_139 LP97 m_text m_length p1 p2 x3 0 m_spot m_isWrong
def lp_X6_number_97 (m_text : Nat → Int32) (m_length : Int32) (p1 : Int32) (p2 : Int32) : Nat → Int32 → Int32 → Int32 → Int32 → Option (Int32 × Int32 × Int32)
  | 0 => fun _ _ _ _ => none
  | k + 1 => fun x3 x4 m_spot m_isWrong =>
    if x4 = 0 then (some (x3, m_spot, m_isWrong))
    else (ob1 (d_X6_next m_text m_length m_spot) fun r6 =>
    if (d_X6_in r6 48 57) = 0 then (j_X6_number_136 (lp_X6_number_97  m_text m_length p1 p2 k) m_text m_length p1 p2 x3 m_spot m_isWrong)
    else (ob1 (d_X6_next m_text m_length m_spot) fun r13 =>
    if p2 < (((10 * x3) + r13) - 48) then (j_X6_number_136 (lp_X6_number_97  m_text m_length p1 p2 k) m_text m_length p1 p2 x3 m_spot m_isWrong)
    else (j_X6_number_139 (lp_X6_number_97  m_text m_length p1 p2 k) m_text m_length p1 p2 x3 1 m_spot m_isWrong)))
def j_X6_number_67 (m_text : Nat → Int32) (m_length : Int32) (p1 : Int32) (p2 : Int32) (x3 : Int32) (m_spot : Int32) (m_isWrong : Int32) : Option (Int32 × Int32 × Int32) :=
    if m_isWrong = 0 then (if x3 ≤ 0 then (lp_X6_number_97  m_text m_length p1 p2 fuel x3 0 (m_spot + 1) m_isWrong)
    else (lp_X6_number_97  m_text m_length p1 p2 fuel x3 1 (m_spot + 1) m_isWrong))
    else (some (0, m_spot, m_isWrong))
def j_X6_number_23 (m_text : Nat → Int32) (m_length : Int32) (p1 : Int32) (p2 : Int32) (x3 : Int32) (m_spot : Int32) (m_isWrong : Int32) : Option (Int32 × Int32 × Int32) :=
    if m_isWrong = 0 then (if p1 ≤ 0 then (if 9 ≤ p2 then (if (d_X6_in x3 0 9) = 0 then (j_X6_number_67  m_text m_length p1 p2 x3 m_spot 1)
    else (j_X6_number_67  m_text m_length p1 p2 x3 m_spot 0))
    else (if (d_X6_in x3 0 p2) = 0 then (j_X6_number_67  m_text m_length p1 p2 x3 m_spot 1)
    else (j_X6_number_67  m_text m_length p1 p2 x3 m_spot 0)))
    else (if 9 ≤ p2 then (if (d_X6_in x3 1 9) = 0 then (j_X6_number_67  m_text m_length p1 p2 x3 m_spot 1)
    else (j_X6_number_67  m_text m_length p1 p2 x3 m_spot 0))
    else (if (d_X6_in x3 1 p2) = 0 then (j_X6_number_67  m_text m_length p1 p2 x3 m_spot 1)
    else (j_X6_number_67  m_text m_length p1 p2 x3 m_spot 0))))
    else (j_X6_number_67  m_text m_length p1 p2 x3 m_spot 1)
def d_X6_number (p1 : Int32) (p2 : Int32) (m_text : Nat → Int32) (m_length : Int32) (m_spot : Int32) (m_isWrong : Int32) : Option (Int32 × Int32 × Int32) :=
    if m_length ≤ m_spot then (j_X6_number_23  m_text m_length p1 p2 (-1) m_spot m_isWrong)
    else (ob1 (d_X6_next m_text m_length m_spot) fun r23 =>
    j_X6_number_23  m_text m_length p1 p2 (r23 - 48) m_spot m_isWrong)
set_option maxHeartbeats 4000000 in
set_option maxRecDepth 100000 in
theorem c_X6_number (l : Launch) (D : va_G) (cI cC cE : ClassId) (h0 h_s h_aside h_past h_snapshot h_text : Nat) (sz : Nat) (m_pasts : Int32) (m_isKept : Int32) (m_text : Nat → Int32) (m_length : Int32) (m_hasStop : Int32) (m_stopAt : Int32) (m_stopWhy : Int32) (m_spot : Int32) (m_isWrong : Int32) (m_kind : Int32) (m_first : Int32) (m_second : Int32) (m_third : Int32) (m_fourth : Int32) (p1 : Int32) (p2 : Int32) (r0 : Int32) (o_m_spot : Int32) (o_m_isWrong : Int32) (h : d_X6_number p1 p2 m_text m_length m_spot m_isWrong = some (r0, o_m_spot, o_m_isWrong)) : Met l yX6_number wsX6_number ({ frames := 1, cells := 0, slots := 0, locals := 22 } : Room) (kP D (kT cI cC cE) [.ref h0, .int p1, .int p2] (w_X6_number cI cC h0 h_s h_aside h_past h_snapshot h_text m_pasts m_isKept m_text m_length m_hasStop m_stopAt m_stopWhy m_spot m_isWrong m_kind m_first m_second m_third m_fourth) sz) (kQi D (kT cI cC cE) (w_X6_number cI cC h0 h_s h_aside h_past h_snapshot h_text m_pasts m_isKept m_text m_length m_hasStop m_stopAt m_stopWhy m_spot m_isWrong m_kind m_first m_second m_third m_fourth) (w_X6_number cI cC h0 h_s h_aside h_past h_snapshot h_text m_pasts m_isKept m_text m_length m_hasStop m_stopAt m_stopWhy o_m_spot o_m_isWrong m_kind m_first m_second m_third m_fourth) sz r0) 0 0 (va_A (w_X6_number cI cC h0 h_s h_aside h_past h_snapshot h_text m_pasts m_isKept m_text m_length m_hasStop m_stopAt m_stopWhy m_spot m_isWrong m_kind m_first m_second m_third m_fourth) sz) := by
  refine kMetI (cc := cX6_number) (maxL := 5) (own := RX6) (by decide) rfl (Nat.le_of_ble_eq_true rfl) rfl ?_
  intro p e s m below meth c A Q hx hb hml hown hts hP hK hD hA hS hname fin ls hl
  have hl : lv_has ls 5 [(0, .ref h0), (1, .int p1), (2, .int p2)] := hl
  have hiX6 : ∀ w ∈ u_ws RX6 TX6 18, w ∈ wsX6_number := by decide +kernel
  have hJ161 : ∀ (LP97 : Int32 → Int32 → Int32 → Int32 → Option (Int32 × Int32 × Int32)), (∀ (x3 : Int32) (x4 : Int32) (m_spot : Int32) (m_isWrong : Int32) (H : Heap) (locs : List Loc), va_P D vwCl (w_X6_number cI cC h0 h_s h_aside h_past h_snapshot h_text m_pasts m_isKept m_text m_length m_hasStop m_stopAt m_stopWhy m_spot m_isWrong m_kind m_first m_second m_third m_fourth) H → va_D A (w_X6_number cI cC h0 h_s h_aside h_past h_snapshot h_text m_pasts m_isKept m_text m_length m_hasStop m_stopAt m_stopWhy m_spot m_isWrong m_kind m_first m_second m_third m_fourth) → va_S A s.heap H locs → ∀ (ls : Array Slot), lv_has ls 5 [(0, .ref h0), (2, .int p2), (3, .int x3), (4, .int x4)] → LP97 x3 x4 m_spot m_isWrong = some (r0, o_m_spot, o_m_isWrong) → W p l e ({ frames := 1, cells := 0, slots := 0, locals := 22 } : Room) s m [.ref h0, .int p1, .int p2].toArray below meth c H locs 0 0 Q (F0 m 97 ls [])) → ∀ (x3 : Int32) (x4 : Int32) (m_spot : Int32) (m_isWrong : Int32) (H : Heap) (locs : List Loc), va_P D vwCl (w_X6_number cI cC h0 h_s h_aside h_past h_snapshot h_text m_pasts m_isKept m_text m_length m_hasStop m_stopAt m_stopWhy m_spot m_isWrong m_kind m_first m_second m_third m_fourth) H → va_D A (w_X6_number cI cC h0 h_s h_aside h_past h_snapshot h_text m_pasts m_isKept m_text m_length m_hasStop m_stopAt m_stopWhy m_spot m_isWrong m_kind m_first m_second m_third m_fourth) → va_S A s.heap H locs → ∀ (ls : Array Slot), lv_has ls 5 [(0, .ref h0), (2, .int p2), (3, .int x3), (4, .int x4)] → j_X6_number_161 LP97 m_text m_length p1 p2 x3 x4 m_spot m_isWrong = some (r0, o_m_spot, o_m_isWrong) → W p l e ({ frames := 1, cells := 0, slots := 0, locals := 22 } : Room) s m [.ref h0, .int p1, .int p2].toArray below meth c H locs 0 0 Q (F0 m 161 ls []) := by
    intro LP97 hLP97
    intro x3 x4 m_spot m_isWrong H locs hP hD hS ls hl h
    dsimp only [j_X6_number_161] at h
    refine lv_aload_n hx hb dX6_number_161 rfl (lv_at hl 0 rfl) ?_
    refine lv_dup hx hb dX6_number_162 rfl ?_
    refine va_get (ci := 6) (C := RX6) (T := TX6) (N := 18) hx hb hts hiX6 hown hK hP 0 rfl rfl 11 (by decide) (hts (.fieldLink RX6 111 "RiddleTradeModel" "spot" "I") (List.mem_of_getElem? (i := 1) rfl)) (fun _ h9 => h9) rfl dX6_number_163 ?_
    refine lv_iload hx hb dX6_number_166 (lv_at hl 3 rfl) ?_
    refine lv_if_eq (tgt := 175) hx hb dX6_number_168 (by decide) (fun c10 => ?_) (fun c10 => ?_)
    · have h := (k_iB h).1 c10
      refine lv_iconst (v := 0) hx hb dX6_number_175 (by decide) ?_
      refine lv_iadd hx hb dX6_number_176 ?_
      refine va_put (ci := 6) (ty := .int) (C := RX6) (T := TX6) (N := 18) hx hb hts hiX6 tyX6 tyX6_ok nmX6 hown hK hP hD hS 0 rfl rfl 11 (by decide) (hts (.fieldLink RX6 111 "RiddleTradeModel" "spot" "I") (List.mem_of_getElem? (i := 1) rfl)) (fun _ h9 => h9) rfl (by decide +kernel) rfl rfl (Nat.le_of_ble_eq_true rfl) dX6_number_177 (fun H locs hP hD hS => ?_)
      have hP : va_P D vwCl (w_X6_number cI cC h0 h_s h_aside h_past h_snapshot h_text m_pasts m_isKept m_text m_length m_hasStop m_stopAt m_stopWhy (m_spot + 0) m_isWrong m_kind m_first m_second m_third m_fourth) H := hP
      have hD : va_D A (w_X6_number cI cC h0 h_s h_aside h_past h_snapshot h_text m_pasts m_isKept m_text m_length m_hasStop m_stopAt m_stopWhy (m_spot + 0) m_isWrong m_kind m_first m_second m_third m_fourth) := hD
      refine lv_goto (tgt := 97) hx hb dX6_number_180 (by decide) ?_
      exact hLP97 x3 x4 (m_spot + 0) m_isWrong _ _ hP hD hS _ (lv_sub hl [0, 1, 2, 3] rfl) h
    · have h := (k_iB h).2 c10
      refine lv_iconst (v := 1) hx hb dX6_number_171 (by decide) ?_
      refine lv_goto (tgt := 176) hx hb dX6_number_172 (by decide) ?_
      refine lv_iadd hx hb dX6_number_176 ?_
      refine va_put (ci := 6) (ty := .int) (C := RX6) (T := TX6) (N := 18) hx hb hts hiX6 tyX6 tyX6_ok nmX6 hown hK hP hD hS 0 rfl rfl 11 (by decide) (hts (.fieldLink RX6 111 "RiddleTradeModel" "spot" "I") (List.mem_of_getElem? (i := 1) rfl)) (fun _ h9 => h9) rfl (by decide +kernel) rfl rfl (Nat.le_of_ble_eq_true rfl) dX6_number_177 (fun H locs hP hD hS => ?_)
      have hP : va_P D vwCl (w_X6_number cI cC h0 h_s h_aside h_past h_snapshot h_text m_pasts m_isKept m_text m_length m_hasStop m_stopAt m_stopWhy (m_spot + 1) m_isWrong m_kind m_first m_second m_third m_fourth) H := hP
      have hD : va_D A (w_X6_number cI cC h0 h_s h_aside h_past h_snapshot h_text m_pasts m_isKept m_text m_length m_hasStop m_stopAt m_stopWhy (m_spot + 1) m_isWrong m_kind m_first m_second m_third m_fourth) := hD
      refine lv_goto (tgt := 97) hx hb dX6_number_180 (by decide) ?_
      exact hLP97 x3 x4 (m_spot + 1) m_isWrong _ _ hP hD hS _ (lv_sub hl [0, 1, 2, 3] rfl) h
  have hJ139 : ∀ (LP97 : Int32 → Int32 → Int32 → Int32 → Option (Int32 × Int32 × Int32)), (∀ (x3 : Int32) (x4 : Int32) (m_spot : Int32) (m_isWrong : Int32) (H : Heap) (locs : List Loc), va_P D vwCl (w_X6_number cI cC h0 h_s h_aside h_past h_snapshot h_text m_pasts m_isKept m_text m_length m_hasStop m_stopAt m_stopWhy m_spot m_isWrong m_kind m_first m_second m_third m_fourth) H → va_D A (w_X6_number cI cC h0 h_s h_aside h_past h_snapshot h_text m_pasts m_isKept m_text m_length m_hasStop m_stopAt m_stopWhy m_spot m_isWrong m_kind m_first m_second m_third m_fourth) → va_S A s.heap H locs → ∀ (ls : Array Slot), lv_has ls 5 [(0, .ref h0), (2, .int p2), (3, .int x3), (4, .int x4)] → LP97 x3 x4 m_spot m_isWrong = some (r0, o_m_spot, o_m_isWrong) → W p l e ({ frames := 1, cells := 0, slots := 0, locals := 22 } : Room) s m [.ref h0, .int p1, .int p2].toArray below meth c H locs 0 0 Q (F0 m 97 ls [])) → ∀ (x3 : Int32) (x4 : Int32) (m_spot : Int32) (m_isWrong : Int32) (H : Heap) (locs : List Loc), va_P D vwCl (w_X6_number cI cC h0 h_s h_aside h_past h_snapshot h_text m_pasts m_isKept m_text m_length m_hasStop m_stopAt m_stopWhy m_spot m_isWrong m_kind m_first m_second m_third m_fourth) H → va_D A (w_X6_number cI cC h0 h_s h_aside h_past h_snapshot h_text m_pasts m_isKept m_text m_length m_hasStop m_stopAt m_stopWhy m_spot m_isWrong m_kind m_first m_second m_third m_fourth) → va_S A s.heap H locs → ∀ (ls : Array Slot), lv_has ls 5 [(0, .ref h0), (2, .int p2), (3, .int x3), (4, .int x4)] → j_X6_number_139 LP97 m_text m_length p1 p2 x3 x4 m_spot m_isWrong = some (r0, o_m_spot, o_m_isWrong) → W p l e ({ frames := 1, cells := 0, slots := 0, locals := 22 } : Room) s m [.ref h0, .int p1, .int p2].toArray below meth c H locs 0 0 Q (F0 m 139 ls []) := by
    intro LP97 hLP97
    intro x3 x4 m_spot m_isWrong H locs hP hD hS ls hl h
    dsimp only [j_X6_number_139] at h
    refine lv_iload hx hb dX6_number_139 (lv_at hl 3 rfl) ?_
    refine lv_if_eq (tgt := 159) hx hb dX6_number_141 (by decide) (fun c9 => ?_) (fun c9 => ?_)
    · have h := (k_iB h).1 c9
      refine lv_iload_n hx hb dX6_number_159 rfl (lv_at hl 2 rfl) ?_
      refine lv_istore_n (lv' := [(3, .int x3), (0, .ref h0), (2, .int p2), (4, .int x4)]) hx hb dX6_number_160 rfl hl (by decide) rfl (fun ls hl => ?_)
      exact hJ161 LP97 hLP97 x3 x4 m_spot m_isWrong _ _ hP hD hS _ (lv_sub hl [1, 2, 0, 3] rfl) h
    · have h := (k_iB h).2 c9
      refine lv_bipush (v := 10) hx hb dX6_number_144 (by decide) ?_
      refine lv_iload_n hx hb dX6_number_146 rfl (lv_at hl 2 rfl) ?_
      refine lv_imul hx hb dX6_number_147 ?_
      refine lv_aload_n hx hb dX6_number_148 rfl (lv_at hl 0 rfl) ?_
      obtain ⟨r11, hu12, h⟩ := ob1_el h
      refine kcVi (ci := 6) (q := (RX6, TX6, 18)) (ws1 := (w_X6_number cI cC h0 h_s h_aside h_past h_snapshot h_text m_pasts m_isKept m_text m_length m_hasStop m_stopAt m_stopWhy m_spot m_isWrong m_kind m_first m_second m_third m_fourth)) ⟨hx, hb, hml, hown, hts⟩ [0, 1] [] (c_X6_next l D cI cC cE h0 h_s h_aside h_past h_snapshot h_text _ m_pasts m_isKept m_text m_length m_hasStop m_stopAt m_stopWhy m_spot m_isWrong m_kind m_first m_second m_third m_fourth r11 hu12) (cwV 0 hts gX6_number_X6_next rfl rfl rfl (by decide +kernel) ⟨Nat.le_of_ble_eq_true rfl, Nat.le_of_ble_eq_true rfl⟩) hK hP hD hS hA rfl rfl rfl rfl rfl rfl rfl rfl rfl hl.1 rfl (Nat.le_of_ble_eq_true rfl) dX6_number_149 ⟨Nat.le_refl 0, Nat.le_refl 0⟩ (fun H locs hP hD hS => ?_)
      refine lv_iadd hx hb dX6_number_152 ?_
      refine lv_bipush (v := 48) hx hb dX6_number_153 (by decide) ?_
      refine lv_isub hx hb dX6_number_155 ?_
      refine lv_goto (tgt := 160) hx hb dX6_number_156 (by decide) ?_
      refine lv_istore_n (lv' := [(3, .int (((10 * x3) + r11) - 48)), (0, .ref h0), (2, .int p2), (4, .int x4)]) hx hb dX6_number_160 rfl hl (by decide) rfl (fun ls hl => ?_)
      exact hJ161 LP97 hLP97 (((10 * x3) + r11) - 48) x4 m_spot m_isWrong _ _ hP hD hS _ (lv_sub hl [1, 2, 0, 3] rfl) h
  have hJ136 : ∀ (LP97 : Int32 → Int32 → Int32 → Int32 → Option (Int32 × Int32 × Int32)), (∀ (x3 : Int32) (x4 : Int32) (m_spot : Int32) (m_isWrong : Int32) (H : Heap) (locs : List Loc), va_P D vwCl (w_X6_number cI cC h0 h_s h_aside h_past h_snapshot h_text m_pasts m_isKept m_text m_length m_hasStop m_stopAt m_stopWhy m_spot m_isWrong m_kind m_first m_second m_third m_fourth) H → va_D A (w_X6_number cI cC h0 h_s h_aside h_past h_snapshot h_text m_pasts m_isKept m_text m_length m_hasStop m_stopAt m_stopWhy m_spot m_isWrong m_kind m_first m_second m_third m_fourth) → va_S A s.heap H locs → ∀ (ls : Array Slot), lv_has ls 5 [(0, .ref h0), (2, .int p2), (3, .int x3), (4, .int x4)] → LP97 x3 x4 m_spot m_isWrong = some (r0, o_m_spot, o_m_isWrong) → W p l e ({ frames := 1, cells := 0, slots := 0, locals := 22 } : Room) s m [.ref h0, .int p1, .int p2].toArray below meth c H locs 0 0 Q (F0 m 97 ls [])) → ∀ (x3 : Int32) (m_spot : Int32) (m_isWrong : Int32) (H : Heap) (locs : List Loc), va_P D vwCl (w_X6_number cI cC h0 h_s h_aside h_past h_snapshot h_text m_pasts m_isKept m_text m_length m_hasStop m_stopAt m_stopWhy m_spot m_isWrong m_kind m_first m_second m_third m_fourth) H → va_D A (w_X6_number cI cC h0 h_s h_aside h_past h_snapshot h_text m_pasts m_isKept m_text m_length m_hasStop m_stopAt m_stopWhy m_spot m_isWrong m_kind m_first m_second m_third m_fourth) → va_S A s.heap H locs → ∀ (ls : Array Slot), lv_has ls 5 [(0, .ref h0), (2, .int p2), (3, .int x3)] → j_X6_number_136 LP97 m_text m_length p1 p2 x3 m_spot m_isWrong = some (r0, o_m_spot, o_m_isWrong) → W p l e ({ frames := 1, cells := 0, slots := 0, locals := 22 } : Room) s m [.ref h0, .int p1, .int p2].toArray below meth c H locs 0 0 Q (F0 m 136 ls []) := by
    intro LP97 hLP97
    intro x3 m_spot m_isWrong H locs hP hD hS ls hl h
    dsimp only [j_X6_number_136] at h
    refine lv_iconst (v := 0) hx hb dX6_number_136 (by decide) ?_
    refine lv_istore (lv' := [(4, .int 0), (0, .ref h0), (2, .int p2), (3, .int x3)]) hx hb dX6_number_137 hl (by decide) rfl (fun ls hl => ?_)
    exact hJ139 LP97 hLP97 x3 0 m_spot m_isWrong _ _ hP hD hS _ (lv_sub hl [1, 2, 3, 0] rfl) h
  have hL97 : ∀ (k : Nat), ∀ (x3 : Int32) (x4 : Int32) (m_spot : Int32) (m_isWrong : Int32) (H : Heap) (locs : List Loc), va_P D vwCl (w_X6_number cI cC h0 h_s h_aside h_past h_snapshot h_text m_pasts m_isKept m_text m_length m_hasStop m_stopAt m_stopWhy m_spot m_isWrong m_kind m_first m_second m_third m_fourth) H → va_D A (w_X6_number cI cC h0 h_s h_aside h_past h_snapshot h_text m_pasts m_isKept m_text m_length m_hasStop m_stopAt m_stopWhy m_spot m_isWrong m_kind m_first m_second m_third m_fourth) → va_S A s.heap H locs → ∀ (ls : Array Slot), lv_has ls 5 [(0, .ref h0), (2, .int p2), (3, .int x3), (4, .int x4)] → lp_X6_number_97  m_text m_length p1 p2 k x3 x4 m_spot m_isWrong = some (r0, o_m_spot, o_m_isWrong) → W p l e ({ frames := 1, cells := 0, slots := 0, locals := 22 } : Room) s m [.ref h0, .int p1, .int p2].toArray below meth c H locs 0 0 Q (F0 m 97 ls []) := by
    intro k
    induction k with
    | zero =>
      intro x3 x4 m_spot m_isWrong H locs hP hD hS ls hl h
      exact k_none h
    | succ k ih =>
      intro x3 x4 m_spot m_isWrong H locs hP hD hS ls hl h
      dsimp only [lp_X6_number_97] at h
      refine lv_iload hx hb dX6_number_97 (lv_at hl 3 rfl) ?_
      refine lv_if_eq (tgt := 183) hx hb dX6_number_99 (by decide) (fun c5 => ?_) (fun c5 => ?_)
      · have h := (k_iB h).1 c5
        refine lv_iload_n hx hb dX6_number_183 rfl (lv_at hl 2 rfl) ?_
        obtain ⟨rfl, rfl, rfl⟩ := inj3 (Option.some.inj h)
        exact fin _ _ _ _ dX6_number_184 hP hD hS
      · have h := (k_iB h).2 c5
        refine lv_aload_n hx hb dX6_number_102 rfl (lv_at hl 0 rfl) ?_
        obtain ⟨r6, hu7, h⟩ := ob1_el h
        refine kcVi (ci := 6) (q := (RX6, TX6, 18)) (ws1 := (w_X6_number cI cC h0 h_s h_aside h_past h_snapshot h_text m_pasts m_isKept m_text m_length m_hasStop m_stopAt m_stopWhy m_spot m_isWrong m_kind m_first m_second m_third m_fourth)) ⟨hx, hb, hml, hown, hts⟩ [0, 1] [] (c_X6_next l D cI cC cE h0 h_s h_aside h_past h_snapshot h_text _ m_pasts m_isKept m_text m_length m_hasStop m_stopAt m_stopWhy m_spot m_isWrong m_kind m_first m_second m_third m_fourth r6 hu7) (cwV 0 hts gX6_number_X6_next rfl rfl rfl (by decide +kernel) ⟨Nat.le_of_ble_eq_true rfl, Nat.le_of_ble_eq_true rfl⟩) hK hP hD hS hA rfl rfl rfl rfl rfl rfl rfl rfl rfl hl.1 rfl (Nat.le_of_ble_eq_true rfl) dX6_number_103 ⟨Nat.le_refl 0, Nat.le_refl 0⟩ (fun H locs hP hD hS => ?_)
        refine lv_bipush (v := 48) hx hb dX6_number_106 (by decide) ?_
        refine lv_bipush (v := 57) hx hb dX6_number_108 (by decide) ?_
        refine kcSi (ws1 := (w_X6_number cI cC h0 h_s h_aside h_past h_snapshot h_text m_pasts m_isKept m_text m_length m_hasStop m_stopAt m_stopWhy m_spot m_isWrong m_kind m_first m_second m_third m_fourth)) ⟨hx, hb, hml, hown, hts⟩ [] [0, 1] (c_X6_in l D cI cC cE _ r6 48 57 (d_X6_in r6 48 57) rfl) (va_cwS 3 hts gX6_number_X6_in rfl rfl rfl (by decide +kernel) ⟨Nat.le_of_ble_eq_true rfl, Nat.le_of_ble_eq_true rfl⟩) hK hP hD hS hA rfl rfl rfl rfl rfl rfl rfl hl.1 rfl (Nat.le_of_ble_eq_true rfl) dX6_number_110 ⟨Nat.le_refl 0, Nat.le_refl 0⟩ (fun H locs hP hD hS => ?_)
        refine lv_if_eq (tgt := 136) hx hb dX6_number_113 (by decide) (fun c8 => ?_) (fun c8 => ?_)
        · have h := (k_iB h).1 c8
          exact hJ136 (lp_X6_number_97  m_text m_length p1 p2 k) ih x3 m_spot m_isWrong _ _ hP hD hS _ (lv_sub hl [0, 1, 2] rfl) h
        · have h := (k_iB h).2 c8
          refine lv_bipush (v := 10) hx hb dX6_number_116 (by decide) ?_
          refine lv_iload_n hx hb dX6_number_118 rfl (lv_at hl 2 rfl) ?_
          refine lv_imul hx hb dX6_number_119 ?_
          refine lv_aload_n hx hb dX6_number_120 rfl (lv_at hl 0 rfl) ?_
          obtain ⟨r13, hu14, h⟩ := ob1_el h
          refine kcVi (ci := 6) (q := (RX6, TX6, 18)) (ws1 := (w_X6_number cI cC h0 h_s h_aside h_past h_snapshot h_text m_pasts m_isKept m_text m_length m_hasStop m_stopAt m_stopWhy m_spot m_isWrong m_kind m_first m_second m_third m_fourth)) ⟨hx, hb, hml, hown, hts⟩ [0, 1] [] (c_X6_next l D cI cC cE h0 h_s h_aside h_past h_snapshot h_text _ m_pasts m_isKept m_text m_length m_hasStop m_stopAt m_stopWhy m_spot m_isWrong m_kind m_first m_second m_third m_fourth r13 hu14) (cwV 0 hts gX6_number_X6_next rfl rfl rfl (by decide +kernel) ⟨Nat.le_of_ble_eq_true rfl, Nat.le_of_ble_eq_true rfl⟩) hK hP hD hS hA rfl rfl rfl rfl rfl rfl rfl rfl rfl hl.1 rfl (Nat.le_of_ble_eq_true rfl) dX6_number_121 ⟨Nat.le_refl 0, Nat.le_refl 0⟩ (fun H locs hP hD hS => ?_)
          refine lv_iadd hx hb dX6_number_124 ?_
          refine lv_bipush (v := 48) hx hb dX6_number_125 (by decide) ?_
          refine lv_isub hx hb dX6_number_127 ?_
          refine lv_iload_n hx hb dX6_number_128 rfl (lv_at hl 1 rfl) ?_
          refine lv_icmp_gt (tgt := 136) hx hb dX6_number_129 (by decide) (fun c15 => ?_) (fun c15 => ?_)
          · have h := (k_iB h).1 c15
            exact hJ136 (lp_X6_number_97  m_text m_length p1 p2 k) ih x3 m_spot m_isWrong _ _ hP hD hS _ (lv_sub hl [0, 1, 2] rfl) h
          · have h := (k_iB h).2 c15
            refine lv_iconst (v := 1) hx hb dX6_number_132 (by decide) ?_
            refine lv_goto (tgt := 137) hx hb dX6_number_133 (by decide) ?_
            refine lv_istore (lv' := [(4, .int 1), (0, .ref h0), (2, .int p2), (3, .int x3)]) hx hb dX6_number_137 hl (by decide) rfl (fun ls hl => ?_)
            exact hJ139 (lp_X6_number_97  m_text m_length p1 p2 k) ih x3 1 m_spot m_isWrong _ _ hP hD hS _ (lv_sub hl [1, 2, 3, 0] rfl) h
  have hJ67 : ∀ (x3 : Int32) (m_spot : Int32) (m_isWrong : Int32) (H : Heap) (locs : List Loc), va_P D vwCl (w_X6_number cI cC h0 h_s h_aside h_past h_snapshot h_text m_pasts m_isKept m_text m_length m_hasStop m_stopAt m_stopWhy m_spot m_isWrong m_kind m_first m_second m_third m_fourth) H → va_D A (w_X6_number cI cC h0 h_s h_aside h_past h_snapshot h_text m_pasts m_isKept m_text m_length m_hasStop m_stopAt m_stopWhy m_spot m_isWrong m_kind m_first m_second m_third m_fourth) → va_S A s.heap H locs → ∀ (ls : Array Slot), lv_has ls 5 [(0, .ref h0), (2, .int p2), (3, .int x3)] → j_X6_number_67  m_text m_length p1 p2 x3 m_spot m_isWrong = some (r0, o_m_spot, o_m_isWrong) → W p l e ({ frames := 1, cells := 0, slots := 0, locals := 22 } : Room) s m [.ref h0, .int p1, .int p2].toArray below meth c H locs 0 0 Q (F0 m 67 ls []) := by
    intro x3 m_spot m_isWrong H locs hP hD hS ls hl h
    dsimp only [j_X6_number_67] at h
    refine lv_aload_n hx hb dX6_number_67 rfl (lv_at hl 0 rfl) ?_
    refine va_get (ci := 6) (C := RX6) (T := TX6) (N := 18) hx hb hts hiX6 hown hK hP 0 rfl rfl 12 (by decide) (hts (.fieldLink RX6 114 "RiddleTradeModel" "isWrong" "Z") (List.mem_of_getElem? (i := 3) rfl)) (fun _ h9 => h9) rfl dX6_number_68 ?_
    refine lv_if_eq (tgt := 76) hx hb dX6_number_71 (by decide) (fun c3 => ?_) (fun c3 => ?_)
    · have h := (k_iB h).1 c3
      refine lv_aload_n hx hb dX6_number_76 rfl (lv_at hl 0 rfl) ?_
      refine lv_dup hx hb dX6_number_77 rfl ?_
      refine va_get (ci := 6) (C := RX6) (T := TX6) (N := 18) hx hb hts hiX6 hown hK hP 0 rfl rfl 11 (by decide) (hts (.fieldLink RX6 111 "RiddleTradeModel" "spot" "I") (List.mem_of_getElem? (i := 1) rfl)) (fun _ h9 => h9) rfl dX6_number_78 ?_
      refine lv_iconst (v := 1) hx hb dX6_number_81 (by decide) ?_
      refine lv_iadd hx hb dX6_number_82 ?_
      refine va_put (ci := 6) (ty := .int) (C := RX6) (T := TX6) (N := 18) hx hb hts hiX6 tyX6 tyX6_ok nmX6 hown hK hP hD hS 0 rfl rfl 11 (by decide) (hts (.fieldLink RX6 111 "RiddleTradeModel" "spot" "I") (List.mem_of_getElem? (i := 1) rfl)) (fun _ h9 => h9) rfl (by decide +kernel) rfl rfl (Nat.le_of_ble_eq_true rfl) dX6_number_83 (fun H locs hP hD hS => ?_)
      have hP : va_P D vwCl (w_X6_number cI cC h0 h_s h_aside h_past h_snapshot h_text m_pasts m_isKept m_text m_length m_hasStop m_stopAt m_stopWhy (m_spot + 1) m_isWrong m_kind m_first m_second m_third m_fourth) H := hP
      have hD : va_D A (w_X6_number cI cC h0 h_s h_aside h_past h_snapshot h_text m_pasts m_isKept m_text m_length m_hasStop m_stopAt m_stopWhy (m_spot + 1) m_isWrong m_kind m_first m_second m_third m_fourth) := hD
      refine lv_iload_n hx hb dX6_number_86 rfl (lv_at hl 2 rfl) ?_
      refine lv_if_le (tgt := 94) hx hb dX6_number_87 (by decide) (fun c4 => ?_) (fun c4 => ?_)
      · have h := (k_iB h).1 c4
        refine lv_iconst (v := 0) hx hb dX6_number_94 (by decide) ?_
        refine lv_istore (lv' := [(4, .int 0), (0, .ref h0), (2, .int p2), (3, .int x3)]) hx hb dX6_number_95 hl (by decide) rfl (fun ls hl => ?_)
        exact hL97   fuel x3 0 (m_spot + 1) m_isWrong _ _ hP hD hS _ (lv_sub hl [1, 2, 3, 0] rfl) h
      · have h := (k_iB h).2 c4
        refine lv_iconst (v := 1) hx hb dX6_number_90 (by decide) ?_
        refine lv_goto (tgt := 95) hx hb dX6_number_91 (by decide) ?_
        refine lv_istore (lv' := [(4, .int 1), (0, .ref h0), (2, .int p2), (3, .int x3)]) hx hb dX6_number_95 hl (by decide) rfl (fun ls hl => ?_)
        exact hL97   fuel x3 1 (m_spot + 1) m_isWrong _ _ hP hD hS _ (lv_sub hl [1, 2, 3, 0] rfl) h
    · have h := (k_iB h).2 c3
      refine lv_iconst (v := 0) hx hb dX6_number_74 (by decide) ?_
      obtain ⟨rfl, rfl, rfl⟩ := inj3 (Option.some.inj h)
      exact fin _ _ _ _ dX6_number_75 hP hD hS
  have hJ23 : ∀ (x3 : Int32) (m_spot : Int32) (m_isWrong : Int32) (H : Heap) (locs : List Loc), va_P D vwCl (w_X6_number cI cC h0 h_s h_aside h_past h_snapshot h_text m_pasts m_isKept m_text m_length m_hasStop m_stopAt m_stopWhy m_spot m_isWrong m_kind m_first m_second m_third m_fourth) H → va_D A (w_X6_number cI cC h0 h_s h_aside h_past h_snapshot h_text m_pasts m_isKept m_text m_length m_hasStop m_stopAt m_stopWhy m_spot m_isWrong m_kind m_first m_second m_third m_fourth) → va_S A s.heap H locs → ∀ (ls : Array Slot), lv_has ls 5 [(0, .ref h0), (1, .int p1), (2, .int p2), (3, .int x3)] → j_X6_number_23  m_text m_length p1 p2 x3 m_spot m_isWrong = some (r0, o_m_spot, o_m_isWrong) → W p l e ({ frames := 1, cells := 0, slots := 0, locals := 22 } : Room) s m [.ref h0, .int p1, .int p2].toArray below meth c H locs 0 0 Q (F0 m 23 ls []) := by
    intro x3 m_spot m_isWrong H locs hP hD hS ls hl h
    dsimp only [j_X6_number_23] at h
    refine lv_aload_n hx hb dX6_number_23 rfl (lv_at hl 0 rfl) ?_
    refine lv_aload_n hx hb dX6_number_24 rfl (lv_at hl 0 rfl) ?_
    refine va_get (ci := 6) (C := RX6) (T := TX6) (N := 18) hx hb hts hiX6 hown hK hP 0 rfl rfl 12 (by decide) (hts (.fieldLink RX6 114 "RiddleTradeModel" "isWrong" "Z") (List.mem_of_getElem? (i := 3) rfl)) (fun _ h9 => h9) rfl dX6_number_25 ?_
    refine lv_if_ne (tgt := 59) hx hb dX6_number_28 (by decide) (fun c2 => ?_) (fun c2 => ?_)
    · have h := (k_iB h).2 c2
      refine lv_iconst (v := 1) hx hb dX6_number_59 (by decide) ?_
      refine lv_goto (tgt := 64) hx hb dX6_number_60 (by decide) ?_
      refine va_put (ci := 6) (ty := .boolean) (C := RX6) (T := TX6) (N := 18) hx hb hts hiX6 tyX6 tyX6_ok nmX6 hown hK hP hD hS 0 rfl rfl 12 (by decide) (hts (.fieldLink RX6 114 "RiddleTradeModel" "isWrong" "Z") (List.mem_of_getElem? (i := 3) rfl)) (fun _ h9 => h9) rfl (by decide +kernel) rfl rfl (Nat.le_of_ble_eq_true rfl) dX6_number_64 (fun H locs hP hD hS => ?_)
      have hP : va_P D vwCl (w_X6_number cI cC h0 h_s h_aside h_past h_snapshot h_text m_pasts m_isKept m_text m_length m_hasStop m_stopAt m_stopWhy m_spot 1 m_kind m_first m_second m_third m_fourth) H := hP
      have hD : va_D A (w_X6_number cI cC h0 h_s h_aside h_past h_snapshot h_text m_pasts m_isKept m_text m_length m_hasStop m_stopAt m_stopWhy m_spot 1 m_kind m_first m_second m_third m_fourth) := hD
      exact hJ67   x3 m_spot 1 _ _ hP hD hS _ (lv_sub hl [0, 2, 3] rfl) h
    · have h := (k_iB h).1 c2
      refine lv_iload_n hx hb dX6_number_31 rfl (lv_at hl 3 rfl) ?_
      refine lv_iload_n hx hb dX6_number_32 rfl (lv_at hl 1 rfl) ?_
      refine lv_if_le (tgt := 40) hx hb dX6_number_33 (by decide) (fun c16 => ?_) (fun c16 => ?_)
      · have h := (k_iB h).1 c16
        refine lv_iconst (v := 0) hx hb dX6_number_40 (by decide) ?_
        refine lv_iload_n hx hb dX6_number_41 rfl (lv_at hl 2 rfl) ?_
        refine lv_bipush (v := 9) hx hb dX6_number_42 (by decide) ?_
        refine lv_icmp_ge (tgt := 51) hx hb dX6_number_44 (by decide) (fun c17 => ?_) (fun c17 => ?_)
        · have h := (k_iB h).1 c17
          refine lv_bipush (v := 9) hx hb dX6_number_51 (by decide) ?_
          refine kcSi (ws1 := (w_X6_number cI cC h0 h_s h_aside h_past h_snapshot h_text m_pasts m_isKept m_text m_length m_hasStop m_stopAt m_stopWhy m_spot m_isWrong m_kind m_first m_second m_third m_fourth)) ⟨hx, hb, hml, hown, hts⟩ [] [0, 1] (c_X6_in l D cI cC cE _ x3 0 9 (d_X6_in x3 0 9) rfl) (va_cwS 3 hts gX6_number_X6_in rfl rfl rfl (by decide +kernel) ⟨Nat.le_of_ble_eq_true rfl, Nat.le_of_ble_eq_true rfl⟩) hK hP hD hS hA rfl rfl rfl rfl rfl rfl rfl hl.1 rfl (Nat.le_of_ble_eq_true rfl) dX6_number_53 ⟨Nat.le_refl 0, Nat.le_refl 0⟩ (fun H locs hP hD hS => ?_)
          refine lv_if_ne (tgt := 63) hx hb dX6_number_56 (by decide) (fun c18 => ?_) (fun c18 => ?_)
          · have h := (k_iB h).2 c18
            refine lv_iconst (v := 0) hx hb dX6_number_63 (by decide) ?_
            refine va_put (ci := 6) (ty := .boolean) (C := RX6) (T := TX6) (N := 18) hx hb hts hiX6 tyX6 tyX6_ok nmX6 hown hK hP hD hS 0 rfl rfl 12 (by decide) (hts (.fieldLink RX6 114 "RiddleTradeModel" "isWrong" "Z") (List.mem_of_getElem? (i := 3) rfl)) (fun _ h9 => h9) rfl (by decide +kernel) rfl rfl (Nat.le_of_ble_eq_true rfl) dX6_number_64 (fun H locs hP hD hS => ?_)
            have hP : va_P D vwCl (w_X6_number cI cC h0 h_s h_aside h_past h_snapshot h_text m_pasts m_isKept m_text m_length m_hasStop m_stopAt m_stopWhy m_spot 0 m_kind m_first m_second m_third m_fourth) H := hP
            have hD : va_D A (w_X6_number cI cC h0 h_s h_aside h_past h_snapshot h_text m_pasts m_isKept m_text m_length m_hasStop m_stopAt m_stopWhy m_spot 0 m_kind m_first m_second m_third m_fourth) := hD
            exact hJ67   x3 m_spot 0 _ _ hP hD hS _ (lv_sub hl [0, 2, 3] rfl) h
          · have h := (k_iB h).1 c18
            refine lv_iconst (v := 1) hx hb dX6_number_59 (by decide) ?_
            refine lv_goto (tgt := 64) hx hb dX6_number_60 (by decide) ?_
            refine va_put (ci := 6) (ty := .boolean) (C := RX6) (T := TX6) (N := 18) hx hb hts hiX6 tyX6 tyX6_ok nmX6 hown hK hP hD hS 0 rfl rfl 12 (by decide) (hts (.fieldLink RX6 114 "RiddleTradeModel" "isWrong" "Z") (List.mem_of_getElem? (i := 3) rfl)) (fun _ h9 => h9) rfl (by decide +kernel) rfl rfl (Nat.le_of_ble_eq_true rfl) dX6_number_64 (fun H locs hP hD hS => ?_)
            have hP : va_P D vwCl (w_X6_number cI cC h0 h_s h_aside h_past h_snapshot h_text m_pasts m_isKept m_text m_length m_hasStop m_stopAt m_stopWhy m_spot 1 m_kind m_first m_second m_third m_fourth) H := hP
            have hD : va_D A (w_X6_number cI cC h0 h_s h_aside h_past h_snapshot h_text m_pasts m_isKept m_text m_length m_hasStop m_stopAt m_stopWhy m_spot 1 m_kind m_first m_second m_third m_fourth) := hD
            exact hJ67   x3 m_spot 1 _ _ hP hD hS _ (lv_sub hl [0, 2, 3] rfl) h
        · have h := (k_iB h).2 c17
          refine lv_iload_n hx hb dX6_number_47 rfl (lv_at hl 2 rfl) ?_
          refine lv_goto (tgt := 53) hx hb dX6_number_48 (by decide) ?_
          refine kcSi (ws1 := (w_X6_number cI cC h0 h_s h_aside h_past h_snapshot h_text m_pasts m_isKept m_text m_length m_hasStop m_stopAt m_stopWhy m_spot m_isWrong m_kind m_first m_second m_third m_fourth)) ⟨hx, hb, hml, hown, hts⟩ [] [0, 1] (c_X6_in l D cI cC cE _ x3 0 p2 (d_X6_in x3 0 p2) rfl) (va_cwS 3 hts gX6_number_X6_in rfl rfl rfl (by decide +kernel) ⟨Nat.le_of_ble_eq_true rfl, Nat.le_of_ble_eq_true rfl⟩) hK hP hD hS hA rfl rfl rfl rfl rfl rfl rfl hl.1 rfl (Nat.le_of_ble_eq_true rfl) dX6_number_53 ⟨Nat.le_refl 0, Nat.le_refl 0⟩ (fun H locs hP hD hS => ?_)
          refine lv_if_ne (tgt := 63) hx hb dX6_number_56 (by decide) (fun c19 => ?_) (fun c19 => ?_)
          · have h := (k_iB h).2 c19
            refine lv_iconst (v := 0) hx hb dX6_number_63 (by decide) ?_
            refine va_put (ci := 6) (ty := .boolean) (C := RX6) (T := TX6) (N := 18) hx hb hts hiX6 tyX6 tyX6_ok nmX6 hown hK hP hD hS 0 rfl rfl 12 (by decide) (hts (.fieldLink RX6 114 "RiddleTradeModel" "isWrong" "Z") (List.mem_of_getElem? (i := 3) rfl)) (fun _ h9 => h9) rfl (by decide +kernel) rfl rfl (Nat.le_of_ble_eq_true rfl) dX6_number_64 (fun H locs hP hD hS => ?_)
            have hP : va_P D vwCl (w_X6_number cI cC h0 h_s h_aside h_past h_snapshot h_text m_pasts m_isKept m_text m_length m_hasStop m_stopAt m_stopWhy m_spot 0 m_kind m_first m_second m_third m_fourth) H := hP
            have hD : va_D A (w_X6_number cI cC h0 h_s h_aside h_past h_snapshot h_text m_pasts m_isKept m_text m_length m_hasStop m_stopAt m_stopWhy m_spot 0 m_kind m_first m_second m_third m_fourth) := hD
            exact hJ67   x3 m_spot 0 _ _ hP hD hS _ (lv_sub hl [0, 2, 3] rfl) h
          · have h := (k_iB h).1 c19
            refine lv_iconst (v := 1) hx hb dX6_number_59 (by decide) ?_
            refine lv_goto (tgt := 64) hx hb dX6_number_60 (by decide) ?_
            refine va_put (ci := 6) (ty := .boolean) (C := RX6) (T := TX6) (N := 18) hx hb hts hiX6 tyX6 tyX6_ok nmX6 hown hK hP hD hS 0 rfl rfl 12 (by decide) (hts (.fieldLink RX6 114 "RiddleTradeModel" "isWrong" "Z") (List.mem_of_getElem? (i := 3) rfl)) (fun _ h9 => h9) rfl (by decide +kernel) rfl rfl (Nat.le_of_ble_eq_true rfl) dX6_number_64 (fun H locs hP hD hS => ?_)
            have hP : va_P D vwCl (w_X6_number cI cC h0 h_s h_aside h_past h_snapshot h_text m_pasts m_isKept m_text m_length m_hasStop m_stopAt m_stopWhy m_spot 1 m_kind m_first m_second m_third m_fourth) H := hP
            have hD : va_D A (w_X6_number cI cC h0 h_s h_aside h_past h_snapshot h_text m_pasts m_isKept m_text m_length m_hasStop m_stopAt m_stopWhy m_spot 1 m_kind m_first m_second m_third m_fourth) := hD
            exact hJ67   x3 m_spot 1 _ _ hP hD hS _ (lv_sub hl [0, 2, 3] rfl) h
      · have h := (k_iB h).2 c16
        refine lv_iconst (v := 1) hx hb dX6_number_36 (by decide) ?_
        refine lv_goto (tgt := 41) hx hb dX6_number_37 (by decide) ?_
        refine lv_iload_n hx hb dX6_number_41 rfl (lv_at hl 2 rfl) ?_
        refine lv_bipush (v := 9) hx hb dX6_number_42 (by decide) ?_
        refine lv_icmp_ge (tgt := 51) hx hb dX6_number_44 (by decide) (fun c20 => ?_) (fun c20 => ?_)
        · have h := (k_iB h).1 c20
          refine lv_bipush (v := 9) hx hb dX6_number_51 (by decide) ?_
          refine kcSi (ws1 := (w_X6_number cI cC h0 h_s h_aside h_past h_snapshot h_text m_pasts m_isKept m_text m_length m_hasStop m_stopAt m_stopWhy m_spot m_isWrong m_kind m_first m_second m_third m_fourth)) ⟨hx, hb, hml, hown, hts⟩ [] [0, 1] (c_X6_in l D cI cC cE _ x3 1 9 (d_X6_in x3 1 9) rfl) (va_cwS 3 hts gX6_number_X6_in rfl rfl rfl (by decide +kernel) ⟨Nat.le_of_ble_eq_true rfl, Nat.le_of_ble_eq_true rfl⟩) hK hP hD hS hA rfl rfl rfl rfl rfl rfl rfl hl.1 rfl (Nat.le_of_ble_eq_true rfl) dX6_number_53 ⟨Nat.le_refl 0, Nat.le_refl 0⟩ (fun H locs hP hD hS => ?_)
          refine lv_if_ne (tgt := 63) hx hb dX6_number_56 (by decide) (fun c21 => ?_) (fun c21 => ?_)
          · have h := (k_iB h).2 c21
            refine lv_iconst (v := 0) hx hb dX6_number_63 (by decide) ?_
            refine va_put (ci := 6) (ty := .boolean) (C := RX6) (T := TX6) (N := 18) hx hb hts hiX6 tyX6 tyX6_ok nmX6 hown hK hP hD hS 0 rfl rfl 12 (by decide) (hts (.fieldLink RX6 114 "RiddleTradeModel" "isWrong" "Z") (List.mem_of_getElem? (i := 3) rfl)) (fun _ h9 => h9) rfl (by decide +kernel) rfl rfl (Nat.le_of_ble_eq_true rfl) dX6_number_64 (fun H locs hP hD hS => ?_)
            have hP : va_P D vwCl (w_X6_number cI cC h0 h_s h_aside h_past h_snapshot h_text m_pasts m_isKept m_text m_length m_hasStop m_stopAt m_stopWhy m_spot 0 m_kind m_first m_second m_third m_fourth) H := hP
            have hD : va_D A (w_X6_number cI cC h0 h_s h_aside h_past h_snapshot h_text m_pasts m_isKept m_text m_length m_hasStop m_stopAt m_stopWhy m_spot 0 m_kind m_first m_second m_third m_fourth) := hD
            exact hJ67   x3 m_spot 0 _ _ hP hD hS _ (lv_sub hl [0, 2, 3] rfl) h
          · have h := (k_iB h).1 c21
            refine lv_iconst (v := 1) hx hb dX6_number_59 (by decide) ?_
            refine lv_goto (tgt := 64) hx hb dX6_number_60 (by decide) ?_
            refine va_put (ci := 6) (ty := .boolean) (C := RX6) (T := TX6) (N := 18) hx hb hts hiX6 tyX6 tyX6_ok nmX6 hown hK hP hD hS 0 rfl rfl 12 (by decide) (hts (.fieldLink RX6 114 "RiddleTradeModel" "isWrong" "Z") (List.mem_of_getElem? (i := 3) rfl)) (fun _ h9 => h9) rfl (by decide +kernel) rfl rfl (Nat.le_of_ble_eq_true rfl) dX6_number_64 (fun H locs hP hD hS => ?_)
            have hP : va_P D vwCl (w_X6_number cI cC h0 h_s h_aside h_past h_snapshot h_text m_pasts m_isKept m_text m_length m_hasStop m_stopAt m_stopWhy m_spot 1 m_kind m_first m_second m_third m_fourth) H := hP
            have hD : va_D A (w_X6_number cI cC h0 h_s h_aside h_past h_snapshot h_text m_pasts m_isKept m_text m_length m_hasStop m_stopAt m_stopWhy m_spot 1 m_kind m_first m_second m_third m_fourth) := hD
            exact hJ67   x3 m_spot 1 _ _ hP hD hS _ (lv_sub hl [0, 2, 3] rfl) h
        · have h := (k_iB h).2 c20
          refine lv_iload_n hx hb dX6_number_47 rfl (lv_at hl 2 rfl) ?_
          refine lv_goto (tgt := 53) hx hb dX6_number_48 (by decide) ?_
          refine kcSi (ws1 := (w_X6_number cI cC h0 h_s h_aside h_past h_snapshot h_text m_pasts m_isKept m_text m_length m_hasStop m_stopAt m_stopWhy m_spot m_isWrong m_kind m_first m_second m_third m_fourth)) ⟨hx, hb, hml, hown, hts⟩ [] [0, 1] (c_X6_in l D cI cC cE _ x3 1 p2 (d_X6_in x3 1 p2) rfl) (va_cwS 3 hts gX6_number_X6_in rfl rfl rfl (by decide +kernel) ⟨Nat.le_of_ble_eq_true rfl, Nat.le_of_ble_eq_true rfl⟩) hK hP hD hS hA rfl rfl rfl rfl rfl rfl rfl hl.1 rfl (Nat.le_of_ble_eq_true rfl) dX6_number_53 ⟨Nat.le_refl 0, Nat.le_refl 0⟩ (fun H locs hP hD hS => ?_)
          refine lv_if_ne (tgt := 63) hx hb dX6_number_56 (by decide) (fun c22 => ?_) (fun c22 => ?_)
          · have h := (k_iB h).2 c22
            refine lv_iconst (v := 0) hx hb dX6_number_63 (by decide) ?_
            refine va_put (ci := 6) (ty := .boolean) (C := RX6) (T := TX6) (N := 18) hx hb hts hiX6 tyX6 tyX6_ok nmX6 hown hK hP hD hS 0 rfl rfl 12 (by decide) (hts (.fieldLink RX6 114 "RiddleTradeModel" "isWrong" "Z") (List.mem_of_getElem? (i := 3) rfl)) (fun _ h9 => h9) rfl (by decide +kernel) rfl rfl (Nat.le_of_ble_eq_true rfl) dX6_number_64 (fun H locs hP hD hS => ?_)
            have hP : va_P D vwCl (w_X6_number cI cC h0 h_s h_aside h_past h_snapshot h_text m_pasts m_isKept m_text m_length m_hasStop m_stopAt m_stopWhy m_spot 0 m_kind m_first m_second m_third m_fourth) H := hP
            have hD : va_D A (w_X6_number cI cC h0 h_s h_aside h_past h_snapshot h_text m_pasts m_isKept m_text m_length m_hasStop m_stopAt m_stopWhy m_spot 0 m_kind m_first m_second m_third m_fourth) := hD
            exact hJ67   x3 m_spot 0 _ _ hP hD hS _ (lv_sub hl [0, 2, 3] rfl) h
          · have h := (k_iB h).1 c22
            refine lv_iconst (v := 1) hx hb dX6_number_59 (by decide) ?_
            refine lv_goto (tgt := 64) hx hb dX6_number_60 (by decide) ?_
            refine va_put (ci := 6) (ty := .boolean) (C := RX6) (T := TX6) (N := 18) hx hb hts hiX6 tyX6 tyX6_ok nmX6 hown hK hP hD hS 0 rfl rfl 12 (by decide) (hts (.fieldLink RX6 114 "RiddleTradeModel" "isWrong" "Z") (List.mem_of_getElem? (i := 3) rfl)) (fun _ h9 => h9) rfl (by decide +kernel) rfl rfl (Nat.le_of_ble_eq_true rfl) dX6_number_64 (fun H locs hP hD hS => ?_)
            have hP : va_P D vwCl (w_X6_number cI cC h0 h_s h_aside h_past h_snapshot h_text m_pasts m_isKept m_text m_length m_hasStop m_stopAt m_stopWhy m_spot 1 m_kind m_first m_second m_third m_fourth) H := hP
            have hD : va_D A (w_X6_number cI cC h0 h_s h_aside h_past h_snapshot h_text m_pasts m_isKept m_text m_length m_hasStop m_stopAt m_stopWhy m_spot 1 m_kind m_first m_second m_third m_fourth) := hD
            exact hJ67   x3 m_spot 1 _ _ hP hD hS _ (lv_sub hl [0, 2, 3] rfl) h
  dsimp only [d_X6_number] at h
  refine lv_aload_n hx hb dX6_number_0 rfl (lv_at hl 0 rfl) ?_
  refine va_get (ci := 6) (C := RX6) (T := TX6) (N := 18) hx hb hts hiX6 hown hK hP 0 rfl rfl 11 (by decide) (hts (.fieldLink RX6 111 "RiddleTradeModel" "spot" "I") (List.mem_of_getElem? (i := 1) rfl)) (fun _ h9 => h9) rfl dX6_number_1 ?_
  refine lv_aload_n hx hb dX6_number_4 rfl (lv_at hl 0 rfl) ?_
  refine va_get (ci := 6) (C := RX6) (T := TX6) (N := 18) hx hb hts hiX6 hown hK hP 0 rfl rfl 7 (by decide) (hts (.fieldLink RX6 108 "RiddleTradeModel" "length" "I") (List.mem_of_getElem? (i := 2) rfl)) (fun _ h9 => h9) rfl dX6_number_5 ?_
  refine lv_icmp_ge (tgt := 21) hx hb dX6_number_8 (by decide) (fun c1 => ?_) (fun c1 => ?_)
  · have h := (k_iB h).1 c1
    refine lv_iconst (v := (-1)) hx hb dX6_number_21 (by decide) ?_
    refine lv_istore_n (lv' := [(3, .int (-1)), (0, .ref h0), (1, .int p1), (2, .int p2)]) hx hb dX6_number_22 rfl hl (by decide) rfl (fun ls hl => ?_)
    exact hJ23   (-1) m_spot m_isWrong _ _ hP hD hS _ (lv_sub hl [1, 2, 3, 0] rfl) h
  · have h := (k_iB h).2 c1
    refine lv_aload_n hx hb dX6_number_11 rfl (lv_at hl 0 rfl) ?_
    obtain ⟨r23, hu24, h⟩ := ob1_el h
    refine kcVi (ci := 6) (q := (RX6, TX6, 18)) (ws1 := (w_X6_number cI cC h0 h_s h_aside h_past h_snapshot h_text m_pasts m_isKept m_text m_length m_hasStop m_stopAt m_stopWhy m_spot m_isWrong m_kind m_first m_second m_third m_fourth)) ⟨hx, hb, hml, hown, hts⟩ [0, 1] [] (c_X6_next l D cI cC cE h0 h_s h_aside h_past h_snapshot h_text _ m_pasts m_isKept m_text m_length m_hasStop m_stopAt m_stopWhy m_spot m_isWrong m_kind m_first m_second m_third m_fourth r23 hu24) (cwV 0 hts gX6_number_X6_next rfl rfl rfl (by decide +kernel) ⟨Nat.le_of_ble_eq_true rfl, Nat.le_of_ble_eq_true rfl⟩) hK hP hD hS hA rfl rfl rfl rfl rfl rfl rfl rfl rfl hl.1 rfl (Nat.le_of_ble_eq_true rfl) dX6_number_12 ⟨Nat.le_refl 0, Nat.le_refl 0⟩ (fun H locs hP hD hS => ?_)
    refine lv_bipush (v := 48) hx hb dX6_number_15 (by decide) ?_
    refine lv_isub hx hb dX6_number_17 ?_
    refine lv_goto (tgt := 22) hx hb dX6_number_18 (by decide) ?_
    refine lv_istore_n (lv' := [(3, .int (r23 - 48)), (0, .ref h0), (1, .int p1), (2, .int p2)]) hx hb dX6_number_22 rfl hl (by decide) rfl (fun ls hl => ?_)
    exact hJ23   (r23 - 48) m_spot m_isWrong _ _ hP hD hS _ (lv_sub hl [1, 2, 3, 0] rfl) h
abbrev w_X6_thing (cI cC : ClassId) (h0 h_s h_aside h_past h_snapshot h_text : Nat) (m_pasts : Int32) (m_isKept : Int32) (m_text : Nat → Int32) (m_length : Int32) (m_hasStop : Int32) (m_stopAt : Int32) (m_stopWhy : Int32) (m_spot : Int32) (m_isWrong : Int32) (m_kind : Int32) (m_first : Int32) (m_second : Int32) (m_third : Int32) (m_fourth : Int32) : va_W := [(h0, .inr (6, [.ref h_s, .ref h_aside, .ref h_past, .int m_pasts, .ref h_snapshot, .int m_isKept, .ref h_text, .int m_length, .int m_hasStop, .int m_stopAt, .int m_stopWhy, .int m_spot, .int m_isWrong, .int m_kind, .int m_first, .int m_second, .int m_third, .int m_fourth])), (h_text, .inl (cC, 60, .inl m_text))]
def j_X6_thing_162 (m_text : Nat → Int32) (m_length : Int32) (m_spot : Int32) (m_isWrong : Int32) (m_kind : Int32) (m_first : Int32) (m_second : Int32) (m_third : Int32) (m_fourth : Int32) : Option (Int32 × Int32 × Int32 × Int32 × Int32 × Int32 × Int32) :=
    ob2 (d_X6_sign 61 m_text m_length m_spot m_isWrong) fun m_spot_19 m_isWrong_20 =>
    ob3 (d_X6_number 0 99 m_text m_length m_spot_19 m_isWrong_20) fun r22 m_spot_23 m_isWrong_24 =>
    if m_kind = 97 then (ob2 (d_X6_sign 42 m_text m_length m_spot_23 m_isWrong_24) fun m_spot_27 m_isWrong_28 =>
    ob3 (d_X6_number 1 99 m_text m_length m_spot_27 m_isWrong_28) fun r30 m_spot_31 m_isWrong_32 =>
    some (m_spot_31, m_isWrong_32, m_kind, m_first, m_second, r22, r30))
    else (some (m_spot_23, m_isWrong_24, m_kind, m_first, m_second, r22, m_fourth))
def j_X6_thing_94 (m_text : Nat → Int32) (m_length : Int32) (m_spot : Int32) (m_isWrong : Int32) (m_kind : Int32) (m_first : Int32) (m_second : Int32) (m_third : Int32) (m_fourth : Int32) : Option (Int32 × Int32 × Int32 × Int32 × Int32 × Int32 × Int32) :=
    if m_kind = 46 then (ob3 (d_X6_number 1 99 m_text m_length m_spot m_isWrong) fun r38 m_spot_39 m_isWrong_40 =>
    some (m_spot_39, m_isWrong_40, m_kind, r38, m_second, m_third, m_fourth))
    else (ob3 (d_X6_number 0 7 m_text m_length m_spot m_isWrong) fun r7 m_spot_8 m_isWrong_9 =>
    ob2 (d_X6_sign 58 m_text m_length m_spot_8 m_isWrong_9) fun m_spot_11 m_isWrong_12 =>
    if m_kind = 114 then (ob3 (d_X6_number 1 50 m_text m_length m_spot_11 m_isWrong_12) fun r34 m_spot_35 m_isWrong_36 =>
    j_X6_thing_162  m_text m_length m_spot_35 m_isWrong_36 m_kind r7 r34 m_third m_fourth)
    else (ob3 (d_X6_number 0 19 m_text m_length m_spot_11 m_isWrong_12) fun r15 m_spot_16 m_isWrong_17 =>
    j_X6_thing_162  m_text m_length m_spot_16 m_isWrong_17 m_kind r7 r15 m_third m_fourth))
def j_X6_thing_73 (m_text : Nat → Int32) (m_length : Int32) (m_spot : Int32) (m_isWrong : Int32) (m_kind : Int32) (m_first : Int32) (m_second : Int32) (m_third : Int32) (m_fourth : Int32) : Option (Int32 × Int32 × Int32 × Int32 × Int32 × Int32 × Int32) :=
    if m_isWrong = 0 then (j_X6_thing_94  m_text m_length (m_spot + 1) m_isWrong m_kind m_first m_second m_third m_fourth)
    else (j_X6_thing_94  m_text m_length (m_spot + 0) m_isWrong m_kind m_first m_second m_third m_fourth)
def j_X6_thing_19 (m_text : Nat → Int32) (m_length : Int32) (m_spot : Int32) (m_isWrong : Int32) (m_kind : Int32) (m_first : Int32) (m_second : Int32) (m_third : Int32) (m_fourth : Int32) : Option (Int32 × Int32 × Int32 × Int32 × Int32 × Int32 × Int32) :=
    if m_isWrong = 0 then (if m_spot = m_length then (j_X6_thing_73  m_text m_length m_spot 1 m_kind m_first m_second m_third m_fourth)
    else (if m_kind = 114 then (j_X6_thing_73  m_text m_length m_spot 0 m_kind m_first m_second m_third m_fourth)
    else (if m_kind = 97 then (j_X6_thing_73  m_text m_length m_spot 0 m_kind m_first m_second m_third m_fourth)
    else (if m_kind = 46 then (j_X6_thing_73  m_text m_length m_spot 0 m_kind m_first m_second m_third m_fourth)
    else (j_X6_thing_73  m_text m_length m_spot 1 m_kind m_first m_second m_third m_fourth)))))
    else (j_X6_thing_73  m_text m_length m_spot 1 m_kind m_first m_second m_third m_fourth)
def d_X6_thing (m_text : Nat → Int32) (m_length : Int32) (m_spot : Int32) (m_isWrong : Int32) (m_kind : Int32) (m_first : Int32) (m_second : Int32) (m_third : Int32) (m_fourth : Int32) : Option (Int32 × Int32 × Int32 × Int32 × Int32 × Int32 × Int32) :=
    if m_isWrong = 0 then (ob1 (d_X6_next m_text m_length m_spot) fun r2 =>
    j_X6_thing_19  m_text m_length m_spot m_isWrong r2 m_first m_second m_third m_fourth)
    else (j_X6_thing_19  m_text m_length m_spot m_isWrong 0 m_first m_second m_third m_fourth)
set_option maxHeartbeats 4000000 in
set_option maxRecDepth 100000 in
theorem c_X6_thing (l : Launch) (D : va_G) (cI cC cE : ClassId) (h0 h_s h_aside h_past h_snapshot h_text : Nat) (sz : Nat) (m_pasts : Int32) (m_isKept : Int32) (m_text : Nat → Int32) (m_length : Int32) (m_hasStop : Int32) (m_stopAt : Int32) (m_stopWhy : Int32) (m_spot : Int32) (m_isWrong : Int32) (m_kind : Int32) (m_first : Int32) (m_second : Int32) (m_third : Int32) (m_fourth : Int32) (o_m_spot : Int32) (o_m_isWrong : Int32) (o_m_kind : Int32) (o_m_first : Int32) (o_m_second : Int32) (o_m_third : Int32) (o_m_fourth : Int32) (h : d_X6_thing m_text m_length m_spot m_isWrong m_kind m_first m_second m_third m_fourth = some (o_m_spot, o_m_isWrong, o_m_kind, o_m_first, o_m_second, o_m_third, o_m_fourth)) : Met l yX6_thing wsX6_thing ({ frames := 2, cells := 0, slots := 0, locals := 46 } : Room) (kP D (kT cI cC cE) [.ref h0] (w_X6_thing cI cC h0 h_s h_aside h_past h_snapshot h_text m_pasts m_isKept m_text m_length m_hasStop m_stopAt m_stopWhy m_spot m_isWrong m_kind m_first m_second m_third m_fourth) sz) (kQv D (kT cI cC cE) (w_X6_thing cI cC h0 h_s h_aside h_past h_snapshot h_text m_pasts m_isKept m_text m_length m_hasStop m_stopAt m_stopWhy m_spot m_isWrong m_kind m_first m_second m_third m_fourth) (w_X6_thing cI cC h0 h_s h_aside h_past h_snapshot h_text m_pasts m_isKept m_text m_length m_hasStop m_stopAt m_stopWhy o_m_spot o_m_isWrong o_m_kind o_m_first o_m_second o_m_third o_m_fourth) sz) 0 0 (va_A (w_X6_thing cI cC h0 h_s h_aside h_past h_snapshot h_text m_pasts m_isKept m_text m_length m_hasStop m_stopAt m_stopWhy m_spot m_isWrong m_kind m_first m_second m_third m_fourth) sz) := by
  refine kMetV (cc := cX6_thing) (maxL := 1) (own := RX6) (by decide) rfl (Nat.le_of_ble_eq_true rfl) rfl ?_
  intro p e s m below meth c A Q hx hb hml hown hts hP hK hD hA hS hname fin ls hl
  have hl : lv_has ls 1 [(0, .ref h0)] := hl
  have hiX6 : ∀ w ∈ u_ws RX6 TX6 18, w ∈ wsX6_thing := by decide +kernel
  have hJ162 : ∀ (m_spot : Int32) (m_isWrong : Int32) (m_kind : Int32) (m_first : Int32) (m_second : Int32) (m_third : Int32) (m_fourth : Int32) (H : Heap) (locs : List Loc), va_P D vwCl (w_X6_thing cI cC h0 h_s h_aside h_past h_snapshot h_text m_pasts m_isKept m_text m_length m_hasStop m_stopAt m_stopWhy m_spot m_isWrong m_kind m_first m_second m_third m_fourth) H → va_D A (w_X6_thing cI cC h0 h_s h_aside h_past h_snapshot h_text m_pasts m_isKept m_text m_length m_hasStop m_stopAt m_stopWhy m_spot m_isWrong m_kind m_first m_second m_third m_fourth) → va_S A s.heap H locs → ∀ (ls : Array Slot), lv_has ls 1 [(0, .ref h0)] → j_X6_thing_162  m_text m_length m_spot m_isWrong m_kind m_first m_second m_third m_fourth = some (o_m_spot, o_m_isWrong, o_m_kind, o_m_first, o_m_second, o_m_third, o_m_fourth) → W p l e ({ frames := 2, cells := 0, slots := 0, locals := 46 } : Room) s m [.ref h0].toArray below meth c H locs 0 0 Q (F0 m 162 ls []) := by
    intro m_spot m_isWrong m_kind m_first m_second m_third m_fourth H locs hP hD hS ls hl h
    dsimp only [j_X6_thing_162] at h
    refine lv_aload_n hx hb dX6_thing_162 rfl (lv_at hl 0 rfl) ?_
    refine lv_bipush (v := 61) hx hb dX6_thing_163 (by decide) ?_
    obtain ⟨m_spot_19, m_isWrong_20, hu21, h⟩ := ob2_el h
    refine kcVv (ci := 6) (q := (RX6, TX6, 18)) (ws1 := (w_X6_thing cI cC h0 h_s h_aside h_past h_snapshot h_text m_pasts m_isKept m_text m_length m_hasStop m_stopAt m_stopWhy m_spot_19 m_isWrong_20 m_kind m_first m_second m_third m_fourth)) ⟨hx, hb, hml, hown, hts⟩ [0, 1] [] (c_X6_sign l D cI cC cE h0 h_s h_aside h_past h_snapshot h_text _ m_pasts m_isKept m_text m_length m_hasStop m_stopAt m_stopWhy m_spot m_isWrong m_kind m_first m_second m_third m_fourth 61 m_spot_19 m_isWrong_20 hu21) (cwV 1 hts gX6_thing_X6_sign rfl rfl rfl (by decide +kernel) ⟨Nat.le_of_ble_eq_true rfl, Nat.le_of_ble_eq_true rfl⟩) hK hP hD hS hA rfl rfl rfl rfl rfl rfl rfl rfl rfl hl.1 rfl (Nat.le_of_ble_eq_true rfl) dX6_thing_165 ⟨Nat.le_refl 0, Nat.le_refl 0⟩ (fun H locs hP hD hS => ?_)
    refine lv_aload_n hx hb dX6_thing_168 rfl (lv_at hl 0 rfl) ?_
    refine lv_aload_n hx hb dX6_thing_169 rfl (lv_at hl 0 rfl) ?_
    refine lv_iconst (v := 0) hx hb dX6_thing_170 (by decide) ?_
    refine lv_bipush (v := 99) hx hb dX6_thing_171 (by decide) ?_
    obtain ⟨r22, m_spot_23, m_isWrong_24, hu25, h⟩ := ob3_el h
    refine kcVi (ci := 6) (q := (RX6, TX6, 18)) (ws1 := (w_X6_thing cI cC h0 h_s h_aside h_past h_snapshot h_text m_pasts m_isKept m_text m_length m_hasStop m_stopAt m_stopWhy m_spot_23 m_isWrong_24 m_kind m_first m_second m_third m_fourth)) ⟨hx, hb, hml, hown, hts⟩ [0, 1] [] (c_X6_number l D cI cC cE h0 h_s h_aside h_past h_snapshot h_text _ m_pasts m_isKept m_text m_length m_hasStop m_stopAt m_stopWhy m_spot_19 m_isWrong_20 m_kind m_first m_second m_third m_fourth 0 99 r22 m_spot_23 m_isWrong_24 hu25) (cwV 2 hts gX6_thing_X6_number rfl rfl rfl (by decide +kernel) ⟨Nat.le_of_ble_eq_true rfl, Nat.le_of_ble_eq_true rfl⟩) hK hP hD hS hA rfl rfl rfl rfl rfl rfl rfl rfl rfl hl.1 rfl (Nat.le_of_ble_eq_true rfl) dX6_thing_173 ⟨Nat.le_refl 0, Nat.le_refl 0⟩ (fun H locs hP hD hS => ?_)
    refine va_put (ci := 6) (ty := .int) (C := RX6) (T := TX6) (N := 18) hx hb hts hiX6 tyX6 tyX6_ok nmX6 hown hK hP hD hS 0 rfl rfl 16 (by decide) (hts (.fieldLink RX6 137 "RiddleTradeModel" "third" "I") (List.mem_of_getElem? (i := 7) rfl)) (fun _ h9 => h9) rfl (by decide +kernel) rfl rfl (Nat.le_of_ble_eq_true rfl) dX6_thing_176 (fun H locs hP hD hS => ?_)
    have hP : va_P D vwCl (w_X6_thing cI cC h0 h_s h_aside h_past h_snapshot h_text m_pasts m_isKept m_text m_length m_hasStop m_stopAt m_stopWhy m_spot_23 m_isWrong_24 m_kind m_first m_second r22 m_fourth) H := hP
    have hD : va_D A (w_X6_thing cI cC h0 h_s h_aside h_past h_snapshot h_text m_pasts m_isKept m_text m_length m_hasStop m_stopAt m_stopWhy m_spot_23 m_isWrong_24 m_kind m_first m_second r22 m_fourth) := hD
    refine lv_aload_n hx hb dX6_thing_179 rfl (lv_at hl 0 rfl) ?_
    refine va_get (ci := 6) (C := RX6) (T := TX6) (N := 18) hx hb hts hiX6 hown hK hP 0 rfl rfl 13 (by decide) (hts (.fieldLink RX6 122 "RiddleTradeModel" "kind" "I") (List.mem_of_getElem? (i := 2) rfl)) (fun _ h9 => h9) rfl dX6_thing_180 ?_
    refine lv_bipush (v := 97) hx hb dX6_thing_183 (by decide) ?_
    refine lv_icmp_ne (tgt := 205) hx hb dX6_thing_185 (by decide) (fun c26 => ?_) (fun c26 => ?_)
    · have h := (k_iB h).2 c26
      obtain ⟨rfl, rfl, rfl, rfl, rfl, rfl, rfl⟩ := inj7 (Option.some.inj h)
      exact fin _ _ _ _ dX6_thing_205 hP hD hS
    · have h := (k_iB h).1 c26
      refine lv_aload_n hx hb dX6_thing_188 rfl (lv_at hl 0 rfl) ?_
      refine lv_bipush (v := 42) hx hb dX6_thing_189 (by decide) ?_
      obtain ⟨m_spot_27, m_isWrong_28, hu29, h⟩ := ob2_el h
      refine kcVv (ci := 6) (q := (RX6, TX6, 18)) (ws1 := (w_X6_thing cI cC h0 h_s h_aside h_past h_snapshot h_text m_pasts m_isKept m_text m_length m_hasStop m_stopAt m_stopWhy m_spot_27 m_isWrong_28 m_kind m_first m_second r22 m_fourth)) ⟨hx, hb, hml, hown, hts⟩ [0, 1] [] (c_X6_sign l D cI cC cE h0 h_s h_aside h_past h_snapshot h_text _ m_pasts m_isKept m_text m_length m_hasStop m_stopAt m_stopWhy m_spot_23 m_isWrong_24 m_kind m_first m_second r22 m_fourth 42 m_spot_27 m_isWrong_28 hu29) (cwV 1 hts gX6_thing_X6_sign rfl rfl rfl (by decide +kernel) ⟨Nat.le_of_ble_eq_true rfl, Nat.le_of_ble_eq_true rfl⟩) hK hP hD hS hA rfl rfl rfl rfl rfl rfl rfl rfl rfl hl.1 rfl (Nat.le_of_ble_eq_true rfl) dX6_thing_191 ⟨Nat.le_refl 0, Nat.le_refl 0⟩ (fun H locs hP hD hS => ?_)
      refine lv_aload_n hx hb dX6_thing_194 rfl (lv_at hl 0 rfl) ?_
      refine lv_aload_n hx hb dX6_thing_195 rfl (lv_at hl 0 rfl) ?_
      refine lv_iconst (v := 1) hx hb dX6_thing_196 (by decide) ?_
      refine lv_bipush (v := 99) hx hb dX6_thing_197 (by decide) ?_
      obtain ⟨r30, m_spot_31, m_isWrong_32, hu33, h⟩ := ob3_el h
      refine kcVi (ci := 6) (q := (RX6, TX6, 18)) (ws1 := (w_X6_thing cI cC h0 h_s h_aside h_past h_snapshot h_text m_pasts m_isKept m_text m_length m_hasStop m_stopAt m_stopWhy m_spot_31 m_isWrong_32 m_kind m_first m_second r22 m_fourth)) ⟨hx, hb, hml, hown, hts⟩ [0, 1] [] (c_X6_number l D cI cC cE h0 h_s h_aside h_past h_snapshot h_text _ m_pasts m_isKept m_text m_length m_hasStop m_stopAt m_stopWhy m_spot_27 m_isWrong_28 m_kind m_first m_second r22 m_fourth 1 99 r30 m_spot_31 m_isWrong_32 hu33) (cwV 2 hts gX6_thing_X6_number rfl rfl rfl (by decide +kernel) ⟨Nat.le_of_ble_eq_true rfl, Nat.le_of_ble_eq_true rfl⟩) hK hP hD hS hA rfl rfl rfl rfl rfl rfl rfl rfl rfl hl.1 rfl (Nat.le_of_ble_eq_true rfl) dX6_thing_199 ⟨Nat.le_refl 0, Nat.le_refl 0⟩ (fun H locs hP hD hS => ?_)
      refine va_put (ci := 6) (ty := .int) (C := RX6) (T := TX6) (N := 18) hx hb hts hiX6 tyX6 tyX6_ok nmX6 hown hK hP hD hS 0 rfl rfl 17 (by decide) (hts (.fieldLink RX6 140 "RiddleTradeModel" "fourth" "I") (List.mem_of_getElem? (i := 8) rfl)) (fun _ h9 => h9) rfl (by decide +kernel) rfl rfl (Nat.le_of_ble_eq_true rfl) dX6_thing_202 (fun H locs hP hD hS => ?_)
      have hP : va_P D vwCl (w_X6_thing cI cC h0 h_s h_aside h_past h_snapshot h_text m_pasts m_isKept m_text m_length m_hasStop m_stopAt m_stopWhy m_spot_31 m_isWrong_32 m_kind m_first m_second r22 r30) H := hP
      have hD : va_D A (w_X6_thing cI cC h0 h_s h_aside h_past h_snapshot h_text m_pasts m_isKept m_text m_length m_hasStop m_stopAt m_stopWhy m_spot_31 m_isWrong_32 m_kind m_first m_second r22 r30) := hD
      obtain ⟨rfl, rfl, rfl, rfl, rfl, rfl, rfl⟩ := inj7 (Option.some.inj h)
      exact fin _ _ _ _ dX6_thing_205 hP hD hS
  have hJ94 : ∀ (m_spot : Int32) (m_isWrong : Int32) (m_kind : Int32) (m_first : Int32) (m_second : Int32) (m_third : Int32) (m_fourth : Int32) (H : Heap) (locs : List Loc), va_P D vwCl (w_X6_thing cI cC h0 h_s h_aside h_past h_snapshot h_text m_pasts m_isKept m_text m_length m_hasStop m_stopAt m_stopWhy m_spot m_isWrong m_kind m_first m_second m_third m_fourth) H → va_D A (w_X6_thing cI cC h0 h_s h_aside h_past h_snapshot h_text m_pasts m_isKept m_text m_length m_hasStop m_stopAt m_stopWhy m_spot m_isWrong m_kind m_first m_second m_third m_fourth) → va_S A s.heap H locs → ∀ (ls : Array Slot), lv_has ls 1 [(0, .ref h0)] → j_X6_thing_94  m_text m_length m_spot m_isWrong m_kind m_first m_second m_third m_fourth = some (o_m_spot, o_m_isWrong, o_m_kind, o_m_first, o_m_second, o_m_third, o_m_fourth) → W p l e ({ frames := 2, cells := 0, slots := 0, locals := 46 } : Room) s m [.ref h0].toArray below meth c H locs 0 0 Q (F0 m 94 ls []) := by
    intro m_spot m_isWrong m_kind m_first m_second m_third m_fourth H locs hP hD hS ls hl h
    dsimp only [j_X6_thing_94] at h
    refine lv_aload_n hx hb dX6_thing_94 rfl (lv_at hl 0 rfl) ?_
    refine va_get (ci := 6) (C := RX6) (T := TX6) (N := 18) hx hb hts hiX6 hown hK hP 0 rfl rfl 13 (by decide) (hts (.fieldLink RX6 122 "RiddleTradeModel" "kind" "I") (List.mem_of_getElem? (i := 2) rfl)) (fun _ h9 => h9) rfl dX6_thing_95 ?_
    refine lv_bipush (v := 46) hx hb dX6_thing_98 (by decide) ?_
    refine lv_icmp_ne (tgt := 115) hx hb dX6_thing_100 (by decide) (fun c6 => ?_) (fun c6 => ?_)
    · have h := (k_iB h).2 c6
      refine lv_aload_n hx hb dX6_thing_115 rfl (lv_at hl 0 rfl) ?_
      refine lv_aload_n hx hb dX6_thing_116 rfl (lv_at hl 0 rfl) ?_
      refine lv_iconst (v := 0) hx hb dX6_thing_117 (by decide) ?_
      refine lv_bipush (v := 7) hx hb dX6_thing_118 (by decide) ?_
      obtain ⟨r7, m_spot_8, m_isWrong_9, hu10, h⟩ := ob3_el h
      refine kcVi (ci := 6) (q := (RX6, TX6, 18)) (ws1 := (w_X6_thing cI cC h0 h_s h_aside h_past h_snapshot h_text m_pasts m_isKept m_text m_length m_hasStop m_stopAt m_stopWhy m_spot_8 m_isWrong_9 m_kind m_first m_second m_third m_fourth)) ⟨hx, hb, hml, hown, hts⟩ [0, 1] [] (c_X6_number l D cI cC cE h0 h_s h_aside h_past h_snapshot h_text _ m_pasts m_isKept m_text m_length m_hasStop m_stopAt m_stopWhy m_spot m_isWrong m_kind m_first m_second m_third m_fourth 0 7 r7 m_spot_8 m_isWrong_9 hu10) (cwV 2 hts gX6_thing_X6_number rfl rfl rfl (by decide +kernel) ⟨Nat.le_of_ble_eq_true rfl, Nat.le_of_ble_eq_true rfl⟩) hK hP hD hS hA rfl rfl rfl rfl rfl rfl rfl rfl rfl hl.1 rfl (Nat.le_of_ble_eq_true rfl) dX6_thing_120 ⟨Nat.le_refl 0, Nat.le_refl 0⟩ (fun H locs hP hD hS => ?_)
      refine va_put (ci := 6) (ty := .int) (C := RX6) (T := TX6) (N := 18) hx hb hts hiX6 tyX6 tyX6_ok nmX6 hown hK hP hD hS 0 rfl rfl 14 (by decide) (hts (.fieldLink RX6 128 "RiddleTradeModel" "first" "I") (List.mem_of_getElem? (i := 5) rfl)) (fun _ h9 => h9) rfl (by decide +kernel) rfl rfl (Nat.le_of_ble_eq_true rfl) dX6_thing_123 (fun H locs hP hD hS => ?_)
      have hP : va_P D vwCl (w_X6_thing cI cC h0 h_s h_aside h_past h_snapshot h_text m_pasts m_isKept m_text m_length m_hasStop m_stopAt m_stopWhy m_spot_8 m_isWrong_9 m_kind r7 m_second m_third m_fourth) H := hP
      have hD : va_D A (w_X6_thing cI cC h0 h_s h_aside h_past h_snapshot h_text m_pasts m_isKept m_text m_length m_hasStop m_stopAt m_stopWhy m_spot_8 m_isWrong_9 m_kind r7 m_second m_third m_fourth) := hD
      refine lv_aload_n hx hb dX6_thing_126 rfl (lv_at hl 0 rfl) ?_
      refine lv_bipush (v := 58) hx hb dX6_thing_127 (by decide) ?_
      obtain ⟨m_spot_11, m_isWrong_12, hu13, h⟩ := ob2_el h
      refine kcVv (ci := 6) (q := (RX6, TX6, 18)) (ws1 := (w_X6_thing cI cC h0 h_s h_aside h_past h_snapshot h_text m_pasts m_isKept m_text m_length m_hasStop m_stopAt m_stopWhy m_spot_11 m_isWrong_12 m_kind r7 m_second m_third m_fourth)) ⟨hx, hb, hml, hown, hts⟩ [0, 1] [] (c_X6_sign l D cI cC cE h0 h_s h_aside h_past h_snapshot h_text _ m_pasts m_isKept m_text m_length m_hasStop m_stopAt m_stopWhy m_spot_8 m_isWrong_9 m_kind r7 m_second m_third m_fourth 58 m_spot_11 m_isWrong_12 hu13) (cwV 1 hts gX6_thing_X6_sign rfl rfl rfl (by decide +kernel) ⟨Nat.le_of_ble_eq_true rfl, Nat.le_of_ble_eq_true rfl⟩) hK hP hD hS hA rfl rfl rfl rfl rfl rfl rfl rfl rfl hl.1 rfl (Nat.le_of_ble_eq_true rfl) dX6_thing_129 ⟨Nat.le_refl 0, Nat.le_refl 0⟩ (fun H locs hP hD hS => ?_)
      refine lv_aload_n hx hb dX6_thing_132 rfl (lv_at hl 0 rfl) ?_
      refine lv_aload_n hx hb dX6_thing_133 rfl (lv_at hl 0 rfl) ?_
      refine va_get (ci := 6) (C := RX6) (T := TX6) (N := 18) hx hb hts hiX6 hown hK hP 0 rfl rfl 13 (by decide) (hts (.fieldLink RX6 122 "RiddleTradeModel" "kind" "I") (List.mem_of_getElem? (i := 2) rfl)) (fun _ h9 => h9) rfl dX6_thing_134 ?_
      refine lv_bipush (v := 114) hx hb dX6_thing_137 (by decide) ?_
      refine lv_icmp_ne (tgt := 152) hx hb dX6_thing_139 (by decide) (fun c14 => ?_) (fun c14 => ?_)
      · have h := (k_iB h).2 c14
        refine lv_aload_n hx hb dX6_thing_152 rfl (lv_at hl 0 rfl) ?_
        refine lv_iconst (v := 0) hx hb dX6_thing_153 (by decide) ?_
        refine lv_bipush (v := 19) hx hb dX6_thing_154 (by decide) ?_
        obtain ⟨r15, m_spot_16, m_isWrong_17, hu18, h⟩ := ob3_el h
        refine kcVi (ci := 6) (q := (RX6, TX6, 18)) (ws1 := (w_X6_thing cI cC h0 h_s h_aside h_past h_snapshot h_text m_pasts m_isKept m_text m_length m_hasStop m_stopAt m_stopWhy m_spot_16 m_isWrong_17 m_kind r7 m_second m_third m_fourth)) ⟨hx, hb, hml, hown, hts⟩ [0, 1] [] (c_X6_number l D cI cC cE h0 h_s h_aside h_past h_snapshot h_text _ m_pasts m_isKept m_text m_length m_hasStop m_stopAt m_stopWhy m_spot_11 m_isWrong_12 m_kind r7 m_second m_third m_fourth 0 19 r15 m_spot_16 m_isWrong_17 hu18) (cwV 2 hts gX6_thing_X6_number rfl rfl rfl (by decide +kernel) ⟨Nat.le_of_ble_eq_true rfl, Nat.le_of_ble_eq_true rfl⟩) hK hP hD hS hA rfl rfl rfl rfl rfl rfl rfl rfl rfl hl.1 rfl (Nat.le_of_ble_eq_true rfl) dX6_thing_156 ⟨Nat.le_refl 0, Nat.le_refl 0⟩ (fun H locs hP hD hS => ?_)
        refine va_put (ci := 6) (ty := .int) (C := RX6) (T := TX6) (N := 18) hx hb hts hiX6 tyX6 tyX6_ok nmX6 hown hK hP hD hS 0 rfl rfl 15 (by decide) (hts (.fieldLink RX6 134 "RiddleTradeModel" "second" "I") (List.mem_of_getElem? (i := 6) rfl)) (fun _ h9 => h9) rfl (by decide +kernel) rfl rfl (Nat.le_of_ble_eq_true rfl) dX6_thing_159 (fun H locs hP hD hS => ?_)
        have hP : va_P D vwCl (w_X6_thing cI cC h0 h_s h_aside h_past h_snapshot h_text m_pasts m_isKept m_text m_length m_hasStop m_stopAt m_stopWhy m_spot_16 m_isWrong_17 m_kind r7 r15 m_third m_fourth) H := hP
        have hD : va_D A (w_X6_thing cI cC h0 h_s h_aside h_past h_snapshot h_text m_pasts m_isKept m_text m_length m_hasStop m_stopAt m_stopWhy m_spot_16 m_isWrong_17 m_kind r7 r15 m_third m_fourth) := hD
        exact hJ162   m_spot_16 m_isWrong_17 m_kind r7 r15 m_third m_fourth _ _ hP hD hS _ (lv_sub hl [0] rfl) h
      · have h := (k_iB h).1 c14
        refine lv_aload_n hx hb dX6_thing_142 rfl (lv_at hl 0 rfl) ?_
        refine lv_iconst (v := 1) hx hb dX6_thing_143 (by decide) ?_
        refine lv_bipush (v := 50) hx hb dX6_thing_144 (by decide) ?_
        obtain ⟨r34, m_spot_35, m_isWrong_36, hu37, h⟩ := ob3_el h
        refine kcVi (ci := 6) (q := (RX6, TX6, 18)) (ws1 := (w_X6_thing cI cC h0 h_s h_aside h_past h_snapshot h_text m_pasts m_isKept m_text m_length m_hasStop m_stopAt m_stopWhy m_spot_35 m_isWrong_36 m_kind r7 m_second m_third m_fourth)) ⟨hx, hb, hml, hown, hts⟩ [0, 1] [] (c_X6_number l D cI cC cE h0 h_s h_aside h_past h_snapshot h_text _ m_pasts m_isKept m_text m_length m_hasStop m_stopAt m_stopWhy m_spot_11 m_isWrong_12 m_kind r7 m_second m_third m_fourth 1 50 r34 m_spot_35 m_isWrong_36 hu37) (cwV 2 hts gX6_thing_X6_number rfl rfl rfl (by decide +kernel) ⟨Nat.le_of_ble_eq_true rfl, Nat.le_of_ble_eq_true rfl⟩) hK hP hD hS hA rfl rfl rfl rfl rfl rfl rfl rfl rfl hl.1 rfl (Nat.le_of_ble_eq_true rfl) dX6_thing_146 ⟨Nat.le_refl 0, Nat.le_refl 0⟩ (fun H locs hP hD hS => ?_)
        refine lv_goto (tgt := 159) hx hb dX6_thing_149 (by decide) ?_
        refine va_put (ci := 6) (ty := .int) (C := RX6) (T := TX6) (N := 18) hx hb hts hiX6 tyX6 tyX6_ok nmX6 hown hK hP hD hS 0 rfl rfl 15 (by decide) (hts (.fieldLink RX6 134 "RiddleTradeModel" "second" "I") (List.mem_of_getElem? (i := 6) rfl)) (fun _ h9 => h9) rfl (by decide +kernel) rfl rfl (Nat.le_of_ble_eq_true rfl) dX6_thing_159 (fun H locs hP hD hS => ?_)
        have hP : va_P D vwCl (w_X6_thing cI cC h0 h_s h_aside h_past h_snapshot h_text m_pasts m_isKept m_text m_length m_hasStop m_stopAt m_stopWhy m_spot_35 m_isWrong_36 m_kind r7 r34 m_third m_fourth) H := hP
        have hD : va_D A (w_X6_thing cI cC h0 h_s h_aside h_past h_snapshot h_text m_pasts m_isKept m_text m_length m_hasStop m_stopAt m_stopWhy m_spot_35 m_isWrong_36 m_kind r7 r34 m_third m_fourth) := hD
        exact hJ162   m_spot_35 m_isWrong_36 m_kind r7 r34 m_third m_fourth _ _ hP hD hS _ (lv_sub hl [0] rfl) h
    · have h := (k_iB h).1 c6
      refine lv_aload_n hx hb dX6_thing_103 rfl (lv_at hl 0 rfl) ?_
      refine lv_aload_n hx hb dX6_thing_104 rfl (lv_at hl 0 rfl) ?_
      refine lv_iconst (v := 1) hx hb dX6_thing_105 (by decide) ?_
      refine lv_bipush (v := 99) hx hb dX6_thing_106 (by decide) ?_
      obtain ⟨r38, m_spot_39, m_isWrong_40, hu41, h⟩ := ob3_el h
      refine kcVi (ci := 6) (q := (RX6, TX6, 18)) (ws1 := (w_X6_thing cI cC h0 h_s h_aside h_past h_snapshot h_text m_pasts m_isKept m_text m_length m_hasStop m_stopAt m_stopWhy m_spot_39 m_isWrong_40 m_kind m_first m_second m_third m_fourth)) ⟨hx, hb, hml, hown, hts⟩ [0, 1] [] (c_X6_number l D cI cC cE h0 h_s h_aside h_past h_snapshot h_text _ m_pasts m_isKept m_text m_length m_hasStop m_stopAt m_stopWhy m_spot m_isWrong m_kind m_first m_second m_third m_fourth 1 99 r38 m_spot_39 m_isWrong_40 hu41) (cwV 2 hts gX6_thing_X6_number rfl rfl rfl (by decide +kernel) ⟨Nat.le_of_ble_eq_true rfl, Nat.le_of_ble_eq_true rfl⟩) hK hP hD hS hA rfl rfl rfl rfl rfl rfl rfl rfl rfl hl.1 rfl (Nat.le_of_ble_eq_true rfl) dX6_thing_108 ⟨Nat.le_refl 0, Nat.le_refl 0⟩ (fun H locs hP hD hS => ?_)
      refine va_put (ci := 6) (ty := .int) (C := RX6) (T := TX6) (N := 18) hx hb hts hiX6 tyX6 tyX6_ok nmX6 hown hK hP hD hS 0 rfl rfl 14 (by decide) (hts (.fieldLink RX6 128 "RiddleTradeModel" "first" "I") (List.mem_of_getElem? (i := 5) rfl)) (fun _ h9 => h9) rfl (by decide +kernel) rfl rfl (Nat.le_of_ble_eq_true rfl) dX6_thing_111 (fun H locs hP hD hS => ?_)
      have hP : va_P D vwCl (w_X6_thing cI cC h0 h_s h_aside h_past h_snapshot h_text m_pasts m_isKept m_text m_length m_hasStop m_stopAt m_stopWhy m_spot_39 m_isWrong_40 m_kind r38 m_second m_third m_fourth) H := hP
      have hD : va_D A (w_X6_thing cI cC h0 h_s h_aside h_past h_snapshot h_text m_pasts m_isKept m_text m_length m_hasStop m_stopAt m_stopWhy m_spot_39 m_isWrong_40 m_kind r38 m_second m_third m_fourth) := hD
      obtain ⟨rfl, rfl, rfl, rfl, rfl, rfl, rfl⟩ := inj7 (Option.some.inj h)
      exact fin _ _ _ _ dX6_thing_114 hP hD hS
  have hJ73 : ∀ (m_spot : Int32) (m_isWrong : Int32) (m_kind : Int32) (m_first : Int32) (m_second : Int32) (m_third : Int32) (m_fourth : Int32) (H : Heap) (locs : List Loc), va_P D vwCl (w_X6_thing cI cC h0 h_s h_aside h_past h_snapshot h_text m_pasts m_isKept m_text m_length m_hasStop m_stopAt m_stopWhy m_spot m_isWrong m_kind m_first m_second m_third m_fourth) H → va_D A (w_X6_thing cI cC h0 h_s h_aside h_past h_snapshot h_text m_pasts m_isKept m_text m_length m_hasStop m_stopAt m_stopWhy m_spot m_isWrong m_kind m_first m_second m_third m_fourth) → va_S A s.heap H locs → ∀ (ls : Array Slot), lv_has ls 1 [(0, .ref h0)] → j_X6_thing_73  m_text m_length m_spot m_isWrong m_kind m_first m_second m_third m_fourth = some (o_m_spot, o_m_isWrong, o_m_kind, o_m_first, o_m_second, o_m_third, o_m_fourth) → W p l e ({ frames := 2, cells := 0, slots := 0, locals := 46 } : Room) s m [.ref h0].toArray below meth c H locs 0 0 Q (F0 m 73 ls []) := by
    intro m_spot m_isWrong m_kind m_first m_second m_third m_fourth H locs hP hD hS ls hl h
    dsimp only [j_X6_thing_73] at h
    refine lv_aload_n hx hb dX6_thing_73 rfl (lv_at hl 0 rfl) ?_
    refine lv_dup hx hb dX6_thing_74 rfl ?_
    refine va_get (ci := 6) (C := RX6) (T := TX6) (N := 18) hx hb hts hiX6 hown hK hP 0 rfl rfl 11 (by decide) (hts (.fieldLink RX6 111 "RiddleTradeModel" "spot" "I") (List.mem_of_getElem? (i := 3) rfl)) (fun _ h9 => h9) rfl dX6_thing_75 ?_
    refine lv_aload_n hx hb dX6_thing_78 rfl (lv_at hl 0 rfl) ?_
    refine va_get (ci := 6) (C := RX6) (T := TX6) (N := 18) hx hb hts hiX6 hown hK hP 0 rfl rfl 12 (by decide) (hts (.fieldLink RX6 114 "RiddleTradeModel" "isWrong" "Z") (List.mem_of_getElem? (i := 1) rfl)) (fun _ h9 => h9) rfl dX6_thing_79 ?_
    refine lv_if_eq (tgt := 89) hx hb dX6_thing_82 (by decide) (fun c5 => ?_) (fun c5 => ?_)
    · have h := (k_iB h).1 c5
      refine lv_iconst (v := 1) hx hb dX6_thing_89 (by decide) ?_
      refine lv_iadd hx hb dX6_thing_90 ?_
      refine va_put (ci := 6) (ty := .int) (C := RX6) (T := TX6) (N := 18) hx hb hts hiX6 tyX6 tyX6_ok nmX6 hown hK hP hD hS 0 rfl rfl 11 (by decide) (hts (.fieldLink RX6 111 "RiddleTradeModel" "spot" "I") (List.mem_of_getElem? (i := 3) rfl)) (fun _ h9 => h9) rfl (by decide +kernel) rfl rfl (Nat.le_of_ble_eq_true rfl) dX6_thing_91 (fun H locs hP hD hS => ?_)
      have hP : va_P D vwCl (w_X6_thing cI cC h0 h_s h_aside h_past h_snapshot h_text m_pasts m_isKept m_text m_length m_hasStop m_stopAt m_stopWhy (m_spot + 1) m_isWrong m_kind m_first m_second m_third m_fourth) H := hP
      have hD : va_D A (w_X6_thing cI cC h0 h_s h_aside h_past h_snapshot h_text m_pasts m_isKept m_text m_length m_hasStop m_stopAt m_stopWhy (m_spot + 1) m_isWrong m_kind m_first m_second m_third m_fourth) := hD
      exact hJ94   (m_spot + 1) m_isWrong m_kind m_first m_second m_third m_fourth _ _ hP hD hS _ (lv_sub hl [0] rfl) h
    · have h := (k_iB h).2 c5
      refine lv_iconst (v := 0) hx hb dX6_thing_85 (by decide) ?_
      refine lv_goto (tgt := 90) hx hb dX6_thing_86 (by decide) ?_
      refine lv_iadd hx hb dX6_thing_90 ?_
      refine va_put (ci := 6) (ty := .int) (C := RX6) (T := TX6) (N := 18) hx hb hts hiX6 tyX6 tyX6_ok nmX6 hown hK hP hD hS 0 rfl rfl 11 (by decide) (hts (.fieldLink RX6 111 "RiddleTradeModel" "spot" "I") (List.mem_of_getElem? (i := 3) rfl)) (fun _ h9 => h9) rfl (by decide +kernel) rfl rfl (Nat.le_of_ble_eq_true rfl) dX6_thing_91 (fun H locs hP hD hS => ?_)
      have hP : va_P D vwCl (w_X6_thing cI cC h0 h_s h_aside h_past h_snapshot h_text m_pasts m_isKept m_text m_length m_hasStop m_stopAt m_stopWhy (m_spot + 0) m_isWrong m_kind m_first m_second m_third m_fourth) H := hP
      have hD : va_D A (w_X6_thing cI cC h0 h_s h_aside h_past h_snapshot h_text m_pasts m_isKept m_text m_length m_hasStop m_stopAt m_stopWhy (m_spot + 0) m_isWrong m_kind m_first m_second m_third m_fourth) := hD
      exact hJ94   (m_spot + 0) m_isWrong m_kind m_first m_second m_third m_fourth _ _ hP hD hS _ (lv_sub hl [0] rfl) h
  have hJ19 : ∀ (m_spot : Int32) (m_isWrong : Int32) (m_kind : Int32) (m_first : Int32) (m_second : Int32) (m_third : Int32) (m_fourth : Int32) (H : Heap) (locs : List Loc), va_P D vwCl (w_X6_thing cI cC h0 h_s h_aside h_past h_snapshot h_text m_pasts m_isKept m_text m_length m_hasStop m_stopAt m_stopWhy m_spot m_isWrong m_kind m_first m_second m_third m_fourth) H → va_D A (w_X6_thing cI cC h0 h_s h_aside h_past h_snapshot h_text m_pasts m_isKept m_text m_length m_hasStop m_stopAt m_stopWhy m_spot m_isWrong m_kind m_first m_second m_third m_fourth) → va_S A s.heap H locs → ∀ (ls : Array Slot), lv_has ls 1 [(0, .ref h0)] → j_X6_thing_19  m_text m_length m_spot m_isWrong m_kind m_first m_second m_third m_fourth = some (o_m_spot, o_m_isWrong, o_m_kind, o_m_first, o_m_second, o_m_third, o_m_fourth) → W p l e ({ frames := 2, cells := 0, slots := 0, locals := 46 } : Room) s m [.ref h0].toArray below meth c H locs 0 0 Q (F0 m 19 ls []) := by
    intro m_spot m_isWrong m_kind m_first m_second m_third m_fourth H locs hP hD hS ls hl h
    dsimp only [j_X6_thing_19] at h
    refine lv_aload_n hx hb dX6_thing_19 rfl (lv_at hl 0 rfl) ?_
    refine lv_aload_n hx hb dX6_thing_20 rfl (lv_at hl 0 rfl) ?_
    refine va_get (ci := 6) (C := RX6) (T := TX6) (N := 18) hx hb hts hiX6 hown hK hP 0 rfl rfl 12 (by decide) (hts (.fieldLink RX6 114 "RiddleTradeModel" "isWrong" "Z") (List.mem_of_getElem? (i := 1) rfl)) (fun _ h9 => h9) rfl dX6_thing_21 ?_
    refine lv_if_ne (tgt := 65) hx hb dX6_thing_24 (by decide) (fun c4 => ?_) (fun c4 => ?_)
    · have h := (k_iB h).2 c4
      refine lv_iconst (v := 1) hx hb dX6_thing_65 (by decide) ?_
      refine lv_goto (tgt := 70) hx hb dX6_thing_66 (by decide) ?_
      refine va_put (ci := 6) (ty := .boolean) (C := RX6) (T := TX6) (N := 18) hx hb hts hiX6 tyX6 tyX6_ok nmX6 hown hK hP hD hS 0 rfl rfl 12 (by decide) (hts (.fieldLink RX6 114 "RiddleTradeModel" "isWrong" "Z") (List.mem_of_getElem? (i := 1) rfl)) (fun _ h9 => h9) rfl (by decide +kernel) rfl rfl (Nat.le_of_ble_eq_true rfl) dX6_thing_70 (fun H locs hP hD hS => ?_)
      have hP : va_P D vwCl (w_X6_thing cI cC h0 h_s h_aside h_past h_snapshot h_text m_pasts m_isKept m_text m_length m_hasStop m_stopAt m_stopWhy m_spot 1 m_kind m_first m_second m_third m_fourth) H := hP
      have hD : va_D A (w_X6_thing cI cC h0 h_s h_aside h_past h_snapshot h_text m_pasts m_isKept m_text m_length m_hasStop m_stopAt m_stopWhy m_spot 1 m_kind m_first m_second m_third m_fourth) := hD
      exact hJ73   m_spot 1 m_kind m_first m_second m_third m_fourth _ _ hP hD hS _ (lv_sub hl [0] rfl) h
    · have h := (k_iB h).1 c4
      refine lv_aload_n hx hb dX6_thing_27 rfl (lv_at hl 0 rfl) ?_
      refine va_get (ci := 6) (C := RX6) (T := TX6) (N := 18) hx hb hts hiX6 hown hK hP 0 rfl rfl 11 (by decide) (hts (.fieldLink RX6 111 "RiddleTradeModel" "spot" "I") (List.mem_of_getElem? (i := 3) rfl)) (fun _ h9 => h9) rfl dX6_thing_28 ?_
      refine lv_aload_n hx hb dX6_thing_31 rfl (lv_at hl 0 rfl) ?_
      refine va_get (ci := 6) (C := RX6) (T := TX6) (N := 18) hx hb hts hiX6 hown hK hP 0 rfl rfl 7 (by decide) (hts (.fieldLink RX6 108 "RiddleTradeModel" "length" "I") (List.mem_of_getElem? (i := 4) rfl)) (fun _ h9 => h9) rfl dX6_thing_32 ?_
      refine lv_icmp_eq (tgt := 65) hx hb dX6_thing_35 (by decide) (fun c42 => ?_) (fun c42 => ?_)
      · have h := (k_iB h).1 c42
        refine lv_iconst (v := 1) hx hb dX6_thing_65 (by decide) ?_
        refine lv_goto (tgt := 70) hx hb dX6_thing_66 (by decide) ?_
        refine va_put (ci := 6) (ty := .boolean) (C := RX6) (T := TX6) (N := 18) hx hb hts hiX6 tyX6 tyX6_ok nmX6 hown hK hP hD hS 0 rfl rfl 12 (by decide) (hts (.fieldLink RX6 114 "RiddleTradeModel" "isWrong" "Z") (List.mem_of_getElem? (i := 1) rfl)) (fun _ h9 => h9) rfl (by decide +kernel) rfl rfl (Nat.le_of_ble_eq_true rfl) dX6_thing_70 (fun H locs hP hD hS => ?_)
        have hP : va_P D vwCl (w_X6_thing cI cC h0 h_s h_aside h_past h_snapshot h_text m_pasts m_isKept m_text m_length m_hasStop m_stopAt m_stopWhy m_spot 1 m_kind m_first m_second m_third m_fourth) H := hP
        have hD : va_D A (w_X6_thing cI cC h0 h_s h_aside h_past h_snapshot h_text m_pasts m_isKept m_text m_length m_hasStop m_stopAt m_stopWhy m_spot 1 m_kind m_first m_second m_third m_fourth) := hD
        exact hJ73   m_spot 1 m_kind m_first m_second m_third m_fourth _ _ hP hD hS _ (lv_sub hl [0] rfl) h
      · have h := (k_iB h).2 c42
        refine lv_aload_n hx hb dX6_thing_38 rfl (lv_at hl 0 rfl) ?_
        refine va_get (ci := 6) (C := RX6) (T := TX6) (N := 18) hx hb hts hiX6 hown hK hP 0 rfl rfl 13 (by decide) (hts (.fieldLink RX6 122 "RiddleTradeModel" "kind" "I") (List.mem_of_getElem? (i := 2) rfl)) (fun _ h9 => h9) rfl dX6_thing_39 ?_
        refine lv_bipush (v := 114) hx hb dX6_thing_42 (by decide) ?_
        refine lv_icmp_eq (tgt := 69) hx hb dX6_thing_44 (by decide) (fun c43 => ?_) (fun c43 => ?_)
        · have h := (k_iB h).1 c43
          refine lv_iconst (v := 0) hx hb dX6_thing_69 (by decide) ?_
          refine va_put (ci := 6) (ty := .boolean) (C := RX6) (T := TX6) (N := 18) hx hb hts hiX6 tyX6 tyX6_ok nmX6 hown hK hP hD hS 0 rfl rfl 12 (by decide) (hts (.fieldLink RX6 114 "RiddleTradeModel" "isWrong" "Z") (List.mem_of_getElem? (i := 1) rfl)) (fun _ h9 => h9) rfl (by decide +kernel) rfl rfl (Nat.le_of_ble_eq_true rfl) dX6_thing_70 (fun H locs hP hD hS => ?_)
          have hP : va_P D vwCl (w_X6_thing cI cC h0 h_s h_aside h_past h_snapshot h_text m_pasts m_isKept m_text m_length m_hasStop m_stopAt m_stopWhy m_spot 0 m_kind m_first m_second m_third m_fourth) H := hP
          have hD : va_D A (w_X6_thing cI cC h0 h_s h_aside h_past h_snapshot h_text m_pasts m_isKept m_text m_length m_hasStop m_stopAt m_stopWhy m_spot 0 m_kind m_first m_second m_third m_fourth) := hD
          exact hJ73   m_spot 0 m_kind m_first m_second m_third m_fourth _ _ hP hD hS _ (lv_sub hl [0] rfl) h
        · have h := (k_iB h).2 c43
          refine lv_aload_n hx hb dX6_thing_47 rfl (lv_at hl 0 rfl) ?_
          refine va_get (ci := 6) (C := RX6) (T := TX6) (N := 18) hx hb hts hiX6 hown hK hP 0 rfl rfl 13 (by decide) (hts (.fieldLink RX6 122 "RiddleTradeModel" "kind" "I") (List.mem_of_getElem? (i := 2) rfl)) (fun _ h9 => h9) rfl dX6_thing_48 ?_
          refine lv_bipush (v := 97) hx hb dX6_thing_51 (by decide) ?_
          refine lv_icmp_eq (tgt := 69) hx hb dX6_thing_53 (by decide) (fun c44 => ?_) (fun c44 => ?_)
          · have h := (k_iB h).1 c44
            refine lv_iconst (v := 0) hx hb dX6_thing_69 (by decide) ?_
            refine va_put (ci := 6) (ty := .boolean) (C := RX6) (T := TX6) (N := 18) hx hb hts hiX6 tyX6 tyX6_ok nmX6 hown hK hP hD hS 0 rfl rfl 12 (by decide) (hts (.fieldLink RX6 114 "RiddleTradeModel" "isWrong" "Z") (List.mem_of_getElem? (i := 1) rfl)) (fun _ h9 => h9) rfl (by decide +kernel) rfl rfl (Nat.le_of_ble_eq_true rfl) dX6_thing_70 (fun H locs hP hD hS => ?_)
            have hP : va_P D vwCl (w_X6_thing cI cC h0 h_s h_aside h_past h_snapshot h_text m_pasts m_isKept m_text m_length m_hasStop m_stopAt m_stopWhy m_spot 0 m_kind m_first m_second m_third m_fourth) H := hP
            have hD : va_D A (w_X6_thing cI cC h0 h_s h_aside h_past h_snapshot h_text m_pasts m_isKept m_text m_length m_hasStop m_stopAt m_stopWhy m_spot 0 m_kind m_first m_second m_third m_fourth) := hD
            exact hJ73   m_spot 0 m_kind m_first m_second m_third m_fourth _ _ hP hD hS _ (lv_sub hl [0] rfl) h
          · have h := (k_iB h).2 c44
            refine lv_aload_n hx hb dX6_thing_56 rfl (lv_at hl 0 rfl) ?_
            refine va_get (ci := 6) (C := RX6) (T := TX6) (N := 18) hx hb hts hiX6 hown hK hP 0 rfl rfl 13 (by decide) (hts (.fieldLink RX6 122 "RiddleTradeModel" "kind" "I") (List.mem_of_getElem? (i := 2) rfl)) (fun _ h9 => h9) rfl dX6_thing_57 ?_
            refine lv_bipush (v := 46) hx hb dX6_thing_60 (by decide) ?_
            refine lv_icmp_eq (tgt := 69) hx hb dX6_thing_62 (by decide) (fun c45 => ?_) (fun c45 => ?_)
            · have h := (k_iB h).1 c45
              refine lv_iconst (v := 0) hx hb dX6_thing_69 (by decide) ?_
              refine va_put (ci := 6) (ty := .boolean) (C := RX6) (T := TX6) (N := 18) hx hb hts hiX6 tyX6 tyX6_ok nmX6 hown hK hP hD hS 0 rfl rfl 12 (by decide) (hts (.fieldLink RX6 114 "RiddleTradeModel" "isWrong" "Z") (List.mem_of_getElem? (i := 1) rfl)) (fun _ h9 => h9) rfl (by decide +kernel) rfl rfl (Nat.le_of_ble_eq_true rfl) dX6_thing_70 (fun H locs hP hD hS => ?_)
              have hP : va_P D vwCl (w_X6_thing cI cC h0 h_s h_aside h_past h_snapshot h_text m_pasts m_isKept m_text m_length m_hasStop m_stopAt m_stopWhy m_spot 0 m_kind m_first m_second m_third m_fourth) H := hP
              have hD : va_D A (w_X6_thing cI cC h0 h_s h_aside h_past h_snapshot h_text m_pasts m_isKept m_text m_length m_hasStop m_stopAt m_stopWhy m_spot 0 m_kind m_first m_second m_third m_fourth) := hD
              exact hJ73   m_spot 0 m_kind m_first m_second m_third m_fourth _ _ hP hD hS _ (lv_sub hl [0] rfl) h
            · have h := (k_iB h).2 c45
              refine lv_iconst (v := 1) hx hb dX6_thing_65 (by decide) ?_
              refine lv_goto (tgt := 70) hx hb dX6_thing_66 (by decide) ?_
              refine va_put (ci := 6) (ty := .boolean) (C := RX6) (T := TX6) (N := 18) hx hb hts hiX6 tyX6 tyX6_ok nmX6 hown hK hP hD hS 0 rfl rfl 12 (by decide) (hts (.fieldLink RX6 114 "RiddleTradeModel" "isWrong" "Z") (List.mem_of_getElem? (i := 1) rfl)) (fun _ h9 => h9) rfl (by decide +kernel) rfl rfl (Nat.le_of_ble_eq_true rfl) dX6_thing_70 (fun H locs hP hD hS => ?_)
              have hP : va_P D vwCl (w_X6_thing cI cC h0 h_s h_aside h_past h_snapshot h_text m_pasts m_isKept m_text m_length m_hasStop m_stopAt m_stopWhy m_spot 1 m_kind m_first m_second m_third m_fourth) H := hP
              have hD : va_D A (w_X6_thing cI cC h0 h_s h_aside h_past h_snapshot h_text m_pasts m_isKept m_text m_length m_hasStop m_stopAt m_stopWhy m_spot 1 m_kind m_first m_second m_third m_fourth) := hD
              exact hJ73   m_spot 1 m_kind m_first m_second m_third m_fourth _ _ hP hD hS _ (lv_sub hl [0] rfl) h
  dsimp only [d_X6_thing] at h
  refine lv_aload_n hx hb dX6_thing_0 rfl (lv_at hl 0 rfl) ?_
  refine lv_aload_n hx hb dX6_thing_1 rfl (lv_at hl 0 rfl) ?_
  refine va_get (ci := 6) (C := RX6) (T := TX6) (N := 18) hx hb hts hiX6 hown hK hP 0 rfl rfl 12 (by decide) (hts (.fieldLink RX6 114 "RiddleTradeModel" "isWrong" "Z") (List.mem_of_getElem? (i := 1) rfl)) (fun _ h9 => h9) rfl dX6_thing_2 ?_
  refine lv_if_eq (tgt := 12) hx hb dX6_thing_5 (by decide) (fun c1 => ?_) (fun c1 => ?_)
  · have h := (k_iB h).1 c1
    refine lv_aload_n hx hb dX6_thing_12 rfl (lv_at hl 0 rfl) ?_
    obtain ⟨r2, hu3, h⟩ := ob1_el h
    refine kcVi (ci := 6) (q := (RX6, TX6, 18)) (ws1 := (w_X6_thing cI cC h0 h_s h_aside h_past h_snapshot h_text m_pasts m_isKept m_text m_length m_hasStop m_stopAt m_stopWhy m_spot m_isWrong m_kind m_first m_second m_third m_fourth)) ⟨hx, hb, hml, hown, hts⟩ [0, 1] [] (c_X6_next l D cI cC cE h0 h_s h_aside h_past h_snapshot h_text _ m_pasts m_isKept m_text m_length m_hasStop m_stopAt m_stopWhy m_spot m_isWrong m_kind m_first m_second m_third m_fourth r2 hu3) (cwV 0 hts gX6_thing_X6_next rfl rfl rfl (by decide +kernel) ⟨Nat.le_of_ble_eq_true rfl, Nat.le_of_ble_eq_true rfl⟩) hK hP hD hS hA rfl rfl rfl rfl rfl rfl rfl rfl rfl hl.1 rfl (Nat.le_of_ble_eq_true rfl) dX6_thing_13 ⟨Nat.le_refl 0, Nat.le_refl 0⟩ (fun H locs hP hD hS => ?_)
    refine va_put (ci := 6) (ty := .int) (C := RX6) (T := TX6) (N := 18) hx hb hts hiX6 tyX6 tyX6_ok nmX6 hown hK hP hD hS 0 rfl rfl 13 (by decide) (hts (.fieldLink RX6 122 "RiddleTradeModel" "kind" "I") (List.mem_of_getElem? (i := 2) rfl)) (fun _ h9 => h9) rfl (by decide +kernel) rfl rfl (Nat.le_of_ble_eq_true rfl) dX6_thing_16 (fun H locs hP hD hS => ?_)
    have hP : va_P D vwCl (w_X6_thing cI cC h0 h_s h_aside h_past h_snapshot h_text m_pasts m_isKept m_text m_length m_hasStop m_stopAt m_stopWhy m_spot m_isWrong r2 m_first m_second m_third m_fourth) H := hP
    have hD : va_D A (w_X6_thing cI cC h0 h_s h_aside h_past h_snapshot h_text m_pasts m_isKept m_text m_length m_hasStop m_stopAt m_stopWhy m_spot m_isWrong r2 m_first m_second m_third m_fourth) := hD
    exact hJ19   m_spot m_isWrong r2 m_first m_second m_third m_fourth _ _ hP hD hS _ (lv_sub hl [0] rfl) h
  · have h := (k_iB h).2 c1
    refine lv_iconst (v := 0) hx hb dX6_thing_8 (by decide) ?_
    refine lv_goto (tgt := 16) hx hb dX6_thing_9 (by decide) ?_
    refine va_put (ci := 6) (ty := .int) (C := RX6) (T := TX6) (N := 18) hx hb hts hiX6 tyX6 tyX6_ok nmX6 hown hK hP hD hS 0 rfl rfl 13 (by decide) (hts (.fieldLink RX6 122 "RiddleTradeModel" "kind" "I") (List.mem_of_getElem? (i := 2) rfl)) (fun _ h9 => h9) rfl (by decide +kernel) rfl rfl (Nat.le_of_ble_eq_true rfl) dX6_thing_16 (fun H locs hP hD hS => ?_)
    have hP : va_P D vwCl (w_X6_thing cI cC h0 h_s h_aside h_past h_snapshot h_text m_pasts m_isKept m_text m_length m_hasStop m_stopAt m_stopWhy m_spot m_isWrong 0 m_first m_second m_third m_fourth) H := hP
    have hD : va_D A (w_X6_thing cI cC h0 h_s h_aside h_past h_snapshot h_text m_pasts m_isKept m_text m_length m_hasStop m_stopAt m_stopWhy m_spot m_isWrong 0 m_first m_second m_third m_fourth) := hD
    exact hJ19   m_spot m_isWrong 0 m_first m_second m_third m_fourth _ _ hP hD hS _ (lv_sub hl [0] rfl) h
