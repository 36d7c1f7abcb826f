abbrev w_X6_things (cI cC : ClassId) (h0 h_s h_aside h_past h_snapshot h_text : Nat) (m_pasts : Int32) (m_isKept : Int32) (m_text : Nat → Int32) (m_length : Int32) (m_hasStop : Int32) (m_stopAt : Int32) (m_stopWhy : Int32) (m_spot : Int32) (m_isWrong : Int32) (m_kind : Int32) (m_first : Int32) (m_second : Int32) (m_third : Int32) (m_fourth : Int32) : va_W := [(h0, .inr (6, [.ref h_s, .ref h_aside, .ref h_past, .int m_pasts, .ref h_snapshot, .int m_isKept, .ref h_text, .int m_length, .int m_hasStop, .int m_stopAt, .int m_stopWhy, .int m_spot, .int m_isWrong, .int m_kind, .int m_first, .int m_second, .int m_third, .int m_fourth])), (h_text, .inl (cC, 60, .inl m_text))]
def j_X6_things_49 (LP14 : Int32 → Int32 → Int32 → Int32 → Int32 → Int32 → Int32 → Int32 → Int32 → Option (Int32 × Int32 × Int32 × Int32 × Int32 × Int32 × Int32 × Int32)) (m_text : Nat → Int32) (m_length : Int32) (x1 : Int32) (x2 : Int32) (m_spot : Int32) (m_isWrong : Int32) (m_kind : Int32) (m_first : Int32) (m_second : Int32) (m_third : Int32) (m_fourth : Int32) : Option (Int32 × Int32 × Int32 × Int32 × Int32 × Int32 × Int32 × Int32) :=
    if x2 = 0 then (LP14 x1 x2 m_spot m_isWrong m_kind m_first m_second m_third m_fourth)
    else (ob2 (d_X6_sign 59 m_text m_length m_spot m_isWrong) fun m_spot_13 m_isWrong_14 =>
    if m_isWrong_14 = 0 then (LP14 x1 1 m_spot_13 m_isWrong_14 m_kind m_first m_second m_third m_fourth)
    else (LP14 x1 0 m_spot_13 m_isWrong_14 m_kind m_first m_second m_third m_fourth))
def j_X6_things_47 (LP14 : Int32 → Int32 → Int32 → Int32 → Int32 → Int32 → Int32 → Int32 → Int32 → Option (Int32 × Int32 × Int32 × Int32 × Int32 × Int32 × Int32 × Int32)) (m_text : Nat → Int32) (m_length : Int32) (x1 : Int32) (m_spot : Int32) (m_isWrong : Int32) (m_kind : Int32) (m_first : Int32) (m_second : Int32) (m_third : Int32) (m_fourth : Int32) : Option (Int32 × Int32 × Int32 × Int32 × Int32 × Int32 × Int32 × Int32) :=
    j_X6_things_49 LP14 m_text m_length x1 0 m_spot m_isWrong m_kind m_first m_second m_third m_fourth
def lp_X6_things_14 (m_text : Nat → Int32) (m_length : Int32) : Nat → Int32 → Int32 → Int32 → Int32 → Int32 → Int32 → Int32 → Int32 → Int32 → Option (Int32 × Int32 × Int32 × Int32 × Int32 × Int32 × Int32 × Int32)
  | 0 => fun _ _ _ _ _ _ _ _ _ => none
  | k + 1 => fun x1 x2 m_spot m_isWrong m_kind m_first m_second m_third m_fourth =>
    if x2 = 0 then (if m_isWrong = 0 then (some (x1, m_spot, m_isWrong, m_kind, m_first, m_second, m_third, m_fourth))
    else (some ((-5), m_spot, m_isWrong, m_kind, m_first, m_second, m_third, m_fourth)))
    else (ob7 (d_X6_thing m_text m_length m_spot m_isWrong m_kind m_first m_second m_third m_fourth) fun m_spot_3 m_isWrong_4 m_kind_5 m_first_6 m_second_7 m_third_8 m_fourth_9 =>
    if m_isWrong_4 = 0 then (if m_length ≤ m_spot_3 then (j_X6_things_47 (lp_X6_things_14  m_text m_length k) m_text m_length (x1 + 1) m_spot_3 m_isWrong_4 m_kind_5 m_first_6 m_second_7 m_third_8 m_fourth_9)
    else (j_X6_things_49 (lp_X6_things_14  m_text m_length k) m_text m_length (x1 + 1) 1 m_spot_3 m_isWrong_4 m_kind_5 m_first_6 m_second_7 m_third_8 m_fourth_9))
    else (j_X6_things_47 (lp_X6_things_14  m_text m_length k) m_text m_length (x1 + 1) m_spot_3 m_isWrong_4 m_kind_5 m_first_6 m_second_7 m_third_8 m_fourth_9))
def d_X6_things (m_text : Nat → Int32) (m_length : Int32) (m_spot : Int32) (m_isWrong : Int32) (m_kind : Int32) (m_first : Int32) (m_second : Int32) (m_third : Int32) (m_fourth : Int32) : Option (Int32 × Int32 × Int32 × Int32 × Int32 × Int32 × Int32 × Int32) :=
    lp_X6_things_14  m_text m_length fuel 0 1 0 0 m_kind m_first m_second m_third m_fourth
set_option maxHeartbeats 4000000 in
set_option maxRecDepth 100000 in
theorem c_X6_things (l : Launch) (D : va_G) (cI cC cE : ClassId) (h0 h_s h_aside h_past h_snapshot h_text : Nat) (sz : Nat) (m_pasts : Int32) (m_isKept : Int32) (m_text : Nat → Int32) (m_length : Int32) (m_hasStop : Int32) (m_stopAt : Int32) (m_stopWhy : Int32) (m_spot : Int32) (m_isWrong : Int32) (m_kind : Int32) (m_first : Int32) (m_second : Int32) (m_third : Int32) (m_fourth : Int32) (r0 : Int32) (o_m_spot : Int32) (o_m_isWrong : Int32) (o_m_kind : Int32) (o_m_first : Int32) (o_m_second : Int32) (o_m_third : Int32) (o_m_fourth : Int32) (h : d_X6_things m_text m_length m_spot m_isWrong m_kind m_first m_second m_third m_fourth = some (r0, o_m_spot, o_m_isWrong, o_m_kind, o_m_first, o_m_second, o_m_third, o_m_fourth)) : Met l yX6_things wsX6_things ({ frames := 3, cells := 0, slots := 0, locals := 66 } : Room) (kP D (kT cI cC cE) [.ref h0] (w_X6_things cI cC h0 h_s h_aside h_past h_snapshot h_text m_pasts m_isKept m_text m_length m_hasStop m_stopAt m_stopWhy m_spot m_isWrong m_kind m_first m_second m_third m_fourth) sz) (kQi D (kT cI cC cE) (w_X6_things cI cC h0 h_s h_aside h_past h_snapshot h_text m_pasts m_isKept m_text m_length m_hasStop m_stopAt m_stopWhy m_spot m_isWrong m_kind m_first m_second m_third m_fourth) (w_X6_things cI cC h0 h_s h_aside h_past h_snapshot h_text m_pasts m_isKept m_text m_length m_hasStop m_stopAt m_stopWhy o_m_spot o_m_isWrong o_m_kind o_m_first o_m_second o_m_third o_m_fourth) sz r0) 0 0 (va_A (w_X6_things cI cC h0 h_s h_aside h_past h_snapshot h_text m_pasts m_isKept m_text m_length m_hasStop m_stopAt m_stopWhy m_spot m_isWrong m_kind m_first m_second m_third m_fourth) sz) := by
  refine kMetI (cc := cX6_things) (maxL := 3) (own := RX6) (by decide) rfl (Nat.le_of_ble_eq_true rfl) rfl ?_
  intro p e s m below meth c A Q hx hb hml hown hts hP hK hD hA hS hname fin ls hl
  have hl : lv_has ls 3 [(0, .ref h0)] := hl
  have hiX6 : ∀ w ∈ u_ws RX6 TX6 18, w ∈ wsX6_things := by decide +kernel
  have hJ49 : ∀ (LP14 : Int32 → Int32 → Int32 → Int32 → Int32 → Int32 → Int32 → Int32 → Int32 → Option (Int32 × Int32 × Int32 × Int32 × Int32 × Int32 × Int32 × Int32)), (∀ (x1 : Int32) (x2 : Int32) (m_spot : Int32) (m_isWrong : Int32) (m_kind : Int32) (m_first : Int32) (m_second : Int32) (m_third : Int32) (m_fourth : Int32) (H : Heap) (locs : List Loc), va_P D vwCl (w_X6_things cI cC h0 h_s h_aside h_past h_snapshot h_text m_pasts m_isKept m_text m_length m_hasStop m_stopAt m_stopWhy m_spot m_isWrong m_kind m_first m_second m_third m_fourth) H → va_D A (w_X6_things cI cC h0 h_s h_aside h_past h_snapshot h_text m_pasts m_isKept m_text m_length m_hasStop m_stopAt m_stopWhy m_spot m_isWrong m_kind m_first m_second m_third m_fourth) → va_S A s.heap H locs → ∀ (ls : Array Slot), lv_has ls 3 [(0, .ref h0), (1, .int x1), (2, .int x2)] → LP14 x1 x2 m_spot m_isWrong m_kind m_first m_second m_third m_fourth = some (r0, o_m_spot, o_m_isWrong, o_m_kind, o_m_first, o_m_second, o_m_third, o_m_fourth) → W p l e ({ frames := 3, cells := 0, slots := 0, locals := 66 } : Room) s m [.ref h0].toArray below meth c H locs 0 0 Q (F0 m 14 ls [])) → ∀ (x1 : Int32) (x2 : Int32) (m_spot : Int32) (m_isWrong : Int32) (m_kind : Int32) (m_first : Int32) (m_second : Int32) (m_third : Int32) (m_fourth : Int32) (H : Heap) (locs : List Loc), va_P D vwCl (w_X6_things cI cC h0 h_s h_aside h_past h_snapshot h_text m_pasts m_isKept m_text m_length m_hasStop m_stopAt m_stopWhy m_spot m_isWrong m_kind m_first m_second m_third m_fourth) H → va_D A (w_X6_things cI cC h0 h_s h_aside h_past h_snapshot h_text m_pasts m_isKept m_text m_length m_hasStop m_stopAt m_stopWhy m_spot m_isWrong m_kind m_first m_second m_third m_fourth) → va_S A s.heap H locs → ∀ (ls : Array Slot), lv_has ls 3 [(0, .ref h0), (1, .int x1), (2, .int x2)] → j_X6_things_49 LP14 m_text m_length x1 x2 m_spot m_isWrong m_kind m_first m_second m_third m_fourth = some (r0, o_m_spot, o_m_isWrong, o_m_kind, o_m_first, o_m_second, o_m_third, o_m_fourth) → W p l e ({ frames := 3, cells := 0, slots := 0, locals := 66 } : Room) s m [.ref h0].toArray below meth c H locs 0 0 Q (F0 m 49 ls []) := by
    intro LP14 hLP14
    intro x1 x2 m_spot m_isWrong m_kind m_first m_second m_third m_fourth H locs hP hD hS ls hl h
    dsimp only [j_X6_things_49] at h
    refine lv_iload_n hx hb dX6_things_49 rfl (lv_at hl 2 rfl) ?_
    refine lv_if_eq (tgt := 14) hx hb dX6_things_50 (by decide) (fun c12 => ?_) (fun c12 => ?_)
    · have h := (k_iB h).1 c12
      exact hLP14 x1 x2 m_spot m_isWrong m_kind m_first m_second m_third m_fourth _ _ hP hD hS _ (lv_sub hl [0, 1, 2] rfl) h
    · have h := (k_iB h).2 c12
      refine lv_aload_n hx hb dX6_things_53 rfl (lv_at hl 0 rfl) ?_
      refine lv_bipush (v := 59) hx hb dX6_things_54 (by decide) ?_
      obtain ⟨m_spot_13, m_isWrong_14, hu15, h⟩ := ob2_el h
      refine kcVv (ci := 6) (q := (RX6, TX6, 18)) (ws1 := (w_X6_things cI cC h0 h_s h_aside h_past h_snapshot h_text m_pasts m_isKept m_text m_length m_hasStop m_stopAt m_stopWhy m_spot_13 m_isWrong_14 m_kind m_first m_second m_third m_fourth)) ⟨hx, hb, hml, hown, hts⟩ [0, 1] [] (c_X6_sign l D cI cC cE h0 h_s h_aside h_past h_snapshot h_text _ m_pasts m_isKept m_text m_length m_hasStop m_stopAt m_stopWhy m_spot m_isWrong m_kind m_first m_second m_third m_fourth 59 m_spot_13 m_isWrong_14 hu15) (cwV 1 hts gX6_things_X6_sign rfl rfl rfl (by decide +kernel) ⟨Nat.le_of_ble_eq_true rfl, Nat.le_of_ble_eq_true rfl⟩) hK hP hD hS hA rfl rfl rfl rfl rfl rfl rfl rfl rfl hl.1 rfl (Nat.le_of_ble_eq_true rfl) dX6_things_56 ⟨Nat.le_refl 0, Nat.le_refl 0⟩ (fun H locs hP hD hS => ?_)
      refine lv_aload_n hx hb dX6_things_59 rfl (lv_at hl 0 rfl) ?_
      refine va_get (ci := 6) (C := RX6) (T := TX6) (N := 18) hx hb hts hiX6 hown hK hP 0 rfl rfl 12 (by decide) (hts (.fieldLink RX6 114 "RiddleTradeModel" "isWrong" "Z") (List.mem_of_getElem? (i := 2) rfl)) (fun _ h9 => h9) rfl dX6_things_60 ?_
      refine lv_if_ne (tgt := 70) hx hb dX6_things_63 (by decide) (fun c16 => ?_) (fun c16 => ?_)
      · have h := (k_iB h).2 c16
        refine lv_iconst (v := 0) hx hb dX6_things_70 (by decide) ?_
        refine lv_istore_n (lv' := [(2, .int 0), (0, .ref h0), (1, .int x1)]) hx hb dX6_things_71 rfl hl (by decide) rfl (fun ls hl => ?_)
        refine lv_goto (tgt := 14) hx hb dX6_things_72 (by decide) ?_
        exact hLP14 x1 0 m_spot_13 m_isWrong_14 m_kind m_first m_second m_third m_fourth _ _ hP hD hS _ (lv_sub hl [1, 2, 0] rfl) h
      · have h := (k_iB h).1 c16
        refine lv_iconst (v := 1) hx hb dX6_things_66 (by decide) ?_
        refine lv_goto (tgt := 71) hx hb dX6_things_67 (by decide) ?_
        refine lv_istore_n (lv' := [(2, .int 1), (0, .ref h0), (1, .int x1)]) hx hb dX6_things_71 rfl hl (by decide) rfl (fun ls hl => ?_)
        refine lv_goto (tgt := 14) hx hb dX6_things_72 (by decide) ?_
        exact hLP14 x1 1 m_spot_13 m_isWrong_14 m_kind m_first m_second m_third m_fourth _ _ hP hD hS _ (lv_sub hl [1, 2, 0] rfl) h
  have hJ47 : ∀ (LP14 : Int32 → Int32 → Int32 → Int32 → Int32 → Int32 → Int32 → Int32 → Int32 → Option (Int32 × Int32 × Int32 × Int32 × Int32 × Int32 × Int32 × Int32)), (∀ (x1 : Int32) (x2 : Int32) (m_spot : Int32) (m_isWrong : Int32) (m_kind : Int32) (m_first : Int32) (m_second : Int32) (m_third : Int32) (m_fourth : Int32) (H : Heap) (locs : List Loc), va_P D vwCl (w_X6_things cI cC h0 h_s h_aside h_past h_snapshot h_text m_pasts m_isKept m_text m_length m_hasStop m_stopAt m_stopWhy m_spot m_isWrong m_kind m_first m_second m_third m_fourth) H → va_D A (w_X6_things cI cC h0 h_s h_aside h_past h_snapshot h_text m_pasts m_isKept m_text m_length m_hasStop m_stopAt m_stopWhy m_spot m_isWrong m_kind m_first m_second m_third m_fourth) → va_S A s.heap H locs → ∀ (ls : Array Slot), lv_has ls 3 [(0, .ref h0), (1, .int x1), (2, .int x2)] → LP14 x1 x2 m_spot m_isWrong m_kind m_first m_second m_third m_fourth = some (r0, o_m_spot, o_m_isWrong, o_m_kind, o_m_first, o_m_second, o_m_third, o_m_fourth) → W p l e ({ frames := 3, cells := 0, slots := 0, locals := 66 } : Room) s m [.ref h0].toArray below meth c H locs 0 0 Q (F0 m 14 ls [])) → ∀ (x1 : Int32) (m_spot : Int32) (m_isWrong : Int32) (m_kind : Int32) (m_first : Int32) (m_second : Int32) (m_third : Int32) (m_fourth : Int32) (H : Heap) (locs : List Loc), va_P D vwCl (w_X6_things cI cC h0 h_s h_aside h_past h_snapshot h_text m_pasts m_isKept m_text m_length m_hasStop m_stopAt m_stopWhy m_spot m_isWrong m_kind m_first m_second m_third m_fourth) H → va_D A (w_X6_things cI cC h0 h_s h_aside h_past h_snapshot h_text m_pasts m_isKept m_text m_length m_hasStop m_stopAt m_stopWhy m_spot m_isWrong m_kind m_first m_second m_third m_fourth) → va_S A s.heap H locs → ∀ (ls : Array Slot), lv_has ls 3 [(0, .ref h0), (1, .int x1)] → j_X6_things_47 LP14 m_text m_length x1 m_spot m_isWrong m_kind m_first m_second m_third m_fourth = some (r0, o_m_spot, o_m_isWrong, o_m_kind, o_m_first, o_m_second, o_m_third, o_m_fourth) → W p l e ({ frames := 3, cells := 0, slots := 0, locals := 66 } : Room) s m [.ref h0].toArray below meth c H locs 0 0 Q (F0 m 47 ls []) := by
    intro LP14 hLP14
    intro x1 m_spot m_isWrong m_kind m_first m_second m_third m_fourth H locs hP hD hS ls hl h
    dsimp only [j_X6_things_47] at h
    refine lv_iconst (v := 0) hx hb dX6_things_47 (by decide) ?_
    refine lv_istore_n (lv' := [(2, .int 0), (0, .ref h0), (1, .int x1)]) hx hb dX6_things_48 rfl hl (by decide) rfl (fun ls hl => ?_)
    exact hJ49 LP14 hLP14 x1 0 m_spot m_isWrong m_kind m_first m_second m_third m_fourth _ _ hP hD hS _ (lv_sub hl [1, 2, 0] rfl) h
  have hL14 : ∀ (k : Nat), ∀ (x1 : Int32) (x2 : Int32) (m_spot : Int32) (m_isWrong : Int32) (m_kind : Int32) (m_first : Int32) (m_second : Int32) (m_third : Int32) (m_fourth : Int32) (H : Heap) (locs : List Loc), va_P D vwCl (w_X6_things cI cC h0 h_s h_aside h_past h_snapshot h_text m_pasts m_isKept m_text m_length m_hasStop m_stopAt m_stopWhy m_spot m_isWrong m_kind m_first m_second m_third m_fourth) H → va_D A (w_X6_things cI cC h0 h_s h_aside h_past h_snapshot h_text m_pasts m_isKept m_text m_length m_hasStop m_stopAt m_stopWhy m_spot m_isWrong m_kind m_first m_second m_third m_fourth) → va_S A s.heap H locs → ∀ (ls : Array Slot), lv_has ls 3 [(0, .ref h0), (1, .int x1), (2, .int x2)] → lp_X6_things_14  m_text m_length k x1 x2 m_spot m_isWrong m_kind m_first m_second m_third m_fourth = some (r0, o_m_spot, o_m_isWrong, o_m_kind, o_m_first, o_m_second, o_m_third, o_m_fourth) → W p l e ({ frames := 3, cells := 0, slots := 0, locals := 66 } : Room) s m [.ref h0].toArray below meth c H locs 0 0 Q (F0 m 14 ls []) := by
    intro k
    induction k with
    | zero =>
      intro x1 x2 m_spot m_isWrong m_kind m_first m_second m_third m_fourth H locs hP hD hS ls hl h
      exact k_none h
    | succ k ih =>
      intro x1 x2 m_spot m_isWrong m_kind m_first m_second m_third m_fourth H locs hP hD hS ls hl h
      dsimp only [lp_X6_things_14] at h
      refine lv_iload_n hx hb dX6_things_14 rfl (lv_at hl 2 rfl) ?_
      refine lv_if_eq (tgt := 75) hx hb dX6_things_15 (by decide) (fun c1 => ?_) (fun c1 => ?_)
      · have h := (k_iB h).1 c1
        refine lv_aload_n hx hb dX6_things_75 rfl (lv_at hl 0 rfl) ?_
        refine va_get (ci := 6) (C := RX6) (T := TX6) (N := 18) hx hb hts hiX6 hown hK hP 0 rfl rfl 12 (by decide) (hts (.fieldLink RX6 114 "RiddleTradeModel" "isWrong" "Z") (List.mem_of_getElem? (i := 2) rfl)) (fun _ h9 => h9) rfl dX6_things_76 ?_
        refine lv_if_eq (tgt := 87) hx hb dX6_things_79 (by decide) (fun c2 => ?_) (fun c2 => ?_)
        · have h := (k_iB h).1 c2
          refine lv_iload_n hx hb dX6_things_87 rfl (lv_at hl 1 rfl) ?_
          obtain ⟨rfl, rfl, rfl, rfl, rfl, rfl, rfl, rfl⟩ := inj8 (Option.some.inj h)
          exact fin _ _ _ _ dX6_things_88 hP hD hS
        · have h := (k_iB h).2 c2
          refine lv_bipush (v := (-5)) hx hb dX6_things_82 (by decide) ?_
          refine lv_goto (tgt := 88) hx hb dX6_things_84 (by decide) ?_
          obtain ⟨rfl, rfl, rfl, rfl, rfl, rfl, rfl, rfl⟩ := inj8 (Option.some.inj h)
          exact fin _ _ _ _ dX6_things_88 hP hD hS
      · have h := (k_iB h).2 c1
        refine lv_aload_n hx hb dX6_things_18 rfl (lv_at hl 0 rfl) ?_
        obtain ⟨m_spot_3, m_isWrong_4, m_kind_5, m_first_6, m_second_7, m_third_8, m_fourth_9, hu10, h⟩ := ob7_el h
        refine kcVv (ci := 6) (q := (RX6, TX6, 18)) (ws1 := (w_X6_things cI cC h0 h_s h_aside h_past h_snapshot h_text m_pasts m_isKept m_text m_length m_hasStop m_stopAt m_stopWhy m_spot_3 m_isWrong_4 m_kind_5 m_first_6 m_second_7 m_third_8 m_fourth_9)) ⟨hx, hb, hml, hown, hts⟩ [0, 1] [] (c_X6_thing l D cI cC cE h0 h_s h_aside h_past h_snapshot h_text _ m_pasts m_isKept m_text m_length m_hasStop m_stopAt m_stopWhy m_spot m_isWrong m_kind m_first m_second m_third m_fourth m_spot_3 m_isWrong_4 m_kind_5 m_first_6 m_second_7 m_third_8 m_fourth_9 hu10) (cwV 0 hts gX6_things_X6_thing rfl rfl rfl (by decide +kernel) ⟨Nat.le_of_ble_eq_true rfl, Nat.le_of_ble_eq_true rfl⟩) hK hP hD hS hA rfl rfl rfl rfl rfl rfl rfl rfl rfl hl.1 rfl (Nat.le_of_ble_eq_true rfl) dX6_things_19 ⟨Nat.le_refl 0, Nat.le_refl 0⟩ (fun H locs hP hD hS => ?_)
        refine lv_iinc (v := (x1 + 1)) (lv' := [(1, .int (x1 + 1)), (0, .ref h0), (2, .int x2)]) hx hb dX6_things_22 hl (k := 1) rfl rfl (by decide) rfl (fun ls hl => ?_)
        refine lv_aload_n hx hb dX6_things_25 rfl (lv_at hl 1 rfl) ?_
        refine va_get (ci := 6) (C := RX6) (T := TX6) (N := 18) hx hb hts hiX6 hown hK hP 0 rfl rfl 12 (by decide) (hts (.fieldLink RX6 114 "RiddleTradeModel" "isWrong" "Z") (List.mem_of_getElem? (i := 2) rfl)) (fun _ h9 => h9) rfl dX6_things_26 ?_
        refine lv_if_ne (tgt := 47) hx hb dX6_things_29 (by decide) (fun c11 => ?_) (fun c11 => ?_)
        · have h := (k_iB h).2 c11
          exact hJ47 (lp_X6_things_14  m_text m_length k) ih (x1 + 1) m_spot_3 m_isWrong_4 m_kind_5 m_first_6 m_second_7 m_third_8 m_fourth_9 _ _ hP hD hS _ (lv_sub hl [1, 0] rfl) h
        · have h := (k_iB h).1 c11
          refine lv_aload_n hx hb dX6_things_32 rfl (lv_at hl 1 rfl) ?_
          refine va_get (ci := 6) (C := RX6) (T := TX6) (N := 18) hx hb hts hiX6 hown hK hP 0 rfl rfl 11 (by decide) (hts (.fieldLink RX6 111 "RiddleTradeModel" "spot" "I") (List.mem_of_getElem? (i := 1) rfl)) (fun _ h9 => h9) rfl dX6_things_33 ?_
          refine lv_aload_n hx hb dX6_things_36 rfl (lv_at hl 1 rfl) ?_
          refine va_get (ci := 6) (C := RX6) (T := TX6) (N := 18) hx hb hts hiX6 hown hK hP 0 rfl rfl 7 (by decide) (hts (.fieldLink RX6 108 "RiddleTradeModel" "length" "I") (List.mem_of_getElem? (i := 3) rfl)) (fun _ h9 => h9) rfl dX6_things_37 ?_
          refine lv_icmp_ge (tgt := 47) hx hb dX6_things_40 (by decide) (fun c17 => ?_) (fun c17 => ?_)
          · have h := (k_iB h).1 c17
            exact hJ47 (lp_X6_things_14  m_text m_length k) ih (x1 + 1) m_spot_3 m_isWrong_4 m_kind_5 m_first_6 m_second_7 m_third_8 m_fourth_9 _ _ hP hD hS _ (lv_sub hl [1, 0] rfl) h
          · have h := (k_iB h).2 c17
            refine lv_iconst (v := 1) hx hb dX6_things_43 (by decide) ?_
            refine lv_goto (tgt := 48) hx hb dX6_things_44 (by decide) ?_
            refine lv_istore_n (lv' := [(2, .int 1), (1, .int (x1 + 1)), (0, .ref h0)]) hx hb dX6_things_48 rfl hl (by decide) rfl (fun ls hl => ?_)
            exact hJ49 (lp_X6_things_14  m_text m_length k) ih (x1 + 1) 1 m_spot_3 m_isWrong_4 m_kind_5 m_first_6 m_second_7 m_third_8 m_fourth_9 _ _ hP hD hS _ (lv_sub hl [2, 1, 0] rfl) h
  dsimp only [d_X6_things] at h
  refine lv_aload_n hx hb dX6_things_0 rfl (lv_at hl 0 rfl) ?_
  refine lv_iconst (v := 0) hx hb dX6_things_1 (by decide) ?_
  refine va_put (ci := 6) (ty := .int) (C := RX6) (T := TX6) (N := 18) hx hb hts hiX6 tyX6 tyX6_ok nmX6 hown hK hP hD hS 0 rfl rfl 11 (by decide) (hts (.fieldLink RX6 111 "RiddleTradeModel" "spot" "I") (List.mem_of_getElem? (i := 1) rfl)) (fun _ h9 => h9) rfl (by decide +kernel) rfl rfl (Nat.le_of_ble_eq_true rfl) dX6_things_2 (fun H locs hP hD hS => ?_)
  have hP : va_P D vwCl (w_X6_things cI cC h0 h_s h_aside h_past h_snapshot h_text m_pasts m_isKept m_text m_length m_hasStop m_stopAt m_stopWhy 0 m_isWrong m_kind m_first m_second m_third m_fourth) H := hP
  have hD : va_D A (w_X6_things cI cC h0 h_s h_aside h_past h_snapshot h_text m_pasts m_isKept m_text m_length m_hasStop m_stopAt m_stopWhy 0 m_isWrong m_kind m_first m_second m_third m_fourth) := hD
  refine lv_aload_n hx hb dX6_things_5 rfl (lv_at hl 0 rfl) ?_
  refine lv_iconst (v := 0) hx hb dX6_things_6 (by decide) ?_
  refine va_put (ci := 6) (ty := .boolean) (C := RX6) (T := TX6) (N := 18) hx hb hts hiX6 tyX6 tyX6_ok nmX6 hown hK hP hD hS 0 rfl rfl 12 (by decide) (hts (.fieldLink RX6 114 "RiddleTradeModel" "isWrong" "Z") (List.mem_of_getElem? (i := 2) rfl)) (fun _ h9 => h9) rfl (by decide +kernel) rfl rfl (Nat.le_of_ble_eq_true rfl) dX6_things_7 (fun H locs hP hD hS => ?_)
  have hP : va_P D vwCl (w_X6_things cI cC h0 h_s h_aside h_past h_snapshot h_text m_pasts m_isKept m_text m_length m_hasStop m_stopAt m_stopWhy 0 0 m_kind m_first m_second m_third m_fourth) H := hP
  have hD : va_D A (w_X6_things cI cC h0 h_s h_aside h_past h_snapshot h_text m_pasts m_isKept m_text m_length m_hasStop m_stopAt m_stopWhy 0 0 m_kind m_first m_second m_third m_fourth) := hD
  refine lv_iconst (v := 0) hx hb dX6_things_10 (by decide) ?_
  refine lv_istore_n (lv' := [(1, .int 0), (0, .ref h0)]) hx hb dX6_things_11 rfl hl (by decide) rfl (fun ls hl => ?_)
  refine lv_iconst (v := 1) hx hb dX6_things_12 (by decide) ?_
  refine lv_istore_n (lv' := [(2, .int 1), (1, .int 0), (0, .ref h0)]) hx hb dX6_things_13 rfl hl (by decide) rfl (fun ls hl => ?_)
  exact hL14   fuel 0 1 0 0 m_kind m_first m_second m_third m_fourth _ _ hP hD hS _ (lv_sub hl [2, 1, 0] rfl) h
abbrev w_X6_does (cI cC : ClassId) (h0 h_s h_aside h_past h_snapshot h_text : Nat) (m_s : Nat → Int32) (m_pasts : Int32) (m_isKept : Int32) (m_length : Int32) (m_hasStop : Int32) (m_stopAt : Int32) (m_stopWhy : Int32) (m_spot : Int32) (m_isWrong : Int32) (m_kind : Int32) (m_first : Int32) (m_second : Int32) (m_third : Int32) (m_fourth : Int32) : va_W := [(h0, .inr (6, [.ref h_s, .ref h_aside, .ref h_past, .int m_pasts, .ref h_snapshot, .int m_isKept, .ref h_text, .int m_length, .int m_hasStop, .int m_stopAt, .int m_stopWhy, .int m_spot, .int m_isWrong, .int m_kind, .int m_first, .int m_second, .int m_third, .int m_fourth])), (h_s, .inl (cI, 490, .inl m_s))]
def j_X6_does_69 (m_kind : Int32) (m_first : Int32) (m_second : Int32) (m_third : Int32) (m_fourth : Int32) (x1 : Int32) (m_s : Nat → Int32) : Option (Int32 × (Nat → Int32)) :=
    if x1 = 0 then (if m_kind = 114 then (ob2 (d_X6_asks m_first m_second m_third m_s) fun r14 m_s_15 =>
    some (x1, m_s_15))
    else (if m_kind = 97 then (ob2 (d_X6_delivers m_first m_second m_third m_fourth m_s) fun r11 m_s_12 =>
    some (x1, m_s_12))
    else (ob2 (d_X6_passes m_first m_s) fun r8 m_s_9 =>
    some (x1, m_s_9))))
    else (some (x1, m_s))
def d_X6_does (m_s : Nat → Int32) (m_kind : Int32) (m_first : Int32) (m_second : Int32) (m_third : Int32) (m_fourth : Int32) : Option (Int32 × (Nat → Int32)) :=
    if m_kind = 114 then (ob1 (d_X6_barAsk m_first m_second m_third m_s) fun r19 =>
    j_X6_does_69  m_kind m_first m_second m_third m_fourth r19 m_s)
    else (if m_kind = 97 then (ob1 (d_X6_barDeliver m_first m_second m_third m_fourth m_s) fun r17 =>
    j_X6_does_69  m_kind m_first m_second m_third m_fourth r17 m_s)
    else (ob1 (d_X6_barPass m_first m_s) fun r3 =>
    j_X6_does_69  m_kind m_first m_second m_third m_fourth r3 m_s))
set_option maxHeartbeats 4000000 in
set_option maxRecDepth 100000 in
theorem c_X6_does (l : Launch) (D : va_G) (cI cC cE : ClassId) (h0 h_s h_aside h_past h_snapshot h_text : Nat) (sz : Nat) (m_s : Nat → Int32) (m_pasts : Int32) (m_isKept : Int32) (m_length : Int32) (m_hasStop : Int32) (m_stopAt : Int32) (m_stopWhy : Int32) (m_spot : Int32) (m_isWrong : Int32) (m_kind : Int32) (m_first : Int32) (m_second : Int32) (m_third : Int32) (m_fourth : Int32) (r0 : Int32) (o_m_s : Nat → Int32) (h : d_X6_does m_s m_kind m_first m_second m_third m_fourth = some (r0, o_m_s)) : Met l yX6_does wsX6_does ({ frames := 5, cells := 0, slots := 0, locals := 116 } : Room) (kP D (kT cI cC cE) [.ref h0] (w_X6_does cI cC h0 h_s h_aside h_past h_snapshot h_text m_s m_pasts m_isKept m_length m_hasStop m_stopAt m_stopWhy m_spot m_isWrong m_kind m_first m_second m_third m_fourth) sz) (kQi D (kT cI cC cE) (w_X6_does cI cC h0 h_s h_aside h_past h_snapshot h_text m_s m_pasts m_isKept m_length m_hasStop m_stopAt m_stopWhy m_spot m_isWrong m_kind m_first m_second m_third m_fourth) (w_X6_does cI cC h0 h_s h_aside h_past h_snapshot h_text o_m_s m_pasts m_isKept m_length m_hasStop m_stopAt m_stopWhy m_spot m_isWrong m_kind m_first m_second m_third m_fourth) sz r0) 0 0 (va_A (w_X6_does cI cC h0 h_s h_aside h_past h_snapshot h_text m_s m_pasts m_isKept m_length m_hasStop m_stopAt m_stopWhy m_spot m_isWrong m_kind m_first m_second m_third m_fourth) sz) := by
  refine kMetI (cc := cX6_does) (maxL := 3) (own := RX6) (by decide) rfl (Nat.le_of_ble_eq_true rfl) rfl ?_
  intro p e s m below meth c A Q hx hb hml hown hts hP hK hD hA hS hname fin ls hl
  have hl : lv_has ls 3 [(0, .ref h0)] := hl
  have hiX6 : ∀ w ∈ u_ws RX6 TX6 18, w ∈ wsX6_does := by decide +kernel
  have hJ69 : ∀ (x1 : Int32) (m_s : Nat → Int32) (H : Heap) (locs : List Loc), va_P D vwCl (w_X6_does cI cC h0 h_s h_aside h_past h_snapshot h_text m_s m_pasts m_isKept m_length m_hasStop m_stopAt m_stopWhy m_spot m_isWrong m_kind m_first m_second m_third m_fourth) H → va_D A (w_X6_does cI cC h0 h_s h_aside h_past h_snapshot h_text m_s m_pasts m_isKept m_length m_hasStop m_stopAt m_stopWhy m_spot m_isWrong m_kind m_first m_second m_third m_fourth) → va_S A s.heap H locs → ∀ (ls : Array Slot), lv_has ls 3 [(0, .ref h0), (1, .int x1)] → j_X6_does_69  m_kind m_first m_second m_third m_fourth x1 m_s = some (r0, o_m_s) → W p l e ({ frames := 5, cells := 0, slots := 0, locals := 116 } : Room) s m [.ref h0].toArray below meth c H locs 0 0 Q (F0 m 69 ls []) := by
    intro x1 m_s H locs hP hD hS ls hl h
    dsimp only [j_X6_does_69] at h
    refine lv_iload_n hx hb dX6_does_69 rfl (lv_at hl 1 rfl) ?_
    refine lv_if_ne (tgt := 142) hx hb dX6_does_70 (by decide) (fun c5 => ?_) (fun c5 => ?_)
    · have h := (k_iB h).2 c5
      refine lv_iload_n hx hb dX6_does_142 rfl (lv_at hl 1 rfl) ?_
      obtain ⟨rfl, rfl⟩ := inj2 (Option.some.inj h)
      exact fin _ _ _ _ dX6_does_143 hP hD hS
    · have h := (k_iB h).1 c5
      refine lv_aload_n hx hb dX6_does_73 rfl (lv_at hl 0 rfl) ?_
      refine va_get (ci := 6) (C := RX6) (T := TX6) (N := 18) hx hb hts hiX6 hown hK hP 0 rfl rfl 13 (by decide) (hts (.fieldLink RX6 122 "RiddleTradeModel" "kind" "I") (List.mem_of_getElem? (i := 1) rfl)) (fun _ h9 => h9) rfl dX6_does_74 ?_
      refine lv_bipush (v := 114) hx hb dX6_does_77 (by decide) ?_
      refine lv_icmp_ne (tgt := 101) hx hb dX6_does_79 (by decide) (fun c6 => ?_) (fun c6 => ?_)
      · have h := (k_iB h).2 c6
        refine lv_aload_n hx hb dX6_does_101 rfl (lv_at hl 0 rfl) ?_
        refine va_get (ci := 6) (C := RX6) (T := TX6) (N := 18) hx hb hts hiX6 hown hK hP 0 rfl rfl 13 (by decide) (hts (.fieldLink RX6 122 "RiddleTradeModel" "kind" "I") (List.mem_of_getElem? (i := 1) rfl)) (fun _ h9 => h9) rfl dX6_does_102 ?_
        refine lv_bipush (v := 97) hx hb dX6_does_105 (by decide) ?_
        refine lv_icmp_ne (tgt := 133) hx hb dX6_does_107 (by decide) (fun c7 => ?_) (fun c7 => ?_)
        · have h := (k_iB h).2 c7
          refine lv_aload_n hx hb dX6_does_133 rfl (lv_at hl 0 rfl) ?_
          refine lv_aload_n hx hb dX6_does_134 rfl (lv_at hl 0 rfl) ?_
          refine va_get (ci := 6) (C := RX6) (T := TX6) (N := 18) hx hb hts hiX6 hown hK hP 0 rfl rfl 14 (by decide) (hts (.fieldLink RX6 128 "RiddleTradeModel" "first" "I") (List.mem_of_getElem? (i := 2) rfl)) (fun _ h9 => h9) rfl dX6_does_135 ?_
          obtain ⟨r8, m_s_9, hu10, h⟩ := ob2_el h
          refine kcVi (ci := 6) (q := (RX6, TX6, 18)) (ws1 := (w_X6_does cI cC h0 h_s h_aside h_past h_snapshot h_text m_s_9 m_pasts m_isKept m_length m_hasStop m_stopAt m_stopWhy m_spot m_isWrong m_kind m_first m_second m_third m_fourth)) ⟨hx, hb, hml, hown, hts⟩ [0, 1] [] (c_X6_passes l D cI cC cE h0 h_s h_aside h_past h_snapshot h_text _ m_s m_pasts m_isKept m_length m_hasStop m_stopAt m_stopWhy m_spot m_isWrong m_kind m_first m_second m_third m_fourth m_first r8 m_s_9 hu10) (cwV 1 hts gX6_does_X6_passes rfl rfl rfl (by decide +kernel) ⟨Nat.le_of_ble_eq_true rfl, Nat.le_of_ble_eq_true rfl⟩) hK hP hD hS hA rfl rfl rfl rfl rfl rfl rfl rfl rfl hl.1 rfl (Nat.le_of_ble_eq_true rfl) dX6_does_138 ⟨Nat.le_refl 0, Nat.le_refl 0⟩ (fun H locs hP hD hS => ?_)
          refine lv_istore_n (lv' := [(2, .int r8), (0, .ref h0), (1, .int x1)]) hx hb dX6_does_141 rfl hl (by decide) rfl (fun ls hl => ?_)
          refine lv_iload_n hx hb dX6_does_142 rfl (lv_at hl 2 rfl) ?_
          obtain ⟨rfl, rfl⟩ := inj2 (Option.some.inj h)
          exact fin _ _ _ _ dX6_does_143 hP hD hS
        · have h := (k_iB h).1 c7
          refine lv_aload_n hx hb dX6_does_110 rfl (lv_at hl 0 rfl) ?_
          refine lv_aload_n hx hb dX6_does_111 rfl (lv_at hl 0 rfl) ?_
          refine va_get (ci := 6) (C := RX6) (T := TX6) (N := 18) hx hb hts hiX6 hown hK hP 0 rfl rfl 14 (by decide) (hts (.fieldLink RX6 128 "RiddleTradeModel" "first" "I") (List.mem_of_getElem? (i := 2) rfl)) (fun _ h9 => h9) rfl dX6_does_112 ?_
          refine lv_aload_n hx hb dX6_does_115 rfl (lv_at hl 0 rfl) ?_
          refine va_get (ci := 6) (C := RX6) (T := TX6) (N := 18) hx hb hts hiX6 hown hK hP 0 rfl rfl 15 (by decide) (hts (.fieldLink RX6 134 "RiddleTradeModel" "second" "I") (List.mem_of_getElem? (i := 3) rfl)) (fun _ h9 => h9) rfl dX6_does_116 ?_
          refine lv_aload_n hx hb dX6_does_119 rfl (lv_at hl 0 rfl) ?_
          refine va_get (ci := 6) (C := RX6) (T := TX6) (N := 18) hx hb hts hiX6 hown hK hP 0 rfl rfl 16 (by decide) (hts (.fieldLink RX6 137 "RiddleTradeModel" "third" "I") (List.mem_of_getElem? (i := 4) rfl)) (fun _ h9 => h9) rfl dX6_does_120 ?_
          refine lv_aload_n hx hb dX6_does_123 rfl (lv_at hl 0 rfl) ?_
          refine va_get (ci := 6) (C := RX6) (T := TX6) (N := 18) hx hb hts hiX6 hown hK hP 0 rfl rfl 17 (by decide) (hts (.fieldLink RX6 140 "RiddleTradeModel" "fourth" "I") (List.mem_of_getElem? (i := 5) rfl)) (fun _ h9 => h9) rfl dX6_does_124 ?_
          obtain ⟨r11, m_s_12, hu13, h⟩ := ob2_el h
          refine kcVi (ci := 6) (q := (RX6, TX6, 18)) (ws1 := (w_X6_does cI cC h0 h_s h_aside h_past h_snapshot h_text m_s_12 m_pasts m_isKept m_length m_hasStop m_stopAt m_stopWhy m_spot m_isWrong m_kind m_first m_second m_third m_fourth)) ⟨hx, hb, hml, hown, hts⟩ [0, 1] [] (c_X6_delivers l D cI cC cE h0 h_s h_aside h_past h_snapshot h_text _ m_s m_pasts m_isKept m_length m_hasStop m_stopAt m_stopWhy m_spot m_isWrong m_kind m_first m_second m_third m_fourth m_first m_second m_third m_fourth r11 m_s_12 hu13) (cwV 4 hts gX6_does_X6_delivers rfl rfl rfl (by decide +kernel) ⟨Nat.le_of_ble_eq_true rfl, Nat.le_of_ble_eq_true rfl⟩) hK hP hD hS hA rfl rfl rfl rfl rfl rfl rfl rfl rfl hl.1 rfl (Nat.le_of_ble_eq_true rfl) dX6_does_127 ⟨Nat.le_refl 0, Nat.le_refl 0⟩ (fun H locs hP hD hS => ?_)
          refine lv_goto (tgt := 141) hx hb dX6_does_130 (by decide) ?_
          refine lv_istore_n (lv' := [(2, .int r11), (0, .ref h0), (1, .int x1)]) hx hb dX6_does_141 rfl hl (by decide) rfl (fun ls hl => ?_)
          refine lv_iload_n hx hb dX6_does_142 rfl (lv_at hl 2 rfl) ?_
          obtain ⟨rfl, rfl⟩ := inj2 (Option.some.inj h)
          exact fin _ _ _ _ dX6_does_143 hP hD hS
      · have h := (k_iB h).1 c6
        refine lv_aload_n hx hb dX6_does_82 rfl (lv_at hl 0 rfl) ?_
        refine lv_aload_n hx hb dX6_does_83 rfl (lv_at hl 0 rfl) ?_
        refine va_get (ci := 6) (C := RX6) (T := TX6) (N := 18) hx hb hts hiX6 hown hK hP 0 rfl rfl 14 (by decide) (hts (.fieldLink RX6 128 "RiddleTradeModel" "first" "I") (List.mem_of_getElem? (i := 2) rfl)) (fun _ h9 => h9) rfl dX6_does_84 ?_
        refine lv_aload_n hx hb dX6_does_87 rfl (lv_at hl 0 rfl) ?_
        refine va_get (ci := 6) (C := RX6) (T := TX6) (N := 18) hx hb hts hiX6 hown hK hP 0 rfl rfl 15 (by decide) (hts (.fieldLink RX6 134 "RiddleTradeModel" "second" "I") (List.mem_of_getElem? (i := 3) rfl)) (fun _ h9 => h9) rfl dX6_does_88 ?_
        refine lv_aload_n hx hb dX6_does_91 rfl (lv_at hl 0 rfl) ?_
        refine va_get (ci := 6) (C := RX6) (T := TX6) (N := 18) hx hb hts hiX6 hown hK hP 0 rfl rfl 16 (by decide) (hts (.fieldLink RX6 137 "RiddleTradeModel" "third" "I") (List.mem_of_getElem? (i := 4) rfl)) (fun _ h9 => h9) rfl dX6_does_92 ?_
        obtain ⟨r14, m_s_15, hu16, h⟩ := ob2_el h
        refine kcVi (ci := 6) (q := (RX6, TX6, 18)) (ws1 := (w_X6_does cI cC h0 h_s h_aside h_past h_snapshot h_text m_s_15 m_pasts m_isKept m_length m_hasStop m_stopAt m_stopWhy m_spot m_isWrong m_kind m_first m_second m_third m_fourth)) ⟨hx, hb, hml, hown, hts⟩ [0, 1] [] (c_X6_asks l D cI cC cE h0 h_s h_aside h_past h_snapshot h_text _ m_s m_pasts m_isKept m_length m_hasStop m_stopAt m_stopWhy m_spot m_isWrong m_kind m_first m_second m_third m_fourth m_first m_second m_third r14 m_s_15 hu16) (cwV 3 hts gX6_does_X6_asks rfl rfl rfl (by decide +kernel) ⟨Nat.le_of_ble_eq_true rfl, Nat.le_of_ble_eq_true rfl⟩) hK hP hD hS hA rfl rfl rfl rfl rfl rfl rfl rfl rfl hl.1 rfl (Nat.le_of_ble_eq_true rfl) dX6_does_95 ⟨Nat.le_refl 0, Nat.le_refl 0⟩ (fun H locs hP hD hS => ?_)
        refine lv_goto (tgt := 141) hx hb dX6_does_98 (by decide) ?_
        refine lv_istore_n (lv' := [(2, .int r14), (0, .ref h0), (1, .int x1)]) hx hb dX6_does_141 rfl hl (by decide) rfl (fun ls hl => ?_)
        refine lv_iload_n hx hb dX6_does_142 rfl (lv_at hl 2 rfl) ?_
        obtain ⟨rfl, rfl⟩ := inj2 (Option.some.inj h)
        exact fin _ _ _ _ dX6_does_143 hP hD hS
  dsimp only [d_X6_does] at h
  refine lv_aload_n hx hb dX6_does_0 rfl (lv_at hl 0 rfl) ?_
  refine va_get (ci := 6) (C := RX6) (T := TX6) (N := 18) hx hb hts hiX6 hown hK hP 0 rfl rfl 13 (by decide) (hts (.fieldLink RX6 122 "RiddleTradeModel" "kind" "I") (List.mem_of_getElem? (i := 1) rfl)) (fun _ h9 => h9) rfl dX6_does_1 ?_
  refine lv_bipush (v := 114) hx hb dX6_does_4 (by decide) ?_
  refine lv_icmp_ne (tgt := 28) hx hb dX6_does_6 (by decide) (fun c1 => ?_) (fun c1 => ?_)
  · have h := (k_iB h).2 c1
    refine lv_aload_n hx hb dX6_does_28 rfl (lv_at hl 0 rfl) ?_
    refine va_get (ci := 6) (C := RX6) (T := TX6) (N := 18) hx hb hts hiX6 hown hK hP 0 rfl rfl 13 (by decide) (hts (.fieldLink RX6 122 "RiddleTradeModel" "kind" "I") (List.mem_of_getElem? (i := 1) rfl)) (fun _ h9 => h9) rfl dX6_does_29 ?_
    refine lv_bipush (v := 97) hx hb dX6_does_32 (by decide) ?_
    refine lv_icmp_ne (tgt := 60) hx hb dX6_does_34 (by decide) (fun c2 => ?_) (fun c2 => ?_)
    · have h := (k_iB h).2 c2
      refine lv_aload_n hx hb dX6_does_60 rfl (lv_at hl 0 rfl) ?_
      refine lv_aload_n hx hb dX6_does_61 rfl (lv_at hl 0 rfl) ?_
      refine va_get (ci := 6) (C := RX6) (T := TX6) (N := 18) hx hb hts hiX6 hown hK hP 0 rfl rfl 14 (by decide) (hts (.fieldLink RX6 128 "RiddleTradeModel" "first" "I") (List.mem_of_getElem? (i := 2) rfl)) (fun _ h9 => h9) rfl dX6_does_62 ?_
      obtain ⟨r3, hu4, h⟩ := ob1_el h
      refine kcVi (ci := 6) (q := (RX6, TX6, 18)) (ws1 := (w_X6_does cI cC h0 h_s h_aside h_past h_snapshot h_text m_s m_pasts m_isKept m_length m_hasStop m_stopAt m_stopWhy m_spot m_isWrong m_kind m_first m_second m_third m_fourth)) ⟨hx, hb, hml, hown, hts⟩ [0, 1] [] (c_X6_barPass l D cI cC cE h0 h_s h_aside h_past h_snapshot h_text _ m_s m_pasts m_isKept m_length m_hasStop m_stopAt m_stopWhy m_spot m_isWrong m_kind m_first m_second m_third m_fourth m_first r3 hu4) (cwV 1 hts gX6_does_X6_barPass rfl rfl rfl (by decide +kernel) ⟨Nat.le_of_ble_eq_true rfl, Nat.le_of_ble_eq_true rfl⟩) hK hP hD hS hA rfl rfl rfl rfl rfl rfl rfl rfl rfl hl.1 rfl (Nat.le_of_ble_eq_true rfl) dX6_does_65 ⟨Nat.le_refl 0, Nat.le_refl 0⟩ (fun H locs hP hD hS => ?_)
      refine lv_istore_n (lv' := [(1, .int r3), (0, .ref h0)]) hx hb dX6_does_68 rfl hl (by decide) rfl (fun ls hl => ?_)
      exact hJ69   r3 m_s _ _ hP hD hS _ (lv_sub hl [1, 0] rfl) h
    · have h := (k_iB h).1 c2
      refine lv_aload_n hx hb dX6_does_37 rfl (lv_at hl 0 rfl) ?_
      refine lv_aload_n hx hb dX6_does_38 rfl (lv_at hl 0 rfl) ?_
      refine va_get (ci := 6) (C := RX6) (T := TX6) (N := 18) hx hb hts hiX6 hown hK hP 0 rfl rfl 14 (by decide) (hts (.fieldLink RX6 128 "RiddleTradeModel" "first" "I") (List.mem_of_getElem? (i := 2) rfl)) (fun _ h9 => h9) rfl dX6_does_39 ?_
      refine lv_aload_n hx hb dX6_does_42 rfl (lv_at hl 0 rfl) ?_
      refine va_get (ci := 6) (C := RX6) (T := TX6) (N := 18) hx hb hts hiX6 hown hK hP 0 rfl rfl 15 (by decide) (hts (.fieldLink RX6 134 "RiddleTradeModel" "second" "I") (List.mem_of_getElem? (i := 3) rfl)) (fun _ h9 => h9) rfl dX6_does_43 ?_
      refine lv_aload_n hx hb dX6_does_46 rfl (lv_at hl 0 rfl) ?_
      refine va_get (ci := 6) (C := RX6) (T := TX6) (N := 18) hx hb hts hiX6 hown hK hP 0 rfl rfl 16 (by decide) (hts (.fieldLink RX6 137 "RiddleTradeModel" "third" "I") (List.mem_of_getElem? (i := 4) rfl)) (fun _ h9 => h9) rfl dX6_does_47 ?_
      refine lv_aload_n hx hb dX6_does_50 rfl (lv_at hl 0 rfl) ?_
      refine va_get (ci := 6) (C := RX6) (T := TX6) (N := 18) hx hb hts hiX6 hown hK hP 0 rfl rfl 17 (by decide) (hts (.fieldLink RX6 140 "RiddleTradeModel" "fourth" "I") (List.mem_of_getElem? (i := 5) rfl)) (fun _ h9 => h9) rfl dX6_does_51 ?_
      obtain ⟨r17, hu18, h⟩ := ob1_el h
      refine kcVi (ci := 6) (q := (RX6, TX6, 18)) (ws1 := (w_X6_does cI cC h0 h_s h_aside h_past h_snapshot h_text m_s m_pasts m_isKept m_length m_hasStop m_stopAt m_stopWhy m_spot m_isWrong m_kind m_first m_second m_third m_fourth)) ⟨hx, hb, hml, hown, hts⟩ [0, 1] [] (c_X6_barDeliver l D cI cC cE h0 h_s h_aside h_past h_snapshot h_text _ m_s m_pasts m_isKept m_length m_hasStop m_stopAt m_stopWhy m_spot m_isWrong m_kind m_first m_second m_third m_fourth m_first m_second m_third m_fourth r17 hu18) (cwV 4 hts gX6_does_X6_barDeliver rfl rfl rfl (by decide +kernel) ⟨Nat.le_of_ble_eq_true rfl, Nat.le_of_ble_eq_true rfl⟩) hK hP hD hS hA rfl rfl rfl rfl rfl rfl rfl rfl rfl hl.1 rfl (Nat.le_of_ble_eq_true rfl) dX6_does_54 ⟨Nat.le_refl 0, Nat.le_refl 0⟩ (fun H locs hP hD hS => ?_)
      refine lv_goto (tgt := 68) hx hb dX6_does_57 (by decide) ?_
      refine lv_istore_n (lv' := [(1, .int r17), (0, .ref h0)]) hx hb dX6_does_68 rfl hl (by decide) rfl (fun ls hl => ?_)
      exact hJ69   r17 m_s _ _ hP hD hS _ (lv_sub hl [1, 0] rfl) h
  · have h := (k_iB h).1 c1
    refine lv_aload_n hx hb dX6_does_9 rfl (lv_at hl 0 rfl) ?_
    refine lv_aload_n hx hb dX6_does_10 rfl (lv_at hl 0 rfl) ?_
    refine va_get (ci := 6) (C := RX6) (T := TX6) (N := 18) hx hb hts hiX6 hown hK hP 0 rfl rfl 14 (by decide) (hts (.fieldLink RX6 128 "RiddleTradeModel" "first" "I") (List.mem_of_getElem? (i := 2) rfl)) (fun _ h9 => h9) rfl dX6_does_11 ?_
    refine lv_aload_n hx hb dX6_does_14 rfl (lv_at hl 0 rfl) ?_
    refine va_get (ci := 6) (C := RX6) (T := TX6) (N := 18) hx hb hts hiX6 hown hK hP 0 rfl rfl 15 (by decide) (hts (.fieldLink RX6 134 "RiddleTradeModel" "second" "I") (List.mem_of_getElem? (i := 3) rfl)) (fun _ h9 => h9) rfl dX6_does_15 ?_
    refine lv_aload_n hx hb dX6_does_18 rfl (lv_at hl 0 rfl) ?_
    refine va_get (ci := 6) (C := RX6) (T := TX6) (N := 18) hx hb hts hiX6 hown hK hP 0 rfl rfl 16 (by decide) (hts (.fieldLink RX6 137 "RiddleTradeModel" "third" "I") (List.mem_of_getElem? (i := 4) rfl)) (fun _ h9 => h9) rfl dX6_does_19 ?_
    obtain ⟨r19, hu20, h⟩ := ob1_el h
    refine kcVi (ci := 6) (q := (RX6, TX6, 18)) (ws1 := (w_X6_does cI cC h0 h_s h_aside h_past h_snapshot h_text m_s m_pasts m_isKept m_length m_hasStop m_stopAt m_stopWhy m_spot m_isWrong m_kind m_first m_second m_third m_fourth)) ⟨hx, hb, hml, hown, hts⟩ [0, 1] [] (c_X6_barAsk l D cI cC cE h0 h_s h_aside h_past h_snapshot h_text _ m_s m_pasts m_isKept m_length m_hasStop m_stopAt m_stopWhy m_spot m_isWrong m_kind m_first m_second m_third m_fourth m_first m_second m_third r19 hu20) (cwV 3 hts gX6_does_X6_barAsk rfl rfl rfl (by decide +kernel) ⟨Nat.le_of_ble_eq_true rfl, Nat.le_of_ble_eq_true rfl⟩) hK hP hD hS hA rfl rfl rfl rfl rfl rfl rfl rfl rfl hl.1 rfl (Nat.le_of_ble_eq_true rfl) dX6_does_22 ⟨Nat.le_refl 0, Nat.le_refl 0⟩ (fun H locs hP hD hS => ?_)
    refine lv_goto (tgt := 68) hx hb dX6_does_25 (by decide) ?_
    refine lv_istore_n (lv' := [(1, .int r19), (0, .ref h0)]) hx hb dX6_does_68 rfl hl (by decide) rfl (fun ls hl => ?_)
    exact hJ69   r19 m_s _ _ hP hD hS _ (lv_sub hl [1, 0] rfl) h
abbrev w_X6_perform (cI cC : ClassId) (h0 h_s h_aside h_past h_snapshot h_text : Nat) (m_s : Nat → Int32) (m_aside : Nat → Int32) (m_past : Nat → Int32) (m_pasts : Int32) (m_isKept : Int32) (m_text : Nat → Int32) (m_length : Int32) (m_hasStop : Int32) (m_stopAt : Int32) (m_stopWhy : Int32) (m_spot : Int32) (m_isWrong : Int32) (m_kind : Int32) (m_first : Int32) (m_second : Int32) (m_third : Int32) (m_fourth : Int32) : va_W := [(h0, .inr (6, [.ref h_s, .ref h_aside, .ref h_past, .int m_pasts, .ref h_snapshot, .int m_isKept, .ref h_text, .int m_length, .int m_hasStop, .int m_stopAt, .int m_stopWhy, .int m_spot, .int m_isWrong, .int m_kind, .int m_first, .int m_second, .int m_third, .int m_fourth])), (h_s, .inl (cI, 490, .inl m_s)), (h_aside, .inl (cI, 490, .inl m_aside)), (h_past, .inl (cI, 1960, .inl m_past)), (h_text, .inl (cC, 60, .inl m_text))]
def lp_X6_perform_102 (m_text : Nat → Int32) (m_length : Int32) : Nat → Int32 → Int32 → (Nat → Int32) → (Nat → Int32) → (Nat → Int32) → Int32 → Int32 → Int32 → Int32 → Int32 → Int32 → Int32 → Int32 → Int32 → Int32 → Int32 → Option (Int32 × (Nat → Int32) × (Nat → Int32) × (Nat → Int32) × Int32 × Int32 × Int32 × Int32 × Int32 × Int32 × Int32 × Int32 × Int32 × Int32 × Int32)
  | 0 => fun _ _ _ _ _ _ _ _ _ _ _ _ _ _ _ _ => none
  | k + 1 => fun x1 x4 m_s m_aside m_past m_pasts m_hasStop m_stopAt m_stopWhy m_spot m_isWrong m_kind m_first m_second m_third m_fourth =>
    if 490 ≤ x4 then (ob2 (d_X6_records m_s m_past m_pasts) fun m_past_16 m_pasts_17 =>
    ob1 (d_X6_putBack m_s m_aside) fun m_s_19 =>
    some (x1, m_s_19, m_aside, m_past_16, m_pasts_17, m_hasStop, m_stopAt, m_stopWhy, m_spot, m_isWrong, m_kind, m_first, m_second, m_third, m_fourth))
    else (ob1 (rd 490 m_s x4) fun v21 =>
    ob1 (rd 490 m_aside x4) fun v22 =>
    ob1 (wr 490 m_s x4 v22) fun m_s_23 =>
    ob1 (wr 490 m_aside x4 v21) fun m_aside_24 =>
    (lp_X6_perform_102  m_text m_length k) x1 (x4 + 1) m_s_23 m_aside_24 m_past m_pasts m_hasStop m_stopAt m_stopWhy m_spot m_isWrong m_kind m_first m_second m_third m_fourth)
def j_X6_perform_73 (m_text : Nat → Int32) (m_length : Int32) (x1 : Int32) (x2 : Int32) (x3 : Int32) (m_s : Nat → Int32) (m_aside : Nat → Int32) (m_past : Nat → Int32) (m_pasts : Int32) (m_hasStop : Int32) (m_stopAt : Int32) (m_stopWhy : Int32) (m_spot : Int32) (m_isWrong : Int32) (m_kind : Int32) (m_first : Int32) (m_second : Int32) (m_third : Int32) (m_fourth : Int32) : Option (Int32 × (Nat → Int32) × (Nat → Int32) × (Nat → Int32) × Int32 × Int32 × Int32 × Int32 × Int32 × Int32 × Int32 × Int32 × Int32 × Int32 × Int32) :=
    if 0 ≤ x2 then (lp_X6_perform_102  m_text m_length fuel x1 0 m_s m_aside m_past m_pasts m_hasStop m_stopAt m_stopWhy m_spot m_isWrong m_kind m_first m_second m_third m_fourth)
    else (ob1 (d_X6_putBack m_s m_aside) fun m_s_25 =>
    some ((-4), m_s_25, m_aside, m_past, m_pasts, 1, x3, x2, m_spot, m_isWrong, m_kind, m_first, m_second, m_third, m_fourth))
def lp_X6_perform_30 (m_text : Nat → Int32) (m_length : Int32) : Nat → Int32 → Int32 → Int32 → (Nat → Int32) → (Nat → Int32) → (Nat → Int32) → Int32 → Int32 → Int32 → Int32 → Int32 → Int32 → Int32 → Int32 → Int32 → Int32 → Int32 → Option (Int32 × (Nat → Int32) × (Nat → Int32) × (Nat → Int32) × Int32 × Int32 × Int32 × Int32 × Int32 × Int32 × Int32 × Int32 × Int32 × Int32 × Int32)
  | 0 => fun _ _ _ _ _ _ _ _ _ _ _ _ _ _ _ _ _ => none
  | k + 1 => fun x1 x2 x3 m_s m_aside m_past m_pasts m_hasStop m_stopAt m_stopWhy m_spot m_isWrong m_kind m_first m_second m_third m_fourth =>
    if x2 = 0 then (if x1 ≤ x3 then (j_X6_perform_73  m_text m_length x1 x2 x3 m_s m_aside m_past m_pasts m_hasStop m_stopAt m_stopWhy m_spot m_isWrong m_kind m_first m_second m_third m_fourth)
    else (ob7 (d_X6_thing m_text m_length m_spot m_isWrong m_kind m_first m_second m_third m_fourth) fun m_spot_28 m_isWrong_29 m_kind_30 m_first_31 m_second_32 m_third_33 m_fourth_34 =>
    ob2 (d_X6_does m_s m_kind_30 m_first_31 m_second_32 m_third_33 m_fourth_34) fun r36 m_s_37 =>
    if r36 = 0 then ((lp_X6_perform_30  m_text m_length k) x1 r36 (x3 + 1) m_s_37 m_aside m_past m_pasts m_hasStop m_stopAt m_stopWhy (m_spot_28 + 1) m_isWrong_29 m_kind_30 m_first_31 m_second_32 m_third_33 m_fourth_34)
    else ((lp_X6_perform_30  m_text m_length k) x1 r36 (x3 + 0) m_s_37 m_aside m_past m_pasts m_hasStop m_stopAt m_stopWhy (m_spot_28 + 1) m_isWrong_29 m_kind_30 m_first_31 m_second_32 m_third_33 m_fourth_34)))
    else (j_X6_perform_73  m_text m_length x1 x2 x3 m_s m_aside m_past m_pasts m_hasStop m_stopAt m_stopWhy m_spot m_isWrong m_kind m_first m_second m_third m_fourth)
def d_X6_perform (m_s : Nat → Int32) (m_aside : Nat → Int32) (m_past : Nat → Int32) (m_pasts : Int32) (m_text : Nat → Int32) (m_length : Int32) (m_hasStop : Int32) (m_stopAt : Int32) (m_stopWhy : Int32) (m_spot : Int32) (m_isWrong : Int32) (m_kind : Int32) (m_first : Int32) (m_second : Int32) (m_third : Int32) (m_fourth : Int32) : Option (Int32 × (Nat → Int32) × (Nat → Int32) × (Nat → Int32) × Int32 × Int32 × Int32 × Int32 × Int32 × Int32 × Int32 × Int32 × Int32 × Int32 × Int32) :=
    ob8 (d_X6_things m_text m_length m_spot m_isWrong m_kind m_first m_second m_third m_fourth) fun r1 m_spot_2 m_isWrong_3 m_kind_4 m_first_5 m_second_6 m_third_7 m_fourth_8 =>
    if 0 ≤ r1 then (ob1 (d_X6_putAside m_s m_aside) fun m_aside_11 =>
    lp_X6_perform_30  m_text m_length fuel r1 0 0 m_s m_aside_11 m_past m_pasts m_hasStop m_stopAt m_stopWhy 0 m_isWrong_3 m_kind_4 m_first_5 m_second_6 m_third_7 m_fourth_8)
    else (some (((-100) - m_spot_2), m_s, m_aside, m_past, m_pasts, m_hasStop, m_stopAt, m_stopWhy, m_spot_2, m_isWrong_3, m_kind_4, m_first_5, m_second_6, m_third_7, m_fourth_8))
set_option maxHeartbeats 4000000 in
set_option maxRecDepth 100000 in
theorem c_X6_perform (l : Launch) (D : va_G) (cI cC cE : ClassId) (h0 h_s h_aside h_past h_snapshot h_text : Nat) (sz : Nat) (m_s : Nat → Int32) (m_aside : Nat → Int32) (m_past : Nat → Int32) (m_pasts : Int32) (m_isKept : Int32) (m_text : Nat → Int32) (m_length : Int32) (m_hasStop : Int32) (m_stopAt : Int32) (m_stopWhy : Int32) (m_spot : Int32) (m_isWrong : Int32) (m_kind : Int32) (m_first : Int32) (m_second : Int32) (m_third : Int32) (m_fourth : Int32) (r0 : Int32) (o_m_s : Nat → Int32) (o_m_aside : Nat → Int32) (o_m_past : Nat → Int32) (o_m_pasts : Int32) (o_m_hasStop : Int32) (o_m_stopAt : Int32) (o_m_stopWhy : Int32) (o_m_spot : Int32) (o_m_isWrong : Int32) (o_m_kind : Int32) (o_m_first : Int32) (o_m_second : Int32) (o_m_third : Int32) (o_m_fourth : Int32) (h : d_X6_perform m_s m_aside m_past m_pasts m_text m_length m_hasStop m_stopAt m_stopWhy m_spot m_isWrong m_kind m_first m_second m_third m_fourth = some (r0, o_m_s, o_m_aside, o_m_past, o_m_pasts, o_m_hasStop, o_m_stopAt, o_m_stopWhy, o_m_spot, o_m_isWrong, o_m_kind, o_m_first, o_m_second, o_m_third, o_m_fourth)) : Met l yX6_perform wsX6_perform ({ frames := 6, cells := 0, slots := 0, locals := 138 } : Room) (kP D (kT cI cC cE) [.ref h0] (w_X6_perform cI cC h0 h_s h_aside h_past h_snapshot h_text m_s m_aside m_past m_pasts m_isKept m_text m_length m_hasStop m_stopAt m_stopWhy m_spot m_isWrong m_kind m_first m_second m_third m_fourth) sz) (kQi D (kT cI cC cE) (w_X6_perform cI cC h0 h_s h_aside h_past h_snapshot h_text m_s m_aside m_past m_pasts m_isKept m_text m_length m_hasStop m_stopAt m_stopWhy m_spot m_isWrong m_kind m_first m_second m_third m_fourth) (w_X6_perform cI cC h0 h_s h_aside h_past h_snapshot h_text o_m_s o_m_aside o_m_past o_m_pasts m_isKept m_text m_length o_m_hasStop o_m_stopAt o_m_stopWhy o_m_spot o_m_isWrong o_m_kind o_m_first o_m_second o_m_third o_m_fourth) sz r0) 0 0 (va_A (w_X6_perform cI cC h0 h_s h_aside h_past h_snapshot h_text m_s m_aside m_past m_pasts m_isKept m_text m_length m_hasStop m_stopAt m_stopWhy m_spot m_isWrong m_kind m_first m_second m_third m_fourth) sz) := by
  refine kMetI (cc := cX6_perform) (maxL := 6) (own := RX6) (by decide) rfl (Nat.le_of_ble_eq_true rfl) rfl ?_
  intro p e s m below meth c A Q hx hb hml hown hts hP hK hD hA hS hname fin ls hl
  have hl : lv_has ls 6 [(0, .ref h0)] := hl
  have hiX6 : ∀ w ∈ u_ws RX6 TX6 18, w ∈ wsX6_perform := by decide +kernel
  have hL102 : ∀ (k : Nat), ∀ (x1 : Int32) (x4 : Int32) (m_s : Nat → Int32) (m_aside : Nat → Int32) (m_past : Nat → Int32) (m_pasts : Int32) (m_hasStop : Int32) (m_stopAt : Int32) (m_stopWhy : Int32) (m_spot : Int32) (m_isWrong : Int32) (m_kind : Int32) (m_first : Int32) (m_second : Int32) (m_third : Int32) (m_fourth : Int32) (H : Heap) (locs : List Loc), va_P D vwCl (w_X6_perform cI cC h0 h_s h_aside h_past h_snapshot h_text m_s m_aside m_past m_pasts m_isKept m_text m_length m_hasStop m_stopAt m_stopWhy m_spot m_isWrong m_kind m_first m_second m_third m_fourth) H → va_D A (w_X6_perform cI cC h0 h_s h_aside h_past h_snapshot h_text m_s m_aside m_past m_pasts m_isKept m_text m_length m_hasStop m_stopAt m_stopWhy m_spot m_isWrong m_kind m_first m_second m_third m_fourth) → va_S A s.heap H locs → ∀ (ls : Array Slot), lv_has ls 6 [(0, .ref h0), (1, .int x1), (4, .int x4)] → lp_X6_perform_102  m_text m_length k x1 x4 m_s m_aside m_past m_pasts m_hasStop m_stopAt m_stopWhy m_spot m_isWrong m_kind m_first m_second m_third m_fourth = some (r0, o_m_s, o_m_aside, o_m_past, o_m_pasts, o_m_hasStop, o_m_stopAt, o_m_stopWhy, o_m_spot, o_m_isWrong, o_m_kind, o_m_first, o_m_second, o_m_third, o_m_fourth) → W p l e ({ frames := 6, cells := 0, slots := 0, locals := 138 } : Room) s m [.ref h0].toArray below meth c H locs 0 0 Q (F0 m 102 ls []) := by
    intro k
    induction k with
    | zero =>
      intro x1 x4 m_s m_aside m_past m_pasts m_hasStop m_stopAt m_stopWhy m_spot m_isWrong m_kind m_first m_second m_third m_fourth H locs hP hD hS ls hl h
      exact k_none h
    | succ k ih =>
      intro x1 x4 m_s m_aside m_past m_pasts m_hasStop m_stopAt m_stopWhy m_spot m_isWrong m_kind m_first m_second m_third m_fourth H locs hP hD hS ls hl h
      dsimp only [lp_X6_perform_102] at h
      refine lv_iload hx hb dX6_perform_102 (lv_at hl 2 rfl) ?_
      refine lv_sipush (v := 490) hx hb dX6_perform_104 (by decide) ?_
      refine lv_icmp_ge (tgt := 148) hx hb dX6_perform_107 (by decide) (fun c15 => ?_) (fun c15 => ?_)
      · have h := (k_iB h).1 c15
        refine lv_aload_n hx hb dX6_perform_148 rfl (lv_at hl 0 rfl) ?_
        obtain ⟨m_past_16, m_pasts_17, hu18, h⟩ := ob2_el h
        refine kcVv (ci := 6) (q := (RX6, TX6, 18)) (ws1 := (w_X6_perform cI cC h0 h_s h_aside h_past h_snapshot h_text m_s m_aside m_past_16 m_pasts_17 m_isKept m_text m_length m_hasStop m_stopAt m_stopWhy m_spot m_isWrong m_kind m_first m_second m_third m_fourth)) ⟨hx, hb, hml, hown, hts⟩ [0, 1, 3] [2, 4] (c_X6_records l D cI cC cE h0 h_s h_aside h_past h_snapshot h_text _ m_s m_past m_pasts m_isKept m_length m_hasStop m_stopAt m_stopWhy m_spot m_isWrong m_kind m_first m_second m_third m_fourth m_past_16 m_pasts_17 hu18) (cwV 0 hts gX6_perform_X6_records rfl rfl rfl (by decide +kernel) ⟨Nat.le_of_ble_eq_true rfl, Nat.le_of_ble_eq_true rfl⟩) hK hP hD hS hA rfl rfl rfl rfl rfl rfl rfl rfl rfl hl.1 rfl (Nat.le_of_ble_eq_true rfl) dX6_perform_149 ⟨Nat.le_refl 0, Nat.le_refl 0⟩ (fun H locs hP hD hS => ?_)
        refine lv_aload_n hx hb dX6_perform_152 rfl (lv_at hl 0 rfl) ?_
        obtain ⟨m_s_19, hu20, h⟩ := ob1_el h
        refine kcVv (ci := 6) (q := (RX6, TX6, 18)) (ws1 := (w_X6_perform cI cC h0 h_s h_aside h_past h_snapshot h_text m_s_19 m_aside m_past_16 m_pasts_17 m_isKept m_text m_length m_hasStop m_stopAt m_stopWhy m_spot m_isWrong m_kind m_first m_second m_third m_fourth)) ⟨hx, hb, hml, hown, hts⟩ [0, 1, 2] [3, 4] (c_X6_putBack l D cI cC cE h0 h_s h_aside h_past h_snapshot h_text _ m_s m_aside m_pasts_17 m_isKept m_length m_hasStop m_stopAt m_stopWhy m_spot m_isWrong m_kind m_first m_second m_third m_fourth m_s_19 hu20) (cwV 0 hts gX6_perform_X6_putBack rfl rfl rfl (by decide +kernel) ⟨Nat.le_of_ble_eq_true rfl, Nat.le_of_ble_eq_true rfl⟩) hK hP hD hS hA rfl rfl rfl rfl rfl rfl rfl rfl rfl hl.1 rfl (Nat.le_of_ble_eq_true rfl) dX6_perform_153 ⟨Nat.le_refl 0, Nat.le_refl 0⟩ (fun H locs hP hD hS => ?_)
        refine lv_iload_n hx hb dX6_perform_156 rfl (lv_at hl 1 rfl) ?_
        obtain ⟨rfl, rfl, rfl, rfl, rfl, rfl, rfl, rfl, rfl, rfl, rfl, rfl, rfl, rfl, rfl⟩ := inj15 (Option.some.inj h)
        exact fin _ _ _ _ dX6_perform_157 hP hD hS
      · have h := (k_iB h).2 c15
        refine lv_aload_n hx hb dX6_perform_110 rfl (lv_at hl 0 rfl) ?_
        refine va_get (ci := 6) (C := RX6) (T := TX6) (N := 18) hx hb hts hiX6 hown hK hP 0 rfl rfl 0 (by decide) (hts (.fieldLink RX6 7 "RiddleTradeModel" "s" "[I") (List.mem_of_getElem? (i := 5) rfl)) (fun _ h9 => h9) rfl dX6_perform_111 ?_
        refine lv_iload hx hb dX6_perform_114 (lv_at hl 2 rfl) ?_
        refine k_iald hx hb hK hP 1 0 rfl rfl h dX6_perform_116 (fun v21 h => ?_)
        refine lv_istore (lv' := [(5, .int v21), (0, .ref h0), (1, .int x1), (4, .int x4)]) hx hb dX6_perform_117 hl (by decide) rfl (fun ls hl => ?_)
        refine lv_aload_n hx hb dX6_perform_119 rfl (lv_at hl 1 rfl) ?_
        refine va_get (ci := 6) (C := RX6) (T := TX6) (N := 18) hx hb hts hiX6 hown hK hP 0 rfl rfl 0 (by decide) (hts (.fieldLink RX6 7 "RiddleTradeModel" "s" "[I") (List.mem_of_getElem? (i := 5) rfl)) (fun _ h9 => h9) rfl dX6_perform_120 ?_
        refine lv_iload hx hb dX6_perform_123 (lv_at hl 3 rfl) ?_
        refine lv_aload_n hx hb dX6_perform_125 rfl (lv_at hl 1 rfl) ?_
        refine va_get (ci := 6) (C := RX6) (T := TX6) (N := 18) hx hb hts hiX6 hown hK hP 0 rfl rfl 1 (by decide) (hts (.fieldLink RX6 13 "RiddleTradeModel" "aside" "[I") (List.mem_of_getElem? (i := 6) rfl)) (fun _ h9 => h9) rfl dX6_perform_126 ?_
        refine lv_iload hx hb dX6_perform_129 (lv_at hl 3 rfl) ?_
        refine k_iald hx hb hK hP 2 0 rfl rfl h dX6_perform_131 (fun v22 h => ?_)
        refine k_iast hx hb hK hP hD hS 1 0 rfl rfl h dX6_perform_132 (fun m_s_23 H locs hP hD hS h => ?_)
        have hP : va_P D vwCl (w_X6_perform cI cC h0 h_s h_aside h_past h_snapshot h_text m_s_23 m_aside m_past m_pasts m_isKept m_text m_length m_hasStop m_stopAt m_stopWhy m_spot m_isWrong m_kind m_first m_second m_third m_fourth) H := hP
        have hD : va_D A (w_X6_perform cI cC h0 h_s h_aside h_past h_snapshot h_text m_s_23 m_aside m_past m_pasts m_isKept m_text m_length m_hasStop m_stopAt m_stopWhy m_spot m_isWrong m_kind m_first m_second m_third m_fourth) := hD
        refine lv_aload_n hx hb dX6_perform_133 rfl (lv_at hl 1 rfl) ?_
        refine va_get (ci := 6) (C := RX6) (T := TX6) (N := 18) hx hb hts hiX6 hown hK hP 0 rfl rfl 1 (by decide) (hts (.fieldLink RX6 13 "RiddleTradeModel" "aside" "[I") (List.mem_of_getElem? (i := 6) rfl)) (fun _ h9 => h9) rfl dX6_perform_134 ?_
        refine lv_iload hx hb dX6_perform_137 (lv_at hl 3 rfl) ?_
        refine lv_iload hx hb dX6_perform_139 (lv_at hl 0 rfl) ?_
        refine k_iast hx hb hK hP hD hS 2 0 rfl rfl h dX6_perform_141 (fun m_aside_24 H locs hP hD hS h => ?_)
        have hP : va_P D vwCl (w_X6_perform cI cC h0 h_s h_aside h_past h_snapshot h_text m_s_23 m_aside_24 m_past m_pasts m_isKept m_text m_length m_hasStop m_stopAt m_stopWhy m_spot m_isWrong m_kind m_first m_second m_third m_fourth) H := hP
        have hD : va_D A (w_X6_perform cI cC h0 h_s h_aside h_past h_snapshot h_text m_s_23 m_aside_24 m_past m_pasts m_isKept m_text m_length m_hasStop m_stopAt m_stopWhy m_spot m_isWrong m_kind m_first m_second m_third m_fourth) := hD
        refine lv_iinc (v := (x4 + 1)) (lv' := [(4, .int (x4 + 1)), (5, .int v21), (0, .ref h0), (1, .int x1)]) hx hb dX6_perform_142 hl (k := 3) rfl rfl (by decide) rfl (fun ls hl => ?_)
        refine lv_goto (tgt := 102) hx hb dX6_perform_145 (by decide) ?_
        exact ih x1 (x4 + 1) m_s_23 m_aside_24 m_past m_pasts m_hasStop m_stopAt m_stopWhy m_spot m_isWrong m_kind m_first m_second m_third m_fourth _ _ hP hD hS _ (lv_sub hl [2, 3, 0] rfl) h
  have hJ73 : ∀ (x1 : Int32) (x2 : Int32) (x3 : Int32) (m_s : Nat → Int32) (m_aside : Nat → Int32) (m_past : Nat → Int32) (m_pasts : Int32) (m_hasStop : Int32) (m_stopAt : Int32) (m_stopWhy : Int32) (m_spot : Int32) (m_isWrong : Int32) (m_kind : Int32) (m_first : Int32) (m_second : Int32) (m_third : Int32) (m_fourth : Int32) (H : Heap) (locs : List Loc), va_P D vwCl (w_X6_perform cI cC h0 h_s h_aside h_past h_snapshot h_text m_s m_aside m_past m_pasts m_isKept m_text m_length m_hasStop m_stopAt m_stopWhy m_spot m_isWrong m_kind m_first m_second m_third m_fourth) H → va_D A (w_X6_perform cI cC h0 h_s h_aside h_past h_snapshot h_text m_s m_aside m_past m_pasts m_isKept m_text m_length m_hasStop m_stopAt m_stopWhy m_spot m_isWrong m_kind m_first m_second m_third m_fourth) → va_S A s.heap H locs → ∀ (ls : Array Slot), lv_has ls 6 [(0, .ref h0), (1, .int x1), (2, .int x2), (3, .int x3)] → j_X6_perform_73  m_text m_length x1 x2 x3 m_s m_aside m_past m_pasts m_hasStop m_stopAt m_stopWhy m_spot m_isWrong m_kind m_first m_second m_third m_fourth = some (r0, o_m_s, o_m_aside, o_m_past, o_m_pasts, o_m_hasStop, o_m_stopAt, o_m_stopWhy, o_m_spot, o_m_isWrong, o_m_kind, o_m_first, o_m_second, o_m_third, o_m_fourth) → W p l e ({ frames := 6, cells := 0, slots := 0, locals := 138 } : Room) s m [.ref h0].toArray below meth c H locs 0 0 Q (F0 m 73 ls []) := by
    intro x1 x2 x3 m_s m_aside m_past m_pasts m_hasStop m_stopAt m_stopWhy m_spot m_isWrong m_kind m_first m_second m_third m_fourth H locs hP hD hS ls hl h
    dsimp only [j_X6_perform_73] at h
    refine lv_iload_n hx hb dX6_perform_73 rfl (lv_at hl 2 rfl) ?_
    refine lv_if_ge (tgt := 99) hx hb dX6_perform_74 (by decide) (fun c14 => ?_) (fun c14 => ?_)
    · have h := (k_iB h).1 c14
      refine lv_iconst (v := 0) hx hb dX6_perform_99 (by decide) ?_
      refine lv_istore (lv' := [(4, .int 0), (0, .ref h0), (1, .int x1), (2, .int x2), (3, .int x3)]) hx hb dX6_perform_100 hl (by decide) rfl (fun ls hl => ?_)
      exact hL102   fuel x1 0 m_s m_aside m_past m_pasts m_hasStop m_stopAt m_stopWhy m_spot m_isWrong m_kind m_first m_second m_third m_fourth _ _ hP hD hS _ (lv_sub hl [1, 2, 0] rfl) h
    · have h := (k_iB h).2 c14
      refine lv_aload_n hx hb dX6_perform_77 rfl (lv_at hl 0 rfl) ?_
      obtain ⟨m_s_25, hu26, h⟩ := ob1_el h
      refine kcVv (ci := 6) (q := (RX6, TX6, 18)) (ws1 := (w_X6_perform cI cC h0 h_s h_aside h_past h_snapshot h_text m_s_25 m_aside m_past m_pasts m_isKept m_text m_length m_hasStop m_stopAt m_stopWhy m_spot m_isWrong m_kind m_first m_second m_third m_fourth)) ⟨hx, hb, hml, hown, hts⟩ [0, 1, 2] [3, 4] (c_X6_putBack l D cI cC cE h0 h_s h_aside h_past h_snapshot h_text _ m_s m_aside m_pasts m_isKept m_length m_hasStop m_stopAt m_stopWhy m_spot m_isWrong m_kind m_first m_second m_third m_fourth m_s_25 hu26) (cwV 0 hts gX6_perform_X6_putBack rfl rfl rfl (by decide +kernel) ⟨Nat.le_of_ble_eq_true rfl, Nat.le_of_ble_eq_true rfl⟩) hK hP hD hS hA rfl rfl rfl rfl rfl rfl rfl rfl rfl hl.1 rfl (Nat.le_of_ble_eq_true rfl) dX6_perform_78 ⟨Nat.le_refl 0, Nat.le_refl 0⟩ (fun H locs hP hD hS => ?_)
      refine lv_aload_n hx hb dX6_perform_81 rfl (lv_at hl 0 rfl) ?_
      refine lv_iconst (v := 1) hx hb dX6_perform_82 (by decide) ?_
      refine va_put (ci := 6) (ty := .boolean) (C := RX6) (T := TX6) (N := 18) hx hb hts hiX6 tyX6 tyX6_ok nmX6 hown hK hP hD hS 0 rfl rfl 8 (by decide) (hts (.fieldLink RX6 158 "RiddleTradeModel" "hasStop" "Z") (List.mem_of_getElem? (i := 2) rfl)) (fun _ h9 => h9) rfl (by decide +kernel) rfl rfl (Nat.le_of_ble_eq_true rfl) dX6_perform_83 (fun H locs hP hD hS => ?_)
      have hP : va_P D vwCl (w_X6_perform cI cC h0 h_s h_aside h_past h_snapshot h_text m_s_25 m_aside m_past m_pasts m_isKept m_text m_length 1 m_stopAt m_stopWhy m_spot m_isWrong m_kind m_first m_second m_third m_fourth) H := hP
      have hD : va_D A (w_X6_perform cI cC h0 h_s h_aside h_past h_snapshot h_text m_s_25 m_aside m_past m_pasts m_isKept m_text m_length 1 m_stopAt m_stopWhy m_spot m_isWrong m_kind m_first m_second m_third m_fourth) := hD
      refine lv_aload_n hx hb dX6_perform_86 rfl (lv_at hl 0 rfl) ?_
      refine lv_iload_n hx hb dX6_perform_87 rfl (lv_at hl 3 rfl) ?_
      refine va_put (ci := 6) (ty := .int) (C := RX6) (T := TX6) (N := 18) hx hb hts hiX6 tyX6 tyX6_ok nmX6 hown hK hP hD hS 0 rfl rfl 9 (by decide) (hts (.fieldLink RX6 161 "RiddleTradeModel" "stopAt" "I") (List.mem_of_getElem? (i := 3) rfl)) (fun _ h9 => h9) rfl (by decide +kernel) rfl rfl (Nat.le_of_ble_eq_true rfl) dX6_perform_88 (fun H locs hP hD hS => ?_)
      have hP : va_P D vwCl (w_X6_perform cI cC h0 h_s h_aside h_past h_snapshot h_text m_s_25 m_aside m_past m_pasts m_isKept m_text m_length 1 x3 m_stopWhy m_spot m_isWrong m_kind m_first m_second m_third m_fourth) H := hP
      have hD : va_D A (w_X6_perform cI cC h0 h_s h_aside h_past h_snapshot h_text m_s_25 m_aside m_past m_pasts m_isKept m_text m_length 1 x3 m_stopWhy m_spot m_isWrong m_kind m_first m_second m_third m_fourth) := hD
      refine lv_aload_n hx hb dX6_perform_91 rfl (lv_at hl 0 rfl) ?_
      refine lv_iload_n hx hb dX6_perform_92 rfl (lv_at hl 2 rfl) ?_
      refine va_put (ci := 6) (ty := .int) (C := RX6) (T := TX6) (N := 18) hx hb hts hiX6 tyX6 tyX6_ok nmX6 hown hK hP hD hS 0 rfl rfl 10 (by decide) (hts (.fieldLink RX6 164 "RiddleTradeModel" "stopWhy" "I") (List.mem_of_getElem? (i := 4) rfl)) (fun _ h9 => h9) rfl (by decide +kernel) rfl rfl (Nat.le_of_ble_eq_true rfl) dX6_perform_93 (fun H locs hP hD hS => ?_)
      have hP : va_P D vwCl (w_X6_perform cI cC h0 h_s h_aside h_past h_snapshot h_text m_s_25 m_aside m_past m_pasts m_isKept m_text m_length 1 x3 x2 m_spot m_isWrong m_kind m_first m_second m_third m_fourth) H := hP
      have hD : va_D A (w_X6_perform cI cC h0 h_s h_aside h_past h_snapshot h_text m_s_25 m_aside m_past m_pasts m_isKept m_text m_length 1 x3 x2 m_spot m_isWrong m_kind m_first m_second m_third m_fourth) := hD
      refine lv_bipush (v := (-4)) hx hb dX6_perform_96 (by decide) ?_
      obtain ⟨rfl, rfl, rfl, rfl, rfl, rfl, rfl, rfl, rfl, rfl, rfl, rfl, rfl, rfl, rfl⟩ := inj15 (Option.some.inj h)
      exact fin _ _ _ _ dX6_perform_98 hP hD hS
  have hL30 : ∀ (k : Nat), ∀ (x1 : Int32) (x2 : Int32) (x3 : Int32) (m_s : Nat → Int32) (m_aside : Nat → Int32) (m_past : Nat → Int32) (m_pasts : Int32) (m_hasStop : Int32) (m_stopAt : Int32) (m_stopWhy : Int32) (m_spot : Int32) (m_isWrong : Int32) (m_kind : Int32) (m_first : Int32) (m_second : Int32) (m_third : Int32) (m_fourth : Int32) (H : Heap) (locs : List Loc), va_P D vwCl (w_X6_perform cI cC h0 h_s h_aside h_past h_snapshot h_text m_s m_aside m_past m_pasts m_isKept m_text m_length m_hasStop m_stopAt m_stopWhy m_spot m_isWrong m_kind m_first m_second m_third m_fourth) H → va_D A (w_X6_perform cI cC h0 h_s h_aside h_past h_snapshot h_text m_s m_aside m_past m_pasts m_isKept m_text m_length m_hasStop m_stopAt m_stopWhy m_spot m_isWrong m_kind m_first m_second m_third m_fourth) → va_S A s.heap H locs → ∀ (ls : Array Slot), lv_has ls 6 [(0, .ref h0), (1, .int x1), (2, .int x2), (3, .int x3)] → lp_X6_perform_30  m_text m_length k x1 x2 x3 m_s m_aside m_past m_pasts m_hasStop m_stopAt m_stopWhy m_spot m_isWrong m_kind m_first m_second m_third m_fourth = some (r0, o_m_s, o_m_aside, o_m_past, o_m_pasts, o_m_hasStop, o_m_stopAt, o_m_stopWhy, o_m_spot, o_m_isWrong, o_m_kind, o_m_first, o_m_second, o_m_third, o_m_fourth) → W p l e ({ frames := 6, cells := 0, slots := 0, locals := 138 } : Room) s m [.ref h0].toArray below meth c H locs 0 0 Q (F0 m 30 ls []) := by
    intro k
    induction k with
    | zero =>
      intro x1 x2 x3 m_s m_aside m_past m_pasts m_hasStop m_stopAt m_stopWhy m_spot m_isWrong m_kind m_first m_second m_third m_fourth H locs hP hD hS ls hl h
      exact k_none h
    | succ k ih =>
      intro x1 x2 x3 m_s m_aside m_past m_pasts m_hasStop m_stopAt m_stopWhy m_spot m_isWrong m_kind m_first m_second m_third m_fourth H locs hP hD hS ls hl h
      dsimp only [lp_X6_perform_30] at h
      refine lv_iload_n hx hb dX6_perform_30 rfl (lv_at hl 2 rfl) ?_
      refine lv_if_ne (tgt := 73) hx hb dX6_perform_31 (by decide) (fun c13 => ?_) (fun c13 => ?_)
      · have h := (k_iB h).2 c13
        exact hJ73   x1 x2 x3 m_s m_aside m_past m_pasts m_hasStop m_stopAt m_stopWhy m_spot m_isWrong m_kind m_first m_second m_third m_fourth _ _ hP hD hS _ (lv_sub hl [0, 1, 2, 3] rfl) h
      · have h := (k_iB h).1 c13
        refine lv_iload_n hx hb dX6_perform_34 rfl (lv_at hl 3 rfl) ?_
        refine lv_iload_n hx hb dX6_perform_35 rfl (lv_at hl 1 rfl) ?_
        refine lv_icmp_ge (tgt := 73) hx hb dX6_perform_36 (by decide) (fun c27 => ?_) (fun c27 => ?_)
        · have h := (k_iB h).1 c27
          exact hJ73   x1 x2 x3 m_s m_aside m_past m_pasts m_hasStop m_stopAt m_stopWhy m_spot m_isWrong m_kind m_first m_second m_third m_fourth _ _ hP hD hS _ (lv_sub hl [0, 1, 2, 3] rfl) h
        · have h := (k_iB h).2 c27
          refine lv_aload_n hx hb dX6_perform_39 rfl (lv_at hl 0 rfl) ?_
          obtain ⟨m_spot_28, m_isWrong_29, m_kind_30, m_first_31, m_second_32, m_third_33, m_fourth_34, hu35, h⟩ := ob7_el h
          refine kcVv (ci := 6) (q := (RX6, TX6, 18)) (ws1 := (w_X6_perform cI cC h0 h_s h_aside h_past h_snapshot h_text m_s m_aside m_past m_pasts m_isKept m_text m_length m_hasStop m_stopAt m_stopWhy m_spot_28 m_isWrong_29 m_kind_30 m_first_31 m_second_32 m_third_33 m_fourth_34)) ⟨hx, hb, hml, hown, hts⟩ [0, 4] [1, 2, 3] (c_X6_thing l D cI cC cE h0 h_s h_aside h_past h_snapshot h_text _ m_pasts m_isKept m_text m_length m_hasStop m_stopAt m_stopWhy m_spot m_isWrong m_kind m_first m_second m_third m_fourth m_spot_28 m_isWrong_29 m_kind_30 m_first_31 m_second_32 m_third_33 m_fourth_34 hu35) (cwV 0 hts gX6_perform_X6_thing rfl rfl rfl (by decide +kernel) ⟨Nat.le_of_ble_eq_true rfl, Nat.le_of_ble_eq_true rfl⟩) hK hP hD hS hA rfl rfl rfl rfl rfl rfl rfl rfl rfl hl.1 rfl (Nat.le_of_ble_eq_true rfl) dX6_perform_40 ⟨Nat.le_refl 0, Nat.le_refl 0⟩ (fun H locs hP hD hS => ?_)
          refine lv_aload_n hx hb dX6_perform_43 rfl (lv_at hl 0 rfl) ?_
          refine lv_dup hx hb dX6_perform_44 rfl ?_
          refine va_get (ci := 6) (C := RX6) (T := TX6) (N := 18) hx hb hts hiX6 hown hK hP 0 rfl rfl 11 (by decide) (hts (.fieldLink RX6 111 "RiddleTradeModel" "spot" "I") (List.mem_of_getElem? (i := 1) rfl)) (fun _ h9 => h9) rfl dX6_perform_45 ?_
          refine lv_iconst (v := 1) hx hb dX6_perform_48 (by decide) ?_
          refine lv_iadd hx hb dX6_perform_49 ?_
          refine va_put (ci := 6) (ty := .int) (C := RX6) (T := TX6) (N := 18) hx hb hts hiX6 tyX6 tyX6_ok nmX6 hown hK hP hD hS 0 rfl rfl 11 (by decide) (hts (.fieldLink RX6 111 "RiddleTradeModel" "spot" "I") (List.mem_of_getElem? (i := 1) rfl)) (fun _ h9 => h9) rfl (by decide +kernel) rfl rfl (Nat.le_of_ble_eq_true rfl) dX6_perform_50 (fun H locs hP hD hS => ?_)
          have hP : va_P D vwCl (w_X6_perform cI cC h0 h_s h_aside h_past h_snapshot h_text m_s m_aside m_past m_pasts m_isKept m_text m_length m_hasStop m_stopAt m_stopWhy (m_spot_28 + 1) m_isWrong_29 m_kind_30 m_first_31 m_second_32 m_third_33 m_fourth_34) H := hP
          have hD : va_D A (w_X6_perform cI cC h0 h_s h_aside h_past h_snapshot h_text m_s m_aside m_past m_pasts m_isKept m_text m_length m_hasStop m_stopAt m_stopWhy (m_spot_28 + 1) m_isWrong_29 m_kind_30 m_first_31 m_second_32 m_third_33 m_fourth_34) := hD
          refine lv_aload_n hx hb dX6_perform_53 rfl (lv_at hl 0 rfl) ?_
          obtain ⟨r36, m_s_37, hu38, h⟩ := ob2_el h
          refine kcVi (ci := 6) (q := (RX6, TX6, 18)) (ws1 := (w_X6_perform cI cC h0 h_s h_aside h_past h_snapshot h_text m_s_37 m_aside m_past m_pasts m_isKept m_text m_length m_hasStop m_stopAt m_stopWhy (m_spot_28 + 1) m_isWrong_29 m_kind_30 m_first_31 m_second_32 m_third_33 m_fourth_34)) ⟨hx, hb, hml, hown, hts⟩ [0, 1] [2, 3, 4] (c_X6_does l D cI cC cE h0 h_s h_aside h_past h_snapshot h_text _ m_s m_pasts m_isKept m_length m_hasStop m_stopAt m_stopWhy (m_spot_28 + 1) m_isWrong_29 m_kind_30 m_first_31 m_second_32 m_third_33 m_fourth_34 r36 m_s_37 hu38) (cwV 0 hts gX6_perform_X6_does rfl rfl rfl (by decide +kernel) ⟨Nat.le_of_ble_eq_true rfl, Nat.le_of_ble_eq_true rfl⟩) hK hP hD hS hA rfl rfl rfl rfl rfl rfl rfl rfl rfl hl.1 rfl (Nat.le_of_ble_eq_true rfl) dX6_perform_54 ⟨Nat.le_refl 0, Nat.le_refl 0⟩ (fun H locs hP hD hS => ?_)
          refine lv_istore_n (lv' := [(2, .int r36), (0, .ref h0), (1, .int x1), (3, .int x3)]) hx hb dX6_perform_57 rfl hl (by decide) rfl (fun ls hl => ?_)
          refine lv_iload_n hx hb dX6_perform_58 rfl (lv_at hl 3 rfl) ?_
          refine lv_iload_n hx hb dX6_perform_59 rfl (lv_at hl 0 rfl) ?_
          refine lv_if_ne (tgt := 67) hx hb dX6_perform_60 (by decide) (fun c39 => ?_) (fun c39 => ?_)
          · have h := (k_iB h).2 c39
            refine lv_iconst (v := 0) hx hb dX6_perform_67 (by decide) ?_
            refine lv_iadd hx hb dX6_perform_68 ?_
            refine lv_istore_n (lv' := [(3, .int (x3 + 0)), (2, .int r36), (0, .ref h0), (1, .int x1)]) hx hb dX6_perform_69 rfl hl (by decide) rfl (fun ls hl => ?_)
            refine lv_goto (tgt := 30) hx hb dX6_perform_70 (by decide) ?_
            exact ih x1 r36 (x3 + 0) m_s_37 m_aside m_past m_pasts m_hasStop m_stopAt m_stopWhy (m_spot_28 + 1) m_isWrong_29 m_kind_30 m_first_31 m_second_32 m_third_33 m_fourth_34 _ _ hP hD hS _ (lv_sub hl [2, 3, 1, 0] rfl) h
          · have h := (k_iB h).1 c39
            refine lv_iconst (v := 1) hx hb dX6_perform_63 (by decide) ?_
            refine lv_goto (tgt := 68) hx hb dX6_perform_64 (by decide) ?_
            refine lv_iadd hx hb dX6_perform_68 ?_
            refine lv_istore_n (lv' := [(3, .int (x3 + 1)), (2, .int r36), (0, .ref h0), (1, .int x1)]) hx hb dX6_perform_69 rfl hl (by decide) rfl (fun ls hl => ?_)
            refine lv_goto (tgt := 30) hx hb dX6_perform_70 (by decide) ?_
            exact ih x1 r36 (x3 + 1) m_s_37 m_aside m_past m_pasts m_hasStop m_stopAt m_stopWhy (m_spot_28 + 1) m_isWrong_29 m_kind_30 m_first_31 m_second_32 m_third_33 m_fourth_34 _ _ hP hD hS _ (lv_sub hl [2, 3, 1, 0] rfl) h
  dsimp only [d_X6_perform] at h
  refine lv_aload_n hx hb dX6_perform_0 rfl (lv_at hl 0 rfl) ?_
  obtain ⟨r1, m_spot_2, m_isWrong_3, m_kind_4, m_first_5, m_second_6, m_third_7, m_fourth_8, hu9, h⟩ := ob8_el h
  refine kcVi (ci := 6) (q := (RX6, TX6, 18)) (ws1 := (w_X6_perform cI cC h0 h_s h_aside h_past h_snapshot h_text m_s m_aside m_past m_pasts m_isKept m_text m_length m_hasStop m_stopAt m_stopWhy m_spot_2 m_isWrong_3 m_kind_4 m_first_5 m_second_6 m_third_7 m_fourth_8)) ⟨hx, hb, hml, hown, hts⟩ [0, 4] [1, 2, 3] (c_X6_things l D cI cC cE h0 h_s h_aside h_past h_snapshot h_text _ m_pasts m_isKept m_text m_length m_hasStop m_stopAt m_stopWhy m_spot m_isWrong m_kind m_first m_second m_third m_fourth r1 m_spot_2 m_isWrong_3 m_kind_4 m_first_5 m_second_6 m_third_7 m_fourth_8 hu9) (cwV 0 hts gX6_perform_X6_things rfl rfl rfl (by decide +kernel) ⟨Nat.le_of_ble_eq_true rfl, Nat.le_of_ble_eq_true rfl⟩) hK hP hD hS hA rfl rfl rfl rfl rfl rfl rfl rfl rfl hl.1 rfl (Nat.le_of_ble_eq_true rfl) dX6_perform_1 ⟨Nat.le_refl 0, Nat.le_refl 0⟩ (fun H locs hP hD hS => ?_)
  refine lv_istore_n (lv' := [(1, .int r1), (0, .ref h0)]) hx hb dX6_perform_4 rfl hl (by decide) rfl (fun ls hl => ?_)
  refine lv_iload_n hx hb dX6_perform_5 rfl (lv_at hl 0 rfl) ?_
  refine lv_if_ge (tgt := 17) hx hb dX6_perform_6 (by decide) (fun c10 => ?_) (fun c10 => ?_)
  · have h := (k_iB h).1 c10
    refine lv_aload_n hx hb dX6_perform_17 rfl (lv_at hl 1 rfl) ?_
    obtain ⟨m_aside_11, hu12, h⟩ := ob1_el h
    refine kcVv (ci := 6) (q := (RX6, TX6, 18)) (ws1 := (w_X6_perform cI cC h0 h_s h_aside h_past h_snapshot h_text m_s m_aside_11 m_past m_pasts m_isKept m_text m_length m_hasStop m_stopAt m_stopWhy m_spot_2 m_isWrong_3 m_kind_4 m_first_5 m_second_6 m_third_7 m_fourth_8)) ⟨hx, hb, hml, hown, hts⟩ [0, 1, 2] [3, 4] (c_X6_putAside l D cI cC cE h0 h_s h_aside h_past h_snapshot h_text _ m_s m_aside m_pasts m_isKept m_length m_hasStop m_stopAt m_stopWhy m_spot_2 m_isWrong_3 m_kind_4 m_first_5 m_second_6 m_third_7 m_fourth_8 m_aside_11 hu12) (cwV 0 hts gX6_perform_X6_putAside rfl rfl rfl (by decide +kernel) ⟨Nat.le_of_ble_eq_true rfl, Nat.le_of_ble_eq_true rfl⟩) hK hP hD hS hA rfl rfl rfl rfl rfl rfl rfl rfl rfl hl.1 rfl (Nat.le_of_ble_eq_true rfl) dX6_perform_18 ⟨Nat.le_refl 0, Nat.le_refl 0⟩ (fun H locs hP hD hS => ?_)
    refine lv_aload_n hx hb dX6_perform_21 rfl (lv_at hl 1 rfl) ?_
    refine lv_iconst (v := 0) hx hb dX6_perform_22 (by decide) ?_
    refine va_put (ci := 6) (ty := .int) (C := RX6) (T := TX6) (N := 18) hx hb hts hiX6 tyX6 tyX6_ok nmX6 hown hK hP hD hS 0 rfl rfl 11 (by decide) (hts (.fieldLink RX6 111 "RiddleTradeModel" "spot" "I") (List.mem_of_getElem? (i := 1) rfl)) (fun _ h9 => h9) rfl (by decide +kernel) rfl rfl (Nat.le_of_ble_eq_true rfl) dX6_perform_23 (fun H locs hP hD hS => ?_)
    have hP : va_P D vwCl (w_X6_perform cI cC h0 h_s h_aside h_past h_snapshot h_text m_s m_aside_11 m_past m_pasts m_isKept m_text m_length m_hasStop m_stopAt m_stopWhy 0 m_isWrong_3 m_kind_4 m_first_5 m_second_6 m_third_7 m_fourth_8) H := hP
    have hD : va_D A (w_X6_perform cI cC h0 h_s h_aside h_past h_snapshot h_text m_s m_aside_11 m_past m_pasts m_isKept m_text m_length m_hasStop m_stopAt m_stopWhy 0 m_isWrong_3 m_kind_4 m_first_5 m_second_6 m_third_7 m_fourth_8) := hD
    refine lv_iconst (v := 0) hx hb dX6_perform_26 (by decide) ?_
    refine lv_istore_n (lv' := [(2, .int 0), (1, .int r1), (0, .ref h0)]) hx hb dX6_perform_27 rfl hl (by decide) rfl (fun ls hl => ?_)
    refine lv_iconst (v := 0) hx hb dX6_perform_28 (by decide) ?_
    refine lv_istore_n (lv' := [(3, .int 0), (2, .int 0), (1, .int r1), (0, .ref h0)]) hx hb dX6_perform_29 rfl hl (by decide) rfl (fun ls hl => ?_)
    exact hL30   fuel r1 0 0 m_s m_aside_11 m_past m_pasts m_hasStop m_stopAt m_stopWhy 0 m_isWrong_3 m_kind_4 m_first_5 m_second_6 m_third_7 m_fourth_8 _ _ hP hD hS _ (lv_sub hl [3, 2, 1, 0] rfl) h
  · have h := (k_iB h).2 c10
    refine lv_bipush (v := (-100)) hx hb dX6_perform_9 (by decide) ?_
    refine lv_aload_n hx hb dX6_perform_11 rfl (lv_at hl 1 rfl) ?_
    refine va_get (ci := 6) (C := RX6) (T := TX6) (N := 18) hx hb hts hiX6 hown hK hP 0 rfl rfl 11 (by decide) (hts (.fieldLink RX6 111 "RiddleTradeModel" "spot" "I") (List.mem_of_getElem? (i := 1) rfl)) (fun _ h9 => h9) rfl dX6_perform_12 ?_
    refine lv_isub hx hb dX6_perform_15 ?_
    obtain ⟨rfl, rfl, rfl, rfl, rfl, rfl, rfl, rfl, rfl, rfl, rfl, rfl, rfl, rfl, rfl⟩ := inj15 (Option.some.inj h)
    exact fin _ _ _ _ dX6_perform_16 hP hD hS
abbrev w_X6_stopped (cI cC : ClassId) (h0 h_s h_aside h_past h_snapshot h_text : Nat) (m_pasts : Int32) (m_isKept : Int32) (m_length : Int32) (m_hasStop : Int32) (m_stopAt : Int32) (m_stopWhy : Int32) (m_spot : Int32) (m_isWrong : Int32) (m_kind : Int32) (m_first : Int32) (m_second : Int32) (m_third : Int32) (m_fourth : Int32) : va_W := [(h0, .inr (6, [.ref h_s, .ref h_aside, .ref h_past, .int m_pasts, .ref h_snapshot, .int m_isKept, .ref h_text, .int m_length, .int m_hasStop, .int m_stopAt, .int m_stopWhy, .int m_spot, .int m_isWrong, .int m_kind, .int m_first, .int m_second, .int m_third, .int m_fourth]))]
def d_X6_stopped (p1 : Int32) (m_hasStop : Int32) (m_stopAt : Int32) (m_stopWhy : Int32) : Int32 :=
    if (d_X6_in p1 0 1) = 0 then ((-2))
    else (if m_hasStop = 0 then ((-5))
    else (if p1 = 0 then (m_stopAt)
    else (m_stopWhy)))
set_option maxHeartbeats 4000000 in
set_option maxRecDepth 100000 in
theorem c_X6_stopped (l : Launch) (D : va_G) (cI cC cE : ClassId) (h0 h_s h_aside h_past h_snapshot h_text : Nat) (sz : Nat) (m_pasts : Int32) (m_isKept : Int32) (m_length : Int32) (m_hasStop : Int32) (m_stopAt : Int32) (m_stopWhy : Int32) (m_spot : Int32) (m_isWrong : Int32) (m_kind : Int32) (m_first : Int32) (m_second : Int32) (m_third : Int32) (m_fourth : Int32) (p1 : Int32) (r0 : Int32) (h : d_X6_stopped p1 m_hasStop m_stopAt m_stopWhy = r0) : Met l yX6_stopped wsX6_stopped ({ frames := 1, cells := 0, slots := 0, locals := 22 } : Room) (kP D (kT cI cC cE) [.ref h0, .int p1] (w_X6_stopped cI cC h0 h_s h_aside h_past h_snapshot h_text m_pasts m_isKept m_length m_hasStop m_stopAt m_stopWhy m_spot m_isWrong m_kind m_first m_second m_third m_fourth) sz) (kQi D (kT cI cC cE) (w_X6_stopped cI cC h0 h_s h_aside h_past h_snapshot h_text m_pasts m_isKept m_length m_hasStop m_stopAt m_stopWhy m_spot m_isWrong m_kind m_first m_second m_third m_fourth) (w_X6_stopped cI cC h0 h_s h_aside h_past h_snapshot h_text m_pasts m_isKept m_length m_hasStop m_stopAt m_stopWhy m_spot m_isWrong m_kind m_first m_second m_third m_fourth) sz r0) 0 0 (va_A (w_X6_stopped cI cC h0 h_s h_aside h_past h_snapshot h_text m_pasts m_isKept m_length m_hasStop m_stopAt m_stopWhy m_spot m_isWrong m_kind m_first m_second m_third m_fourth) sz) := by
  refine kMetI (cc := cX6_stopped) (maxL := 2) (own := RX6) (by decide) rfl (Nat.le_of_ble_eq_true rfl) rfl ?_
  intro p e s m below meth c A Q hx hb hml hown hts hP hK hD hA hS hname fin ls hl
  have hl : lv_has ls 2 [(0, .ref h0), (1, .int p1)] := hl
  have hiX6 : ∀ w ∈ u_ws RX6 TX6 18, w ∈ wsX6_stopped := by decide +kernel
  dsimp only [d_X6_stopped] at h
  refine lv_iload_n hx hb dX6_stopped_0 rfl (lv_at hl 1 rfl) ?_
  refine lv_iconst (v := 0) hx hb dX6_stopped_1 (by decide) ?_
  refine lv_iconst (v := 1) hx hb dX6_stopped_2 (by decide) ?_
  refine kcSi (ws1 := (w_X6_stopped cI cC h0 h_s h_aside h_past h_snapshot h_text m_pasts m_isKept m_length m_hasStop m_stopAt m_stopWhy m_spot m_isWrong m_kind m_first m_second m_third m_fourth)) ⟨hx, hb, hml, hown, hts⟩ [] [0] (c_X6_in l D cI cC cE _ p1 0 1 (d_X6_in p1 0 1) rfl) (va_cwS 3 hts gX6_stopped_X6_in rfl rfl rfl (by decide +kernel) ⟨Nat.le_of_ble_eq_true rfl, Nat.le_of_ble_eq_true rfl⟩) hK hP hD hS hA rfl rfl rfl rfl rfl rfl rfl hl.1 rfl (Nat.le_of_ble_eq_true rfl) dX6_stopped_3 ⟨Nat.le_refl 0, Nat.le_refl 0⟩ (fun H locs hP hD hS => ?_)
  refine lv_if_ne (tgt := 12) hx hb dX6_stopped_6 (by decide) (fun c1 => ?_) (fun c1 => ?_)
  · have h := (k_iB h).2 c1
    refine lv_aload_n hx hb dX6_stopped_12 rfl (lv_at hl 0 rfl) ?_
    refine va_get (ci := 6) (C := RX6) (T := TX6) (N := 18) hx hb hts hiX6 hown hK hP 0 rfl rfl 8 (by decide) (hts (.fieldLink RX6 158 "RiddleTradeModel" "hasStop" "Z") (List.mem_of_getElem? (i := 1) rfl)) (fun _ h9 => h9) rfl dX6_stopped_13 ?_
    refine lv_if_ne (tgt := 24) hx hb dX6_stopped_16 (by decide) (fun c2 => ?_) (fun c2 => ?_)
    · have h := (k_iB h).2 c2
      refine lv_iload_n hx hb dX6_stopped_24 rfl (lv_at hl 1 rfl) ?_
      refine lv_if_ne (tgt := 35) hx hb dX6_stopped_25 (by decide) (fun c3 => ?_) (fun c3 => ?_)
      · have h := (k_iB h).2 c3
        refine lv_aload_n hx hb dX6_stopped_35 rfl (lv_at hl 0 rfl) ?_
        refine va_get (ci := 6) (C := RX6) (T := TX6) (N := 18) hx hb hts hiX6 hown hK hP 0 rfl rfl 10 (by decide) (hts (.fieldLink RX6 164 "RiddleTradeModel" "stopWhy" "I") (List.mem_of_getElem? (i := 3) rfl)) (fun _ h9 => h9) rfl dX6_stopped_36 ?_
        obtain rfl := h
        exact fin _ _ _ _ dX6_stopped_39 hP hD hS
      · have h := (k_iB h).1 c3
        refine lv_aload_n hx hb dX6_stopped_28 rfl (lv_at hl 0 rfl) ?_
        refine va_get (ci := 6) (C := RX6) (T := TX6) (N := 18) hx hb hts hiX6 hown hK hP 0 rfl rfl 9 (by decide) (hts (.fieldLink RX6 161 "RiddleTradeModel" "stopAt" "I") (List.mem_of_getElem? (i := 2) rfl)) (fun _ h9 => h9) rfl dX6_stopped_29 ?_
        refine lv_goto (tgt := 39) hx hb dX6_stopped_32 (by decide) ?_
        obtain rfl := h
        exact fin _ _ _ _ dX6_stopped_39 hP hD hS
    · have h := (k_iB h).1 c2
      refine lv_bipush (v := (-5)) hx hb dX6_stopped_19 (by decide) ?_
      refine lv_goto (tgt := 39) hx hb dX6_stopped_21 (by decide) ?_
      obtain rfl := h
      exact fin _ _ _ _ dX6_stopped_39 hP hD hS
  · have h := (k_iB h).1 c1
    refine lv_bipush (v := (-2)) hx hb dX6_stopped_9 (by decide) ?_
    obtain rfl := h
    exact fin _ _ _ _ dX6_stopped_11 hP hD hS
abbrev w_X6_undo (cI cC : ClassId) (h0 h_s h_aside h_past h_snapshot h_text : Nat) (m_s : Nat → Int32) (m_past : Nat → Int32) (m_pasts : Int32) (m_isKept : Int32) (m_length : Int32) (m_hasStop : Int32) (m_stopAt : Int32) (m_stopWhy : Int32) (m_spot : Int32) (m_isWrong : Int32) (m_kind : Int32) (m_first : Int32) (m_second : Int32) (m_third : Int32) (m_fourth : Int32) : va_W := [(h0, .inr (6, [.ref h_s, .ref h_aside, .ref h_past, .int m_pasts, .ref h_snapshot, .int m_isKept, .ref h_text, .int m_length, .int m_hasStop, .int m_stopAt, .int m_stopWhy, .int m_spot, .int m_isWrong, .int m_kind, .int m_first, .int m_second, .int m_third, .int m_fourth])), (h_s, .inl (cI, 490, .inl m_s)), (h_past, .inl (cI, 1960, .inl m_past))]
def lp_X6_undo_22 (m_past : Nat → Int32) : Nat → Int32 → (Nat → Int32) → Int32 → Option (Int32 × (Nat → Int32) × Int32)
  | 0 => fun _ _ _ => none
  | k + 1 => fun x1 m_s m_pasts =>
    if 490 ≤ x1 then (some (m_pasts, m_s, m_pasts))
    else (ob1 (rd 1960 m_past ((490 * m_pasts) + x1)) fun v3 =>
    ob1 (wr 490 m_s x1 v3) fun m_s_4 =>
    (lp_X6_undo_22  m_past k) (x1 + 1) m_s_4 m_pasts)
def d_X6_undo (m_s : Nat → Int32) (m_past : Nat → Int32) (m_pasts : Int32) : Option (Int32 × (Nat → Int32) × Int32) :=
    if m_pasts = 0 then (some ((-5), m_s, m_pasts))
    else (lp_X6_undo_22  m_past fuel 0 m_s (m_pasts - 1))
set_option maxHeartbeats 4000000 in
set_option maxRecDepth 100000 in
theorem c_X6_undo (l : Launch) (D : va_G) (cI cC cE : ClassId) (h0 h_s h_aside h_past h_snapshot h_text : Nat) (sz : Nat) (m_s : Nat → Int32) (m_past : Nat → Int32) (m_pasts : Int32) (m_isKept : Int32) (m_length : Int32) (m_hasStop : Int32) (m_stopAt : Int32) (m_stopWhy : Int32) (m_spot : Int32) (m_isWrong : Int32) (m_kind : Int32) (m_first : Int32) (m_second : Int32) (m_third : Int32) (m_fourth : Int32) (r0 : Int32) (o_m_s : Nat → Int32) (o_m_pasts : Int32) (h : d_X6_undo m_s m_past m_pasts = some (r0, o_m_s, o_m_pasts)) : Met l yX6_undo wsX6_undo ({ frames := 0, cells := 0, slots := 0, locals := 0 } : Room) (kP D (kT cI cC cE) [.ref h0] (w_X6_undo cI cC h0 h_s h_aside h_past h_snapshot h_text m_s m_past m_pasts m_isKept m_length m_hasStop m_stopAt m_stopWhy m_spot m_isWrong m_kind m_first m_second m_third m_fourth) sz) (kQi D (kT cI cC cE) (w_X6_undo cI cC h0 h_s h_aside h_past h_snapshot h_text m_s m_past m_pasts m_isKept m_length m_hasStop m_stopAt m_stopWhy m_spot m_isWrong m_kind m_first m_second m_third m_fourth) (w_X6_undo cI cC h0 h_s h_aside h_past h_snapshot h_text o_m_s m_past o_m_pasts m_isKept m_length m_hasStop m_stopAt m_stopWhy m_spot m_isWrong m_kind m_first m_second m_third m_fourth) sz r0) 0 0 (va_A (w_X6_undo cI cC h0 h_s h_aside h_past h_snapshot h_text m_s m_past m_pasts m_isKept m_length m_hasStop m_stopAt m_stopWhy m_spot m_isWrong m_kind m_first m_second m_third m_fourth) sz) := by
  refine kMetI (cc := cX6_undo) (maxL := 2) (own := RX6) (by decide) rfl (Nat.le_of_ble_eq_true rfl) rfl ?_
  intro p e s m below meth c A Q hx hb hml hown hts hP hK hD hA hS hname fin ls hl
  have hl : lv_has ls 2 [(0, .ref h0)] := hl
  have hiX6 : ∀ w ∈ u_ws RX6 TX6 18, w ∈ wsX6_undo := by decide +kernel
  have hL22 : ∀ (k : Nat), ∀ (x1 : Int32) (m_s : Nat → Int32) (m_pasts : Int32) (H : Heap) (locs : List Loc), va_P D vwCl (w_X6_undo cI cC h0 h_s h_aside h_past h_snapshot h_text m_s m_past m_pasts m_isKept m_length m_hasStop m_stopAt m_stopWhy m_spot m_isWrong m_kind m_first m_second m_third m_fourth) H → va_D A (w_X6_undo cI cC h0 h_s h_aside h_past h_snapshot h_text m_s m_past m_pasts m_isKept m_length m_hasStop m_stopAt m_stopWhy m_spot m_isWrong m_kind m_first m_second m_third m_fourth) → va_S A s.heap H locs → ∀ (ls : Array Slot), lv_has ls 2 [(0, .ref h0), (1, .int x1)] → lp_X6_undo_22  m_past k x1 m_s m_pasts = some (r0, o_m_s, o_m_pasts) → W p l e ({ frames := 0, cells := 0, slots := 0, locals := 0 } : Room) s m [.ref h0].toArray below meth c H locs 0 0 Q (F0 m 22 ls []) := by
    intro k
    induction k with
    | zero =>
      intro x1 m_s m_pasts H locs hP hD hS ls hl h
      exact k_none h
    | succ k ih =>
      intro x1 m_s m_pasts H locs hP hD hS ls hl h
      dsimp only [lp_X6_undo_22] at h
      refine lv_iload_n hx hb dX6_undo_22 rfl (lv_at hl 1 rfl) ?_
      refine lv_sipush (v := 490) hx hb dX6_undo_23 (by decide) ?_
      refine lv_icmp_ge (tgt := 56) hx hb dX6_undo_26 (by decide) (fun c2 => ?_) (fun c2 => ?_)
      · have h := (k_iB h).1 c2
        refine lv_aload_n hx hb dX6_undo_56 rfl (lv_at hl 0 rfl) ?_
        refine va_get (ci := 6) (C := RX6) (T := TX6) (N := 18) hx hb hts hiX6 hown hK hP 0 rfl rfl 3 (by decide) (hts (.fieldLink RX6 30 "RiddleTradeModel" "pasts" "I") (List.mem_of_getElem? (i := 1) rfl)) (fun _ h9 => h9) rfl dX6_undo_57 ?_
        obtain ⟨rfl, rfl, rfl⟩ := inj3 (Option.some.inj h)
        exact fin _ _ _ _ dX6_undo_60 hP hD hS
      · have h := (k_iB h).2 c2
        refine lv_aload_n hx hb dX6_undo_29 rfl (lv_at hl 0 rfl) ?_
        refine va_get (ci := 6) (C := RX6) (T := TX6) (N := 18) hx hb hts hiX6 hown hK hP 0 rfl rfl 0 (by decide) (hts (.fieldLink RX6 7 "RiddleTradeModel" "s" "[I") (List.mem_of_getElem? (i := 2) rfl)) (fun _ h9 => h9) rfl dX6_undo_30 ?_
        refine lv_iload_n hx hb dX6_undo_33 rfl (lv_at hl 1 rfl) ?_
        refine lv_aload_n hx hb dX6_undo_34 rfl (lv_at hl 0 rfl) ?_
        refine va_get (ci := 6) (C := RX6) (T := TX6) (N := 18) hx hb hts hiX6 hown hK hP 0 rfl rfl 2 (by decide) (hts (.fieldLink RX6 16 "RiddleTradeModel" "past" "[I") (List.mem_of_getElem? (i := 3) rfl)) (fun _ h9 => h9) rfl dX6_undo_35 ?_
        refine lv_sipush (v := 490) hx hb dX6_undo_38 (by decide) ?_
        refine lv_aload_n hx hb dX6_undo_41 rfl (lv_at hl 0 rfl) ?_
        refine va_get (ci := 6) (C := RX6) (T := TX6) (N := 18) hx hb hts hiX6 hown hK hP 0 rfl rfl 3 (by decide) (hts (.fieldLink RX6 30 "RiddleTradeModel" "pasts" "I") (List.mem_of_getElem? (i := 1) rfl)) (fun _ h9 => h9) rfl dX6_undo_42 ?_
        refine lv_imul hx hb dX6_undo_45 ?_
        refine lv_iload_n hx hb dX6_undo_46 rfl (lv_at hl 1 rfl) ?_
        refine lv_iadd hx hb dX6_undo_47 ?_
        refine k_iald hx hb hK hP 2 0 rfl rfl h dX6_undo_48 (fun v3 h => ?_)
        refine k_iast hx hb hK hP hD hS 1 0 rfl rfl h dX6_undo_49 (fun m_s_4 H locs hP hD hS h => ?_)
        have hP : va_P D vwCl (w_X6_undo cI cC h0 h_s h_aside h_past h_snapshot h_text m_s_4 m_past m_pasts m_isKept m_length m_hasStop m_stopAt m_stopWhy m_spot m_isWrong m_kind m_first m_second m_third m_fourth) H := hP
        have hD : va_D A (w_X6_undo cI cC h0 h_s h_aside h_past h_snapshot h_text m_s_4 m_past m_pasts m_isKept m_length m_hasStop m_stopAt m_stopWhy m_spot m_isWrong m_kind m_first m_second m_third m_fourth) := hD
        refine lv_iinc (v := (x1 + 1)) (lv' := [(1, .int (x1 + 1)), (0, .ref h0)]) hx hb dX6_undo_50 hl (k := 1) rfl rfl (by decide) rfl (fun ls hl => ?_)
        refine lv_goto (tgt := 22) hx hb dX6_undo_53 (by decide) ?_
        exact ih (x1 + 1) m_s_4 m_pasts _ _ hP hD hS _ (lv_sub hl [1, 0] rfl) h
  dsimp only [d_X6_undo] at h
  refine lv_aload_n hx hb dX6_undo_0 rfl (lv_at hl 0 rfl) ?_
  refine va_get (ci := 6) (C := RX6) (T := TX6) (N := 18) hx hb hts hiX6 hown hK hP 0 rfl rfl 3 (by decide) (hts (.fieldLink RX6 30 "RiddleTradeModel" "pasts" "I") (List.mem_of_getElem? (i := 1) rfl)) (fun _ h9 => h9) rfl dX6_undo_1 ?_
  refine lv_if_ne (tgt := 10) hx hb dX6_undo_4 (by decide) (fun c1 => ?_) (fun c1 => ?_)
  · have h := (k_iB h).2 c1
    refine lv_aload_n hx hb dX6_undo_10 rfl (lv_at hl 0 rfl) ?_
    refine lv_dup hx hb dX6_undo_11 rfl ?_
    refine va_get (ci := 6) (C := RX6) (T := TX6) (N := 18) hx hb hts hiX6 hown hK hP 0 rfl rfl 3 (by decide) (hts (.fieldLink RX6 30 "RiddleTradeModel" "pasts" "I") (List.mem_of_getElem? (i := 1) rfl)) (fun _ h9 => h9) rfl dX6_undo_12 ?_
    refine lv_iconst (v := 1) hx hb dX6_undo_15 (by decide) ?_
    refine lv_isub hx hb dX6_undo_16 ?_
    refine va_put (ci := 6) (ty := .int) (C := RX6) (T := TX6) (N := 18) hx hb hts hiX6 tyX6 tyX6_ok nmX6 hown hK hP hD hS 0 rfl rfl 3 (by decide) (hts (.fieldLink RX6 30 "RiddleTradeModel" "pasts" "I") (List.mem_of_getElem? (i := 1) rfl)) (fun _ h9 => h9) rfl (by decide +kernel) rfl rfl (Nat.le_of_ble_eq_true rfl) dX6_undo_17 (fun H locs hP hD hS => ?_)
    have hP : va_P D vwCl (w_X6_undo cI cC h0 h_s h_aside h_past h_snapshot h_text m_s m_past (m_pasts - 1) m_isKept m_length m_hasStop m_stopAt m_stopWhy m_spot m_isWrong m_kind m_first m_second m_third m_fourth) H := hP
    have hD : va_D A (w_X6_undo cI cC h0 h_s h_aside h_past h_snapshot h_text m_s m_past (m_pasts - 1) m_isKept m_length m_hasStop m_stopAt m_stopWhy m_spot m_isWrong m_kind m_first m_second m_third m_fourth) := hD
    refine lv_iconst (v := 0) hx hb dX6_undo_20 (by decide) ?_
    refine lv_istore_n (lv' := [(1, .int 0), (0, .ref h0)]) hx hb dX6_undo_21 rfl hl (by decide) rfl (fun ls hl => ?_)
    exact hL22   fuel 0 m_s (m_pasts - 1) _ _ hP hD hS _ (lv_sub hl [1, 0] rfl) h
  · have h := (k_iB h).1 c1
    refine lv_bipush (v := (-5)) hx hb dX6_undo_7 (by decide) ?_
    obtain ⟨rfl, rfl, rfl⟩ := inj3 (Option.some.inj h)
    exact fin _ _ _ _ dX6_undo_9 hP hD hS
abbrev w_X6_keep (cI cC : ClassId) (h0 h_s h_aside h_past h_snapshot h_text : Nat) (m_s : Nat → Int32) (m_pasts : Int32) (m_snapshot : Nat → Int32) (m_isKept : Int32) (m_length : Int32) (m_hasStop : Int32) (m_stopAt : Int32) (m_stopWhy : Int32) (m_spot : Int32) (m_isWrong : Int32) (m_kind : Int32) (m_first : Int32) (m_second : Int32) (m_third : Int32) (m_fourth : Int32) : va_W := [(h0, .inr (6, [.ref h_s, .ref h_aside, .ref h_past, .int m_pasts, .ref h_snapshot, .int m_isKept, .ref h_text, .int m_length, .int m_hasStop, .int m_stopAt, .int m_stopWhy, .int m_spot, .int m_isWrong, .int m_kind, .int m_first, .int m_second, .int m_third, .int m_fourth])), (h_s, .inl (cI, 490, .inl m_s)), (h_snapshot, .inl (cI, 490, .inl m_snapshot))]
def lp_X6_keep_2 (m_s : Nat → Int32) : Nat → Int32 → (Nat → Int32) → Int32 → Option (Int32 × (Nat → Int32) × Int32)
  | 0 => fun _ _ _ => none
  | k + 1 => fun x1 m_snapshot m_isKept =>
    if 490 ≤ x1 then (ob1 (rd 490 m_s 476) fun v2 =>
    some (v2, m_snapshot, 1))
    else (ob1 (rd 490 m_s x1) fun v3 =>
    ob1 (wr 490 m_snapshot x1 v3) fun m_snapshot_4 =>
    (lp_X6_keep_2  m_s k) (x1 + 1) m_snapshot_4 m_isKept)
def d_X6_keep (m_s : Nat → Int32) (m_snapshot : Nat → Int32) (m_isKept : Int32) : Option (Int32 × (Nat → Int32) × Int32) :=
    lp_X6_keep_2  m_s fuel 0 m_snapshot m_isKept
set_option maxHeartbeats 4000000 in
set_option maxRecDepth 100000 in
theorem c_X6_keep (l : Launch) (D : va_G) (cI cC cE : ClassId) (h0 h_s h_aside h_past h_snapshot h_text : Nat) (sz : Nat) (m_s : Nat → Int32) (m_pasts : Int32) (m_snapshot : Nat → Int32) (m_isKept : Int32) (m_length : Int32) (m_hasStop : Int32) (m_stopAt : Int32) (m_stopWhy : Int32) (m_spot : Int32) (m_isWrong : Int32) (m_kind : Int32) (m_first : Int32) (m_second : Int32) (m_third : Int32) (m_fourth : Int32) (r0 : Int32) (o_m_snapshot : Nat → Int32) (o_m_isKept : Int32) (h : d_X6_keep m_s m_snapshot m_isKept = some (r0, o_m_snapshot, o_m_isKept)) : Met l yX6_keep wsX6_keep ({ frames := 0, cells := 0, slots := 0, locals := 0 } : Room) (kP D (kT cI cC cE) [.ref h0] (w_X6_keep cI cC h0 h_s h_aside h_past h_snapshot h_text m_s m_pasts m_snapshot m_isKept m_length m_hasStop m_stopAt m_stopWhy m_spot m_isWrong m_kind m_first m_second m_third m_fourth) sz) (kQi D (kT cI cC cE) (w_X6_keep cI cC h0 h_s h_aside h_past h_snapshot h_text m_s m_pasts m_snapshot m_isKept m_length m_hasStop m_stopAt m_stopWhy m_spot m_isWrong m_kind m_first m_second m_third m_fourth) (w_X6_keep cI cC h0 h_s h_aside h_past h_snapshot h_text m_s m_pasts o_m_snapshot o_m_isKept m_length m_hasStop m_stopAt m_stopWhy m_spot m_isWrong m_kind m_first m_second m_third m_fourth) sz r0) 0 0 (va_A (w_X6_keep cI cC h0 h_s h_aside h_past h_snapshot h_text m_s m_pasts m_snapshot m_isKept m_length m_hasStop m_stopAt m_stopWhy m_spot m_isWrong m_kind m_first m_second m_third m_fourth) sz) := by
  refine kMetI (cc := cX6_keep) (maxL := 2) (own := RX6) (by decide) rfl (Nat.le_of_ble_eq_true rfl) rfl ?_
  intro p e s m below meth c A Q hx hb hml hown hts hP hK hD hA hS hname fin ls hl
  have hl : lv_has ls 2 [(0, .ref h0)] := hl
  have hiX6 : ∀ w ∈ u_ws RX6 TX6 18, w ∈ wsX6_keep := by decide +kernel
  have hL2 : ∀ (k : Nat), ∀ (x1 : Int32) (m_snapshot : Nat → Int32) (m_isKept : Int32) (H : Heap) (locs : List Loc), va_P D vwCl (w_X6_keep cI cC h0 h_s h_aside h_past h_snapshot h_text m_s m_pasts m_snapshot m_isKept m_length m_hasStop m_stopAt m_stopWhy m_spot m_isWrong m_kind m_first m_second m_third m_fourth) H → va_D A (w_X6_keep cI cC h0 h_s h_aside h_past h_snapshot h_text m_s m_pasts m_snapshot m_isKept m_length m_hasStop m_stopAt m_stopWhy m_spot m_isWrong m_kind m_first m_second m_third m_fourth) → va_S A s.heap H locs → ∀ (ls : Array Slot), lv_has ls 2 [(0, .ref h0), (1, .int x1)] → lp_X6_keep_2  m_s k x1 m_snapshot m_isKept = some (r0, o_m_snapshot, o_m_isKept) → W p l e ({ frames := 0, cells := 0, slots := 0, locals := 0 } : Room) s m [.ref h0].toArray below meth c H locs 0 0 Q (F0 m 2 ls []) := by
    intro k
    induction k with
    | zero =>
      intro x1 m_snapshot m_isKept H locs hP hD hS ls hl h
      exact k_none h
    | succ k ih =>
      intro x1 m_snapshot m_isKept H locs hP hD hS ls hl h
      dsimp only [lp_X6_keep_2] at h
      refine lv_iload_n hx hb dX6_keep_2 rfl (lv_at hl 1 rfl) ?_
      refine lv_sipush (v := 490) hx hb dX6_keep_3 (by decide) ?_
      refine lv_icmp_ge (tgt := 27) hx hb dX6_keep_6 (by decide) (fun c1 => ?_) (fun c1 => ?_)
      · have h := (k_iB h).1 c1
        refine lv_aload_n hx hb dX6_keep_27 rfl (lv_at hl 0 rfl) ?_
        refine lv_iconst (v := 1) hx hb dX6_keep_28 (by decide) ?_
        refine va_put (ci := 6) (ty := .boolean) (C := RX6) (T := TX6) (N := 18) hx hb hts hiX6 tyX6 tyX6_ok nmX6 hown hK hP hD hS 0 rfl rfl 5 (by decide) (hts (.fieldLink RX6 167 "RiddleTradeModel" "isKept" "Z") (List.mem_of_getElem? (i := 3) rfl)) (fun _ h9 => h9) rfl (by decide +kernel) rfl rfl (Nat.le_of_ble_eq_true rfl) dX6_keep_29 (fun H locs hP hD hS => ?_)
        have hP : va_P D vwCl (w_X6_keep cI cC h0 h_s h_aside h_past h_snapshot h_text m_s m_pasts m_snapshot 1 m_length m_hasStop m_stopAt m_stopWhy m_spot m_isWrong m_kind m_first m_second m_third m_fourth) H := hP
        have hD : va_D A (w_X6_keep cI cC h0 h_s h_aside h_past h_snapshot h_text m_s m_pasts m_snapshot 1 m_length m_hasStop m_stopAt m_stopWhy m_spot m_isWrong m_kind m_first m_second m_third m_fourth) := hD
        refine lv_aload_n hx hb dX6_keep_32 rfl (lv_at hl 0 rfl) ?_
        refine va_get (ci := 6) (C := RX6) (T := TX6) (N := 18) hx hb hts hiX6 hown hK hP 0 rfl rfl 0 (by decide) (hts (.fieldLink RX6 7 "RiddleTradeModel" "s" "[I") (List.mem_of_getElem? (i := 2) rfl)) (fun _ h9 => h9) rfl dX6_keep_33 ?_
        refine lv_sipush (v := 476) hx hb dX6_keep_36 (by decide) ?_
        refine k_iald hx hb hK hP 1 0 rfl rfl h dX6_keep_39 (fun v2 h => ?_)
        obtain ⟨rfl, rfl, rfl⟩ := inj3 (Option.some.inj h)
        exact fin _ _ _ _ dX6_keep_40 hP hD hS
      · have h := (k_iB h).2 c1
        refine lv_aload_n hx hb dX6_keep_9 rfl (lv_at hl 0 rfl) ?_
        refine va_get (ci := 6) (C := RX6) (T := TX6) (N := 18) hx hb hts hiX6 hown hK hP 0 rfl rfl 4 (by decide) (hts (.fieldLink RX6 19 "RiddleTradeModel" "snapshot" "[I") (List.mem_of_getElem? (i := 1) rfl)) (fun _ h9 => h9) rfl dX6_keep_10 ?_
        refine lv_iload_n hx hb dX6_keep_13 rfl (lv_at hl 1 rfl) ?_
        refine lv_aload_n hx hb dX6_keep_14 rfl (lv_at hl 0 rfl) ?_
        refine va_get (ci := 6) (C := RX6) (T := TX6) (N := 18) hx hb hts hiX6 hown hK hP 0 rfl rfl 0 (by decide) (hts (.fieldLink RX6 7 "RiddleTradeModel" "s" "[I") (List.mem_of_getElem? (i := 2) rfl)) (fun _ h9 => h9) rfl dX6_keep_15 ?_
        refine lv_iload_n hx hb dX6_keep_18 rfl (lv_at hl 1 rfl) ?_
        refine k_iald hx hb hK hP 1 0 rfl rfl h dX6_keep_19 (fun v3 h => ?_)
        refine k_iast hx hb hK hP hD hS 2 0 rfl rfl h dX6_keep_20 (fun m_snapshot_4 H locs hP hD hS h => ?_)
        have hP : va_P D vwCl (w_X6_keep cI cC h0 h_s h_aside h_past h_snapshot h_text m_s m_pasts m_snapshot_4 m_isKept m_length m_hasStop m_stopAt m_stopWhy m_spot m_isWrong m_kind m_first m_second m_third m_fourth) H := hP
        have hD : va_D A (w_X6_keep cI cC h0 h_s h_aside h_past h_snapshot h_text m_s m_pasts m_snapshot_4 m_isKept m_length m_hasStop m_stopAt m_stopWhy m_spot m_isWrong m_kind m_first m_second m_third m_fourth) := hD
        refine lv_iinc (v := (x1 + 1)) (lv' := [(1, .int (x1 + 1)), (0, .ref h0)]) hx hb dX6_keep_21 hl (k := 1) rfl rfl (by decide) rfl (fun ls hl => ?_)
        refine lv_goto (tgt := 2) hx hb dX6_keep_24 (by decide) ?_
        exact ih (x1 + 1) m_snapshot_4 m_isKept _ _ hP hD hS _ (lv_sub hl [1, 0] rfl) h
  dsimp only [d_X6_keep] at h
  refine lv_iconst (v := 0) hx hb dX6_keep_0 (by decide) ?_
  refine lv_istore_n (lv' := [(1, .int 0), (0, .ref h0)]) hx hb dX6_keep_1 rfl hl (by decide) rfl (fun ls hl => ?_)
  exact hL2   fuel 0 m_snapshot m_isKept _ _ hP hD hS _ (lv_sub hl [1, 0] rfl) h
abbrev w_X6_restore (cI cC : ClassId) (h0 h_s h_aside h_past h_snapshot h_text : Nat) (m_s : Nat → Int32) (m_past : Nat → Int32) (m_pasts : Int32) (m_snapshot : Nat → Int32) (m_isKept : Int32) (m_length : Int32) (m_hasStop : Int32) (m_stopAt : Int32) (m_stopWhy : Int32) (m_spot : Int32) (m_isWrong : Int32) (m_kind : Int32) (m_first : Int32) (m_second : Int32) (m_third : Int32) (m_fourth : Int32) : va_W := [(h0, .inr (6, [.ref h_s, .ref h_aside, .ref h_past, .int m_pasts, .ref h_snapshot, .int m_isKept, .ref h_text, .int m_length, .int m_hasStop, .int m_stopAt, .int m_stopWhy, .int m_spot, .int m_isWrong, .int m_kind, .int m_first, .int m_second, .int m_third, .int m_fourth])), (h_s, .inl (cI, 490, .inl m_s)), (h_past, .inl (cI, 1960, .inl m_past)), (h_snapshot, .inl (cI, 490, .inl m_snapshot))]
def lp_X6_restore_16 (m_snapshot : Nat → Int32) (m_isKept : Int32) : Nat → Int32 → (Nat → Int32) → (Nat → Int32) → Int32 → Option (Int32 × (Nat → Int32) × (Nat → Int32) × Int32)
  | 0 => fun _ _ _ _ => none
  | k + 1 => fun x1 m_s m_past m_pasts =>
    if 490 ≤ x1 then (ob1 (rd 490 m_s 476) fun v6 =>
    some (v6, m_s, m_past, m_pasts))
    else (ob1 (rd 490 m_snapshot x1) fun v7 =>
    ob1 (wr 490 m_s x1 v7) fun m_s_8 =>
    (lp_X6_restore_16  m_snapshot m_isKept k) (x1 + 1) m_s_8 m_past m_pasts)
def d_X6_restore (m_s : Nat → Int32) (m_past : Nat → Int32) (m_pasts : Int32) (m_snapshot : Nat → Int32) (m_isKept : Int32) : Option (Int32 × (Nat → Int32) × (Nat → Int32) × Int32) :=
    if m_isKept = 0 then (some ((-5), m_s, m_past, m_pasts))
    else (ob2 (d_X6_records m_s m_past m_pasts) fun m_past_2 m_pasts_3 =>
    lp_X6_restore_16  m_snapshot m_isKept fuel 0 m_s m_past_2 m_pasts_3)
set_option maxHeartbeats 4000000 in
set_option maxRecDepth 100000 in
theorem c_X6_restore (l : Launch) (D : va_G) (cI cC cE : ClassId) (h0 h_s h_aside h_past h_snapshot h_text : Nat) (sz : Nat) (m_s : Nat → Int32) (m_past : Nat → Int32) (m_pasts : Int32) (m_snapshot : Nat → Int32) (m_isKept : Int32) (m_length : Int32) (m_hasStop : Int32) (m_stopAt : Int32) (m_stopWhy : Int32) (m_spot : Int32) (m_isWrong : Int32) (m_kind : Int32) (m_first : Int32) (m_second : Int32) (m_third : Int32) (m_fourth : Int32) (r0 : Int32) (o_m_s : Nat → Int32) (o_m_past : Nat → Int32) (o_m_pasts : Int32) (h : d_X6_restore m_s m_past m_pasts m_snapshot m_isKept = some (r0, o_m_s, o_m_past, o_m_pasts)) : Met l yX6_restore wsX6_restore ({ frames := 1, cells := 0, slots := 0, locals := 21 } : Room) (kP D (kT cI cC cE) [.ref h0] (w_X6_restore cI cC h0 h_s h_aside h_past h_snapshot h_text m_s m_past m_pasts m_snapshot m_isKept m_length m_hasStop m_stopAt m_stopWhy m_spot m_isWrong m_kind m_first m_second m_third m_fourth) sz) (kQi D (kT cI cC cE) (w_X6_restore cI cC h0 h_s h_aside h_past h_snapshot h_text m_s m_past m_pasts m_snapshot m_isKept m_length m_hasStop m_stopAt m_stopWhy m_spot m_isWrong m_kind m_first m_second m_third m_fourth) (w_X6_restore cI cC h0 h_s h_aside h_past h_snapshot h_text o_m_s o_m_past o_m_pasts m_snapshot m_isKept m_length m_hasStop m_stopAt m_stopWhy m_spot m_isWrong m_kind m_first m_second m_third m_fourth) sz r0) 0 0 (va_A (w_X6_restore cI cC h0 h_s h_aside h_past h_snapshot h_text m_s m_past m_pasts m_snapshot m_isKept m_length m_hasStop m_stopAt m_stopWhy m_spot m_isWrong m_kind m_first m_second m_third m_fourth) sz) := by
  refine kMetI (cc := cX6_restore) (maxL := 2) (own := RX6) (by decide) rfl (Nat.le_of_ble_eq_true rfl) rfl ?_
  intro p e s m below meth c A Q hx hb hml hown hts hP hK hD hA hS hname fin ls hl
  have hl : lv_has ls 2 [(0, .ref h0)] := hl
  have hiX6 : ∀ w ∈ u_ws RX6 TX6 18, w ∈ wsX6_restore := by decide +kernel
  have hL16 : ∀ (k : Nat), ∀ (x1 : Int32) (m_s : Nat → Int32) (m_past : Nat → Int32) (m_pasts : Int32) (H : Heap) (locs : List Loc), va_P D vwCl (w_X6_restore cI cC h0 h_s h_aside h_past h_snapshot h_text m_s m_past m_pasts m_snapshot m_isKept m_length m_hasStop m_stopAt m_stopWhy m_spot m_isWrong m_kind m_first m_second m_third m_fourth) H → va_D A (w_X6_restore cI cC h0 h_s h_aside h_past h_snapshot h_text m_s m_past m_pasts m_snapshot m_isKept m_length m_hasStop m_stopAt m_stopWhy m_spot m_isWrong m_kind m_first m_second m_third m_fourth) → va_S A s.heap H locs → ∀ (ls : Array Slot), lv_has ls 2 [(0, .ref h0), (1, .int x1)] → lp_X6_restore_16  m_snapshot m_isKept k x1 m_s m_past m_pasts = some (r0, o_m_s, o_m_past, o_m_pasts) → W p l e ({ frames := 1, cells := 0, slots := 0, locals := 21 } : Room) s m [.ref h0].toArray below meth c H locs 0 0 Q (F0 m 16 ls []) := by
    intro k
    induction k with
    | zero =>
      intro x1 m_s m_past m_pasts H locs hP hD hS ls hl h
      exact k_none h
    | succ k ih =>
      intro x1 m_s m_past m_pasts H locs hP hD hS ls hl h
      dsimp only [lp_X6_restore_16] at h
      refine lv_iload_n hx hb dX6_restore_16 rfl (lv_at hl 1 rfl) ?_
      refine lv_sipush (v := 490) hx hb dX6_restore_17 (by decide) ?_
      refine lv_icmp_ge (tgt := 41) hx hb dX6_restore_20 (by decide) (fun c5 => ?_) (fun c5 => ?_)
      · have h := (k_iB h).1 c5
        refine lv_aload_n hx hb dX6_restore_41 rfl (lv_at hl 0 rfl) ?_
        refine va_get (ci := 6) (C := RX6) (T := TX6) (N := 18) hx hb hts hiX6 hown hK hP 0 rfl rfl 0 (by decide) (hts (.fieldLink RX6 7 "RiddleTradeModel" "s" "[I") (List.mem_of_getElem? (i := 2) rfl)) (fun _ h9 => h9) rfl dX6_restore_42 ?_
        refine lv_sipush (v := 476) hx hb dX6_restore_45 (by decide) ?_
        refine k_iald hx hb hK hP 1 0 rfl rfl h dX6_restore_48 (fun v6 h => ?_)
        obtain ⟨rfl, rfl, rfl, rfl⟩ := inj4 (Option.some.inj h)
        exact fin _ _ _ _ dX6_restore_49 hP hD hS
      · have h := (k_iB h).2 c5
        refine lv_aload_n hx hb dX6_restore_23 rfl (lv_at hl 0 rfl) ?_
        refine va_get (ci := 6) (C := RX6) (T := TX6) (N := 18) hx hb hts hiX6 hown hK hP 0 rfl rfl 0 (by decide) (hts (.fieldLink RX6 7 "RiddleTradeModel" "s" "[I") (List.mem_of_getElem? (i := 2) rfl)) (fun _ h9 => h9) rfl dX6_restore_24 ?_
        refine lv_iload_n hx hb dX6_restore_27 rfl (lv_at hl 1 rfl) ?_
        refine lv_aload_n hx hb dX6_restore_28 rfl (lv_at hl 0 rfl) ?_
        refine va_get (ci := 6) (C := RX6) (T := TX6) (N := 18) hx hb hts hiX6 hown hK hP 0 rfl rfl 4 (by decide) (hts (.fieldLink RX6 19 "RiddleTradeModel" "snapshot" "[I") (List.mem_of_getElem? (i := 3) rfl)) (fun _ h9 => h9) rfl dX6_restore_29 ?_
        refine lv_iload_n hx hb dX6_restore_32 rfl (lv_at hl 1 rfl) ?_
        refine k_iald hx hb hK hP 3 0 rfl rfl h dX6_restore_33 (fun v7 h => ?_)
        refine k_iast hx hb hK hP hD hS 1 0 rfl rfl h dX6_restore_34 (fun m_s_8 H locs hP hD hS h => ?_)
        have hP : va_P D vwCl (w_X6_restore cI cC h0 h_s h_aside h_past h_snapshot h_text m_s_8 m_past m_pasts m_snapshot m_isKept m_length m_hasStop m_stopAt m_stopWhy m_spot m_isWrong m_kind m_first m_second m_third m_fourth) H := hP
        have hD : va_D A (w_X6_restore cI cC h0 h_s h_aside h_past h_snapshot h_text m_s_8 m_past m_pasts m_snapshot m_isKept m_length m_hasStop m_stopAt m_stopWhy m_spot m_isWrong m_kind m_first m_second m_third m_fourth) := hD
        refine lv_iinc (v := (x1 + 1)) (lv' := [(1, .int (x1 + 1)), (0, .ref h0)]) hx hb dX6_restore_35 hl (k := 1) rfl rfl (by decide) rfl (fun ls hl => ?_)
        refine lv_goto (tgt := 16) hx hb dX6_restore_38 (by decide) ?_
        exact ih (x1 + 1) m_s_8 m_past m_pasts _ _ hP hD hS _ (lv_sub hl [1, 0] rfl) h
  dsimp only [d_X6_restore] at h
  refine lv_aload_n hx hb dX6_restore_0 rfl (lv_at hl 0 rfl) ?_
  refine va_get (ci := 6) (C := RX6) (T := TX6) (N := 18) hx hb hts hiX6 hown hK hP 0 rfl rfl 5 (by decide) (hts (.fieldLink RX6 167 "RiddleTradeModel" "isKept" "Z") (List.mem_of_getElem? (i := 1) rfl)) (fun _ h9 => h9) rfl dX6_restore_1 ?_
  refine lv_if_ne (tgt := 10) hx hb dX6_restore_4 (by decide) (fun c1 => ?_) (fun c1 => ?_)
  · have h := (k_iB h).2 c1
    refine lv_aload_n hx hb dX6_restore_10 rfl (lv_at hl 0 rfl) ?_
    obtain ⟨m_past_2, m_pasts_3, hu4, h⟩ := ob2_el h
    refine kcVv (ci := 6) (q := (RX6, TX6, 18)) (ws1 := (w_X6_restore cI cC h0 h_s h_aside h_past h_snapshot h_text m_s m_past_2 m_pasts_3 m_snapshot m_isKept m_length m_hasStop m_stopAt m_stopWhy m_spot m_isWrong m_kind m_first m_second m_third m_fourth)) ⟨hx, hb, hml, hown, hts⟩ [0, 1, 2] [3] (c_X6_records l D cI cC cE h0 h_s h_aside h_past h_snapshot h_text _ m_s m_past m_pasts m_isKept m_length m_hasStop m_stopAt m_stopWhy m_spot m_isWrong m_kind m_first m_second m_third m_fourth m_past_2 m_pasts_3 hu4) (cwV 0 hts gX6_restore_X6_records rfl rfl rfl (by decide +kernel) ⟨Nat.le_of_ble_eq_true rfl, Nat.le_of_ble_eq_true rfl⟩) hK hP hD hS hA rfl rfl rfl rfl rfl rfl rfl rfl rfl hl.1 rfl (Nat.le_of_ble_eq_true rfl) dX6_restore_11 ⟨Nat.le_refl 0, Nat.le_refl 0⟩ (fun H locs hP hD hS => ?_)
    refine lv_iconst (v := 0) hx hb dX6_restore_14 (by decide) ?_
    refine lv_istore_n (lv' := [(1, .int 0), (0, .ref h0)]) hx hb dX6_restore_15 rfl hl (by decide) rfl (fun ls hl => ?_)
    exact hL16   fuel 0 m_s m_past_2 m_pasts_3 _ _ hP hD hS _ (lv_sub hl [1, 0] rfl) h
  · have h := (k_iB h).1 c1
    refine lv_bipush (v := (-5)) hx hb dX6_restore_7 (by decide) ?_
    obtain ⟨rfl, rfl, rfl, rfl⟩ := inj4 (Option.some.inj h)
    exact fin _ _ _ _ dX6_restore_9 hP hD hS
abbrev w_X6_riddlesOf (cI cC : ClassId) (h0 h_s h_aside h_past h_snapshot h_text : Nat) (m_s : Nat → Int32) (m_pasts : Int32) (m_isKept : Int32) (m_length : Int32) (m_hasStop : Int32) (m_stopAt : Int32) (m_stopWhy : Int32) (m_spot : Int32) (m_isWrong : Int32) (m_kind : Int32) (m_first : Int32) (m_second : Int32) (m_third : Int32) (m_fourth : Int32) : va_W := [(h0, .inr (6, [.ref h_s, .ref h_aside, .ref h_past, .int m_pasts, .ref h_snapshot, .int m_isKept, .ref h_text, .int m_length, .int m_hasStop, .int m_stopAt, .int m_stopWhy, .int m_spot, .int m_isWrong, .int m_kind, .int m_first, .int m_second, .int m_third, .int m_fourth])), (h_s, .inl (cI, 490, .inl m_s))]
def lp_X6_riddlesOf_5 (m_s : Nat → Int32) (p1 : Int32) (p2 : Int32) : Nat → Int32 → Int32 → Option (Int32)
  | 0 => fun _ _ => none
  | k + 1 => fun x3 x4 =>
    ob1 (rd 490 m_s 483) fun v1 =>
    if v1 ≤ x4 then (some x3)
    else (ob1 (rd 490 m_s (d_X6_ofR x4 0)) fun v3 =>
    if v3 = p1 then (if p2 < 0 then ((lp_X6_riddlesOf_5  m_s p1 p2 k) (x3 + 1) (x4 + 1))
    else (ob1 (rd 490 m_s (d_X6_ofR x4 3)) fun v6 =>
    if v6 = p2 then ((lp_X6_riddlesOf_5  m_s p1 p2 k) (x3 + 1) (x4 + 1))
    else ((lp_X6_riddlesOf_5  m_s p1 p2 k) (x3 + 0) (x4 + 1))))
    else ((lp_X6_riddlesOf_5  m_s p1 p2 k) (x3 + 0) (x4 + 1)))
def d_X6_riddlesOf (p1 : Int32) (p2 : Int32) (m_s : Nat → Int32) : Option (Int32) :=
    lp_X6_riddlesOf_5  m_s p1 p2 fuel 0 0
set_option maxHeartbeats 4000000 in
set_option maxRecDepth 100000 in
theorem c_X6_riddlesOf (l : Launch) (D : va_G) (cI cC cE : ClassId) (h0 h_s h_aside h_past h_snapshot h_text : Nat) (sz : Nat) (m_s : Nat → Int32) (m_pasts : Int32) (m_isKept : Int32) (m_length : Int32) (m_hasStop : Int32) (m_stopAt : Int32) (m_stopWhy : Int32) (m_spot : Int32) (m_isWrong : Int32) (m_kind : Int32) (m_first : Int32) (m_second : Int32) (m_third : Int32) (m_fourth : Int32) (p1 : Int32) (p2 : Int32) (r0 : Int32) (h : d_X6_riddlesOf p1 p2 m_s = some r0) : Met l yX6_riddlesOf wsX6_riddlesOf ({ frames := 1, cells := 0, slots := 0, locals := 21 } : Room) (kP D (kT cI cC cE) [.ref h0, .int p1, .int p2] (w_X6_riddlesOf cI cC h0 h_s h_aside h_past h_snapshot h_text m_s m_pasts m_isKept m_length m_hasStop m_stopAt m_stopWhy m_spot m_isWrong m_kind m_first m_second m_third m_fourth) sz) (kQi D (kT cI cC cE) (w_X6_riddlesOf cI cC h0 h_s h_aside h_past h_snapshot h_text m_s m_pasts m_isKept m_length m_hasStop m_stopAt m_stopWhy m_spot m_isWrong m_kind m_first m_second m_third m_fourth) (w_X6_riddlesOf cI cC h0 h_s h_aside h_past h_snapshot h_text m_s m_pasts m_isKept m_length m_hasStop m_stopAt m_stopWhy m_spot m_isWrong m_kind m_first m_second m_third m_fourth) sz r0) 0 0 (va_A (w_X6_riddlesOf cI cC h0 h_s h_aside h_past h_snapshot h_text m_s m_pasts m_isKept m_length m_hasStop m_stopAt m_stopWhy m_spot m_isWrong m_kind m_first m_second m_third m_fourth) sz) := by
  refine kMetI (cc := cX6_riddlesOf) (maxL := 5) (own := RX6) (by decide) rfl (Nat.le_of_ble_eq_true rfl) rfl ?_
  intro p e s m below meth c A Q hx hb hml hown hts hP hK hD hA hS hname fin ls hl
  have hl : lv_has ls 5 [(0, .ref h0), (1, .int p1), (2, .int p2)] := hl
  have hiX6 : ∀ w ∈ u_ws RX6 TX6 18, w ∈ wsX6_riddlesOf := by decide +kernel
  have hL5 : ∀ (k : Nat), ∀ (x3 : Int32) (x4 : Int32) (H : Heap) (locs : List Loc), va_P D vwCl (w_X6_riddlesOf cI cC h0 h_s h_aside h_past h_snapshot h_text m_s m_pasts m_isKept m_length m_hasStop m_stopAt m_stopWhy m_spot m_isWrong m_kind m_first m_second m_third m_fourth) H → va_D A (w_X6_riddlesOf cI cC h0 h_s h_aside h_past h_snapshot h_text m_s m_pasts m_isKept m_length m_hasStop m_stopAt m_stopWhy m_spot m_isWrong m_kind m_first m_second m_third m_fourth) → va_S A s.heap H locs → ∀ (ls : Array Slot), lv_has ls 5 [(0, .ref h0), (1, .int p1), (2, .int p2), (3, .int x3), (4, .int x4)] → lp_X6_riddlesOf_5  m_s p1 p2 k x3 x4 = some r0 → W p l e ({ frames := 1, cells := 0, slots := 0, locals := 21 } : Room) s m [.ref h0, .int p1, .int p2].toArray below meth c H locs 0 0 Q (F0 m 5 ls []) := by
    intro k
    induction k with
    | zero =>
      intro x3 x4 H locs hP hD hS ls hl h
      exact k_none h
    | succ k ih =>
      intro x3 x4 H locs hP hD hS ls hl h
      dsimp only [lp_X6_riddlesOf_5] at h
      refine lv_iload hx hb dX6_riddlesOf_5 (lv_at hl 4 rfl) ?_
      refine lv_aload_n hx hb dX6_riddlesOf_7 rfl (lv_at hl 0 rfl) ?_
      refine va_get (ci := 6) (C := RX6) (T := TX6) (N := 18) hx hb hts hiX6 hown hK hP 0 rfl rfl 0 (by decide) (hts (.fieldLink RX6 7 "RiddleTradeModel" "s" "[I") (List.mem_of_getElem? (i := 1) rfl)) (fun _ h9 => h9) rfl dX6_riddlesOf_8 ?_
      refine lv_sipush (v := 483) hx hb dX6_riddlesOf_11 (by decide) ?_
      refine k_iald hx hb hK hP 1 0 rfl rfl h dX6_riddlesOf_14 (fun v1 h => ?_)
      refine lv_icmp_ge (tgt := 66) hx hb dX6_riddlesOf_15 (by decide) (fun c2 => ?_) (fun c2 => ?_)
      · have h := (k_iB h).1 c2
        refine lv_iload_n hx hb dX6_riddlesOf_66 rfl (lv_at hl 3 rfl) ?_
        obtain rfl := Option.some.inj h
        exact fin _ _ _ _ dX6_riddlesOf_67 hP hD hS
      · have h := (k_iB h).2 c2
        refine lv_iload_n hx hb dX6_riddlesOf_18 rfl (lv_at hl 3 rfl) ?_
        refine lv_aload_n hx hb dX6_riddlesOf_19 rfl (lv_at hl 0 rfl) ?_
        refine va_get (ci := 6) (C := RX6) (T := TX6) (N := 18) hx hb hts hiX6 hown hK hP 0 rfl rfl 0 (by decide) (hts (.fieldLink RX6 7 "RiddleTradeModel" "s" "[I") (List.mem_of_getElem? (i := 1) rfl)) (fun _ h9 => h9) rfl dX6_riddlesOf_20 ?_
        refine lv_iload hx hb dX6_riddlesOf_23 (lv_at hl 4 rfl) ?_
        refine lv_iconst (v := 0) hx hb dX6_riddlesOf_25 (by decide) ?_
        refine kcSi (ws1 := (w_X6_riddlesOf cI cC h0 h_s h_aside h_past h_snapshot h_text m_s m_pasts m_isKept m_length m_hasStop m_stopAt m_stopWhy m_spot m_isWrong m_kind m_first m_second m_third m_fourth)) ⟨hx, hb, hml, hown, hts⟩ [] [0, 1] (c_X6_ofR l D cI cC cE _ x4 0 (d_X6_ofR x4 0) rfl) (va_cwS 2 hts gX6_riddlesOf_X6_ofR rfl rfl rfl (by decide +kernel) ⟨Nat.le_of_ble_eq_true rfl, Nat.le_of_ble_eq_true rfl⟩) hK hP hD hS hA rfl rfl rfl rfl rfl rfl rfl hl.1 rfl (Nat.le_of_ble_eq_true rfl) dX6_riddlesOf_26 ⟨Nat.le_refl 0, Nat.le_refl 0⟩ (fun H locs hP hD hS => ?_)
        refine k_iald hx hb hK hP 1 0 rfl rfl h dX6_riddlesOf_29 (fun v3 h => ?_)
        refine lv_iload_n hx hb dX6_riddlesOf_30 rfl (lv_at hl 1 rfl) ?_
        refine lv_icmp_ne (tgt := 57) hx hb dX6_riddlesOf_31 (by decide) (fun c4 => ?_) (fun c4 => ?_)
        · have h := (k_iB h).2 c4
          refine lv_iconst (v := 0) hx hb dX6_riddlesOf_57 (by decide) ?_
          refine lv_iadd hx hb dX6_riddlesOf_58 ?_
          refine lv_istore_n (lv' := [(3, .int (x3 + 0)), (0, .ref h0), (1, .int p1), (2, .int p2), (4, .int x4)]) hx hb dX6_riddlesOf_59 rfl hl (by decide) rfl (fun ls hl => ?_)
          refine lv_iinc (v := (x4 + 1)) (lv' := [(4, .int (x4 + 1)), (3, .int (x3 + 0)), (0, .ref h0), (1, .int p1), (2, .int p2)]) hx hb dX6_riddlesOf_60 hl (k := 4) rfl rfl (by decide) rfl (fun ls hl => ?_)
          refine lv_goto (tgt := 5) hx hb dX6_riddlesOf_63 (by decide) ?_
          exact ih (x3 + 0) (x4 + 1) _ _ hP hD hS _ (lv_sub hl [2, 3, 4, 1, 0] rfl) h
        · have h := (k_iB h).1 c4
          refine lv_iload_n hx hb dX6_riddlesOf_34 rfl (lv_at hl 2 rfl) ?_
          refine lv_if_lt (tgt := 53) hx hb dX6_riddlesOf_35 (by decide) (fun c5 => ?_) (fun c5 => ?_)
          · have h := (k_iB h).1 c5
            refine lv_iconst (v := 1) hx hb dX6_riddlesOf_53 (by decide) ?_
            refine lv_goto (tgt := 58) hx hb dX6_riddlesOf_54 (by decide) ?_
            refine lv_iadd hx hb dX6_riddlesOf_58 ?_
            refine lv_istore_n (lv' := [(3, .int (x3 + 1)), (0, .ref h0), (1, .int p1), (2, .int p2), (4, .int x4)]) hx hb dX6_riddlesOf_59 rfl hl (by decide) rfl (fun ls hl => ?_)
            refine lv_iinc (v := (x4 + 1)) (lv' := [(4, .int (x4 + 1)), (3, .int (x3 + 1)), (0, .ref h0), (1, .int p1), (2, .int p2)]) hx hb dX6_riddlesOf_60 hl (k := 4) rfl rfl (by decide) rfl (fun ls hl => ?_)
            refine lv_goto (tgt := 5) hx hb dX6_riddlesOf_63 (by decide) ?_
            exact ih (x3 + 1) (x4 + 1) _ _ hP hD hS _ (lv_sub hl [2, 3, 4, 1, 0] rfl) h
          · have h := (k_iB h).2 c5
            refine lv_aload_n hx hb dX6_riddlesOf_38 rfl (lv_at hl 0 rfl) ?_
            refine va_get (ci := 6) (C := RX6) (T := TX6) (N := 18) hx hb hts hiX6 hown hK hP 0 rfl rfl 0 (by decide) (hts (.fieldLink RX6 7 "RiddleTradeModel" "s" "[I") (List.mem_of_getElem? (i := 1) rfl)) (fun _ h9 => h9) rfl dX6_riddlesOf_39 ?_
            refine lv_iload hx hb dX6_riddlesOf_42 (lv_at hl 4 rfl) ?_
            refine lv_iconst (v := 3) hx hb dX6_riddlesOf_44 (by decide) ?_
            refine kcSi (ws1 := (w_X6_riddlesOf cI cC h0 h_s h_aside h_past h_snapshot h_text m_s m_pasts m_isKept m_length m_hasStop m_stopAt m_stopWhy m_spot m_isWrong m_kind m_first m_second m_third m_fourth)) ⟨hx, hb, hml, hown, hts⟩ [] [0, 1] (c_X6_ofR l D cI cC cE _ x4 3 (d_X6_ofR x4 3) rfl) (va_cwS 2 hts gX6_riddlesOf_X6_ofR rfl rfl rfl (by decide +kernel) ⟨Nat.le_of_ble_eq_true rfl, Nat.le_of_ble_eq_true rfl⟩) hK hP hD hS hA rfl rfl rfl rfl rfl rfl rfl hl.1 rfl (Nat.le_of_ble_eq_true rfl) dX6_riddlesOf_45 ⟨Nat.le_refl 0, Nat.le_refl 0⟩ (fun H locs hP hD hS => ?_)
            refine k_iald hx hb hK hP 1 0 rfl rfl h dX6_riddlesOf_48 (fun v6 h => ?_)
            refine lv_iload_n hx hb dX6_riddlesOf_49 rfl (lv_at hl 2 rfl) ?_
            refine lv_icmp_ne (tgt := 57) hx hb dX6_riddlesOf_50 (by decide) (fun c7 => ?_) (fun c7 => ?_)
            · have h := (k_iB h).2 c7
              refine lv_iconst (v := 0) hx hb dX6_riddlesOf_57 (by decide) ?_
              refine lv_iadd hx hb dX6_riddlesOf_58 ?_
              refine lv_istore_n (lv' := [(3, .int (x3 + 0)), (0, .ref h0), (1, .int p1), (2, .int p2), (4, .int x4)]) hx hb dX6_riddlesOf_59 rfl hl (by decide) rfl (fun ls hl => ?_)
              refine lv_iinc (v := (x4 + 1)) (lv' := [(4, .int (x4 + 1)), (3, .int (x3 + 0)), (0, .ref h0), (1, .int p1), (2, .int p2)]) hx hb dX6_riddlesOf_60 hl (k := 4) rfl rfl (by decide) rfl (fun ls hl => ?_)
              refine lv_goto (tgt := 5) hx hb dX6_riddlesOf_63 (by decide) ?_
              exact ih (x3 + 0) (x4 + 1) _ _ hP hD hS _ (lv_sub hl [2, 3, 4, 1, 0] rfl) h
            · have h := (k_iB h).1 c7
              refine lv_iconst (v := 1) hx hb dX6_riddlesOf_53 (by decide) ?_
              refine lv_goto (tgt := 58) hx hb dX6_riddlesOf_54 (by decide) ?_
              refine lv_iadd hx hb dX6_riddlesOf_58 ?_
              refine lv_istore_n (lv' := [(3, .int (x3 + 1)), (0, .ref h0), (1, .int p1), (2, .int p2), (4, .int x4)]) hx hb dX6_riddlesOf_59 rfl hl (by decide) rfl (fun ls hl => ?_)
              refine lv_iinc (v := (x4 + 1)) (lv' := [(4, .int (x4 + 1)), (3, .int (x3 + 1)), (0, .ref h0), (1, .int p1), (2, .int p2)]) hx hb dX6_riddlesOf_60 hl (k := 4) rfl rfl (by decide) rfl (fun ls hl => ?_)
              refine lv_goto (tgt := 5) hx hb dX6_riddlesOf_63 (by decide) ?_
              exact ih (x3 + 1) (x4 + 1) _ _ hP hD hS _ (lv_sub hl [2, 3, 4, 1, 0] rfl) h
  dsimp only [d_X6_riddlesOf] at h
  refine lv_iconst (v := 0) hx hb dX6_riddlesOf_0 (by decide) ?_
  refine lv_istore_n (lv' := [(3, .int 0), (0, .ref h0), (1, .int p1), (2, .int p2)]) hx hb dX6_riddlesOf_1 rfl hl (by decide) rfl (fun ls hl => ?_)
  refine lv_iconst (v := 0) hx hb dX6_riddlesOf_2 (by decide) ?_
  refine lv_istore (lv' := [(4, .int 0), (3, .int 0), (0, .ref h0), (1, .int p1), (2, .int p2)]) hx hb dX6_riddlesOf_3 hl (by decide) rfl (fun ls hl => ?_)
  exact hL5   fuel 0 0 _ _ hP hD hS _ (lv_sub hl [2, 3, 4, 1, 0] rfl) h
abbrev w_X6_answersOf (cI cC : ClassId) (h0 h_s h_aside h_past h_snapshot h_text : Nat) (m_s : Nat → Int32) (m_pasts : Int32) (m_isKept : Int32) (m_length : Int32) (m_hasStop : Int32) (m_stopAt : Int32) (m_stopWhy : Int32) (m_spot : Int32) (m_isWrong : Int32) (m_kind : Int32) (m_first : Int32) (m_second : Int32) (m_third : Int32) (m_fourth : Int32) : va_W := [(h0, .inr (6, [.ref h_s, .ref h_aside, .ref h_past, .int m_pasts, .ref h_snapshot, .int m_isKept, .ref h_text, .int m_length, .int m_hasStop, .int m_stopAt, .int m_stopWhy, .int m_spot, .int m_isWrong, .int m_kind, .int m_first, .int m_second, .int m_third, .int m_fourth])), (h_s, .inl (cI, 490, .inl m_s))]
def lp_X6_answersOf_5 (m_s : Nat → Int32) (p1 : Int32) (p2 : Int32) : Nat → Int32 → Int32 → Option (Int32)
  | 0 => fun _ _ => none
  | k + 1 => fun x3 x4 =>
    ob1 (rd 490 m_s 484) fun v1 =>
    if v1 ≤ x4 then (some x3)
    else (ob1 (rd 490 m_s (d_X6_ofA x4 0)) fun v3 =>
    if v3 = p1 then (if p2 < 0 then ((lp_X6_answersOf_5  m_s p1 p2 k) (x3 + 1) (x4 + 1))
    else (ob1 (rd 490 m_s (d_X6_ofA x4 4)) fun v6 =>
    if v6 = p2 then ((lp_X6_answersOf_5  m_s p1 p2 k) (x3 + 1) (x4 + 1))
    else ((lp_X6_answersOf_5  m_s p1 p2 k) (x3 + 0) (x4 + 1))))
    else ((lp_X6_answersOf_5  m_s p1 p2 k) (x3 + 0) (x4 + 1)))
def d_X6_answersOf (p1 : Int32) (p2 : Int32) (m_s : Nat → Int32) : Option (Int32) :=
    lp_X6_answersOf_5  m_s p1 p2 fuel 0 0
set_option maxHeartbeats 4000000 in
set_option maxRecDepth 100000 in
theorem c_X6_answersOf (l : Launch) (D : va_G) (cI cC cE : ClassId) (h0 h_s h_aside h_past h_snapshot h_text : Nat) (sz : Nat) (m_s : Nat → Int32) (m_pasts : Int32) (m_isKept : Int32) (m_length : Int32) (m_hasStop : Int32) (m_stopAt : Int32) (m_stopWhy : Int32) (m_spot : Int32) (m_isWrong : Int32) (m_kind : Int32) (m_first : Int32) (m_second : Int32) (m_third : Int32) (m_fourth : Int32) (p1 : Int32) (p2 : Int32) (r0 : Int32) (h : d_X6_answersOf p1 p2 m_s = some r0) : Met l yX6_answersOf wsX6_answersOf ({ frames := 1, cells := 0, slots := 0, locals := 21 } : Room) (kP D (kT cI cC cE) [.ref h0, .int p1, .int p2] (w_X6_answersOf cI cC h0 h_s h_aside h_past h_snapshot h_text m_s m_pasts m_isKept m_length m_hasStop m_stopAt m_stopWhy m_spot m_isWrong m_kind m_first m_second m_third m_fourth) sz) (kQi D (kT cI cC cE) (w_X6_answersOf cI cC h0 h_s h_aside h_past h_snapshot h_text m_s m_pasts m_isKept m_length m_hasStop m_stopAt m_stopWhy m_spot m_isWrong m_kind m_first m_second m_third m_fourth) (w_X6_answersOf cI cC h0 h_s h_aside h_past h_snapshot h_text m_s m_pasts m_isKept m_length m_hasStop m_stopAt m_stopWhy m_spot m_isWrong m_kind m_first m_second m_third m_fourth) sz r0) 0 0 (va_A (w_X6_answersOf cI cC h0 h_s h_aside h_past h_snapshot h_text m_s m_pasts m_isKept m_length m_hasStop m_stopAt m_stopWhy m_spot m_isWrong m_kind m_first m_second m_third m_fourth) sz) := by
  refine kMetI (cc := cX6_answersOf) (maxL := 5) (own := RX6) (by decide) rfl (Nat.le_of_ble_eq_true rfl) rfl ?_
  intro p e s m below meth c A Q hx hb hml hown hts hP hK hD hA hS hname fin ls hl
  have hl : lv_has ls 5 [(0, .ref h0), (1, .int p1), (2, .int p2)] := hl
  have hiX6 : ∀ w ∈ u_ws RX6 TX6 18, w ∈ wsX6_answersOf := by decide +kernel
  have hL5 : ∀ (k : Nat), ∀ (x3 : Int32) (x4 : Int32) (H : Heap) (locs : List Loc), va_P D vwCl (w_X6_answersOf cI cC h0 h_s h_aside h_past h_snapshot h_text m_s m_pasts m_isKept m_length m_hasStop m_stopAt m_stopWhy m_spot m_isWrong m_kind m_first m_second m_third m_fourth) H → va_D A (w_X6_answersOf cI cC h0 h_s h_aside h_past h_snapshot h_text m_s m_pasts m_isKept m_length m_hasStop m_stopAt m_stopWhy m_spot m_isWrong m_kind m_first m_second m_third m_fourth) → va_S A s.heap H locs → ∀ (ls : Array Slot), lv_has ls 5 [(0, .ref h0), (1, .int p1), (2, .int p2), (3, .int x3), (4, .int x4)] → lp_X6_answersOf_5  m_s p1 p2 k x3 x4 = some r0 → W p l e ({ frames := 1, cells := 0, slots := 0, locals := 21 } : Room) s m [.ref h0, .int p1, .int p2].toArray below meth c H locs 0 0 Q (F0 m 5 ls []) := by
    intro k
    induction k with
    | zero =>
      intro x3 x4 H locs hP hD hS ls hl h
      exact k_none h
    | succ k ih =>
      intro x3 x4 H locs hP hD hS ls hl h
      dsimp only [lp_X6_answersOf_5] at h
      refine lv_iload hx hb dX6_answersOf_5 (lv_at hl 4 rfl) ?_
      refine lv_aload_n hx hb dX6_answersOf_7 rfl (lv_at hl 0 rfl) ?_
      refine va_get (ci := 6) (C := RX6) (T := TX6) (N := 18) hx hb hts hiX6 hown hK hP 0 rfl rfl 0 (by decide) (hts (.fieldLink RX6 7 "RiddleTradeModel" "s" "[I") (List.mem_of_getElem? (i := 1) rfl)) (fun _ h9 => h9) rfl dX6_answersOf_8 ?_
      refine lv_sipush (v := 484) hx hb dX6_answersOf_11 (by decide) ?_
      refine k_iald hx hb hK hP 1 0 rfl rfl h dX6_answersOf_14 (fun v1 h => ?_)
      refine lv_icmp_ge (tgt := 66) hx hb dX6_answersOf_15 (by decide) (fun c2 => ?_) (fun c2 => ?_)
      · have h := (k_iB h).1 c2
        refine lv_iload_n hx hb dX6_answersOf_66 rfl (lv_at hl 3 rfl) ?_
        obtain rfl := Option.some.inj h
        exact fin _ _ _ _ dX6_answersOf_67 hP hD hS
      · have h := (k_iB h).2 c2
        refine lv_iload_n hx hb dX6_answersOf_18 rfl (lv_at hl 3 rfl) ?_
        refine lv_aload_n hx hb dX6_answersOf_19 rfl (lv_at hl 0 rfl) ?_
        refine va_get (ci := 6) (C := RX6) (T := TX6) (N := 18) hx hb hts hiX6 hown hK hP 0 rfl rfl 0 (by decide) (hts (.fieldLink RX6 7 "RiddleTradeModel" "s" "[I") (List.mem_of_getElem? (i := 1) rfl)) (fun _ h9 => h9) rfl dX6_answersOf_20 ?_
        refine lv_iload hx hb dX6_answersOf_23 (lv_at hl 4 rfl) ?_
        refine lv_iconst (v := 0) hx hb dX6_answersOf_25 (by decide) ?_
        refine kcSi (ws1 := (w_X6_answersOf cI cC h0 h_s h_aside h_past h_snapshot h_text m_s m_pasts m_isKept m_length m_hasStop m_stopAt m_stopWhy m_spot m_isWrong m_kind m_first m_second m_third m_fourth)) ⟨hx, hb, hml, hown, hts⟩ [] [0, 1] (c_X6_ofA l D cI cC cE _ x4 0 (d_X6_ofA x4 0) rfl) (va_cwS 2 hts gX6_answersOf_X6_ofA rfl rfl rfl (by decide +kernel) ⟨Nat.le_of_ble_eq_true rfl, Nat.le_of_ble_eq_true rfl⟩) hK hP hD hS hA rfl rfl rfl rfl rfl rfl rfl hl.1 rfl (Nat.le_of_ble_eq_true rfl) dX6_answersOf_26 ⟨Nat.le_refl 0, Nat.le_refl 0⟩ (fun H locs hP hD hS => ?_)
        refine k_iald hx hb hK hP 1 0 rfl rfl h dX6_answersOf_29 (fun v3 h => ?_)
        refine lv_iload_n hx hb dX6_answersOf_30 rfl (lv_at hl 1 rfl) ?_
        refine lv_icmp_ne (tgt := 57) hx hb dX6_answersOf_31 (by decide) (fun c4 => ?_) (fun c4 => ?_)
        · have h := (k_iB h).2 c4
          refine lv_iconst (v := 0) hx hb dX6_answersOf_57 (by decide) ?_
          refine lv_iadd hx hb dX6_answersOf_58 ?_
          refine lv_istore_n (lv' := [(3, .int (x3 + 0)), (0, .ref h0), (1, .int p1), (2, .int p2), (4, .int x4)]) hx hb dX6_answersOf_59 rfl hl (by decide) rfl (fun ls hl => ?_)
          refine lv_iinc (v := (x4 + 1)) (lv' := [(4, .int (x4 + 1)), (3, .int (x3 + 0)), (0, .ref h0), (1, .int p1), (2, .int p2)]) hx hb dX6_answersOf_60 hl (k := 4) rfl rfl (by decide) rfl (fun ls hl => ?_)
          refine lv_goto (tgt := 5) hx hb dX6_answersOf_63 (by decide) ?_
          exact ih (x3 + 0) (x4 + 1) _ _ hP hD hS _ (lv_sub hl [2, 3, 4, 1, 0] rfl) h
        · have h := (k_iB h).1 c4
          refine lv_iload_n hx hb dX6_answersOf_34 rfl (lv_at hl 2 rfl) ?_
          refine lv_if_lt (tgt := 53) hx hb dX6_answersOf_35 (by decide) (fun c5 => ?_) (fun c5 => ?_)
          · have h := (k_iB h).1 c5
            refine lv_iconst (v := 1) hx hb dX6_answersOf_53 (by decide) ?_
            refine lv_goto (tgt := 58) hx hb dX6_answersOf_54 (by decide) ?_
            refine lv_iadd hx hb dX6_answersOf_58 ?_
            refine lv_istore_n (lv' := [(3, .int (x3 + 1)), (0, .ref h0), (1, .int p1), (2, .int p2), (4, .int x4)]) hx hb dX6_answersOf_59 rfl hl (by decide) rfl (fun ls hl => ?_)
            refine lv_iinc (v := (x4 + 1)) (lv' := [(4, .int (x4 + 1)), (3, .int (x3 + 1)), (0, .ref h0), (1, .int p1), (2, .int p2)]) hx hb dX6_answersOf_60 hl (k := 4) rfl rfl (by decide) rfl (fun ls hl => ?_)
            refine lv_goto (tgt := 5) hx hb dX6_answersOf_63 (by decide) ?_
            exact ih (x3 + 1) (x4 + 1) _ _ hP hD hS _ (lv_sub hl [2, 3, 4, 1, 0] rfl) h
          · have h := (k_iB h).2 c5
            refine lv_aload_n hx hb dX6_answersOf_38 rfl (lv_at hl 0 rfl) ?_
            refine va_get (ci := 6) (C := RX6) (T := TX6) (N := 18) hx hb hts hiX6 hown hK hP 0 rfl rfl 0 (by decide) (hts (.fieldLink RX6 7 "RiddleTradeModel" "s" "[I") (List.mem_of_getElem? (i := 1) rfl)) (fun _ h9 => h9) rfl dX6_answersOf_39 ?_
            refine lv_iload hx hb dX6_answersOf_42 (lv_at hl 4 rfl) ?_
            refine lv_iconst (v := 4) hx hb dX6_answersOf_44 (by decide) ?_
            refine kcSi (ws1 := (w_X6_answersOf cI cC h0 h_s h_aside h_past h_snapshot h_text m_s m_pasts m_isKept m_length m_hasStop m_stopAt m_stopWhy m_spot m_isWrong m_kind m_first m_second m_third m_fourth)) ⟨hx, hb, hml, hown, hts⟩ [] [0, 1] (c_X6_ofA l D cI cC cE _ x4 4 (d_X6_ofA x4 4) rfl) (va_cwS 2 hts gX6_answersOf_X6_ofA rfl rfl rfl (by decide +kernel) ⟨Nat.le_of_ble_eq_true rfl, Nat.le_of_ble_eq_true rfl⟩) hK hP hD hS hA rfl rfl rfl rfl rfl rfl rfl hl.1 rfl (Nat.le_of_ble_eq_true rfl) dX6_answersOf_45 ⟨Nat.le_refl 0, Nat.le_refl 0⟩ (fun H locs hP hD hS => ?_)
            refine k_iald hx hb hK hP 1 0 rfl rfl h dX6_answersOf_48 (fun v6 h => ?_)
            refine lv_iload_n hx hb dX6_answersOf_49 rfl (lv_at hl 2 rfl) ?_
            refine lv_icmp_ne (tgt := 57) hx hb dX6_answersOf_50 (by decide) (fun c7 => ?_) (fun c7 => ?_)
            · have h := (k_iB h).2 c7
              refine lv_iconst (v := 0) hx hb dX6_answersOf_57 (by decide) ?_
              refine lv_iadd hx hb dX6_answersOf_58 ?_
              refine lv_istore_n (lv' := [(3, .int (x3 + 0)), (0, .ref h0), (1, .int p1), (2, .int p2), (4, .int x4)]) hx hb dX6_answersOf_59 rfl hl (by decide) rfl (fun ls hl => ?_)
              refine lv_iinc (v := (x4 + 1)) (lv' := [(4, .int (x4 + 1)), (3, .int (x3 + 0)), (0, .ref h0), (1, .int p1), (2, .int p2)]) hx hb dX6_answersOf_60 hl (k := 4) rfl rfl (by decide) rfl (fun ls hl => ?_)
              refine lv_goto (tgt := 5) hx hb dX6_answersOf_63 (by decide) ?_
              exact ih (x3 + 0) (x4 + 1) _ _ hP hD hS _ (lv_sub hl [2, 3, 4, 1, 0] rfl) h
            · have h := (k_iB h).1 c7
              refine lv_iconst (v := 1) hx hb dX6_answersOf_53 (by decide) ?_
              refine lv_goto (tgt := 58) hx hb dX6_answersOf_54 (by decide) ?_
              refine lv_iadd hx hb dX6_answersOf_58 ?_
              refine lv_istore_n (lv' := [(3, .int (x3 + 1)), (0, .ref h0), (1, .int p1), (2, .int p2), (4, .int x4)]) hx hb dX6_answersOf_59 rfl hl (by decide) rfl (fun ls hl => ?_)
              refine lv_iinc (v := (x4 + 1)) (lv' := [(4, .int (x4 + 1)), (3, .int (x3 + 1)), (0, .ref h0), (1, .int p1), (2, .int p2)]) hx hb dX6_answersOf_60 hl (k := 4) rfl rfl (by decide) rfl (fun ls hl => ?_)
              refine lv_goto (tgt := 5) hx hb dX6_answersOf_63 (by decide) ?_
              exact ih (x3 + 1) (x4 + 1) _ _ hP hD hS _ (lv_sub hl [2, 3, 4, 1, 0] rfl) h
  dsimp only [d_X6_answersOf] at h
  refine lv_iconst (v := 0) hx hb dX6_answersOf_0 (by decide) ?_
  refine lv_istore_n (lv' := [(3, .int 0), (0, .ref h0), (1, .int p1), (2, .int p2)]) hx hb dX6_answersOf_1 rfl hl (by decide) rfl (fun ls hl => ?_)
  refine lv_iconst (v := 0) hx hb dX6_answersOf_2 (by decide) ?_
  refine lv_istore (lv' := [(4, .int 0), (3, .int 0), (0, .ref h0), (1, .int p1), (2, .int p2)]) hx hb dX6_answersOf_3 hl (by decide) rfl (fun ls hl => ?_)
  exact hL5   fuel 0 0 _ _ hP hD hS _ (lv_sub hl [2, 3, 4, 1, 0] rfl) h
