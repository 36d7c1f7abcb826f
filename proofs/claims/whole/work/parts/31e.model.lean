abbrev w_X6_trader (cI cC : ClassId) (h0 h_s h_aside h_past h_snapshot h_text : Nat) (m_s : Nat → Int32) (m_pasts : Int32) (m_isKept : Int32) (m_length : Int32) (m_hasStop : Int32) (m_stopAt : Int32) (m_stopWhy : Int32) (m_spot : Int32) (m_isWrong : Int32) (m_kind : Int32) (m_first : Int32) (m_second : Int32) (m_third : Int32) (m_fourth : Int32) : va_W := [(h0, .inr (6, [.ref h_s, .ref h_aside, .ref h_past, .int m_pasts, .ref h_snapshot, .int m_isKept, .ref h_text, .int m_length, .int m_hasStop, .int m_stopAt, .int m_stopWhy, .int m_spot, .int m_isWrong, .int m_kind, .int m_first, .int m_second, .int m_third, .int m_fourth])), (h_s, .inl (cI, 490, .inl m_s))]
def d_X6_trader (p1 : Int32) (p2 : Int32) (m_s : Nat → Int32) : Option (Int32) :=
    if (d_X6_isTrader p1) = 0 then (some (-1))
    else (ob1 (rd 490 m_s (0 + p1)) fun v2 =>
    if p2 = 0 then (if 0 ≤ v2 then (some 0)
    else (some (-v2)))
    else (if p2 = 1 then (if 0 ≤ v2 then (some v2)
    else (some 0))
    else (if p2 = 2 then (ob1 (d_X6_riddlesOf p1 (-1) m_s) fun r9 =>
    some r9)
    else (if p2 = 3 then (ob1 (d_X6_riddlesOf p1 1 m_s) fun r12 =>
    some r12)
    else (if p2 = 4 then (ob1 (d_X6_answersOf p1 (-1) m_s) fun r15 =>
    some r15)
    else (if p2 = 5 then (ob1 (d_X6_answersOf p1 1 m_s) fun r18 =>
    some r18)
    else (if p2 = 6 then (ob1 (d_X6_answersOf p1 2 m_s) fun r21 =>
    some r21)
    else (if p2 = 7 then (ob1 (rd 490 m_s (8 + p1)) fun v24 =>
    some v24)
    else (some (-2))))))))))
set_option maxHeartbeats 4000000 in
set_option maxRecDepth 100000 in
theorem c_X6_trader (l : Launch) (D : va_G) (cI cC cE : ClassId) (h0 h_s h_aside h_past h_snapshot h_text : Nat) (sz : Nat) (m_s : Nat → Int32) (m_pasts : Int32) (m_isKept : Int32) (m_length : Int32) (m_hasStop : Int32) (m_stopAt : Int32) (m_stopWhy : Int32) (m_spot : Int32) (m_isWrong : Int32) (m_kind : Int32) (m_first : Int32) (m_second : Int32) (m_third : Int32) (m_fourth : Int32) (p1 : Int32) (p2 : Int32) (r0 : Int32) (h : d_X6_trader p1 p2 m_s = some r0) : Met l yX6_trader wsX6_trader ({ frames := 2, cells := 0, slots := 0, locals := 45 } : Room) (kP D (kT cI cC cE) [.ref h0, .int p1, .int p2] (w_X6_trader cI cC h0 h_s h_aside h_past h_snapshot h_text m_s m_pasts m_isKept m_length m_hasStop m_stopAt m_stopWhy m_spot m_isWrong m_kind m_first m_second m_third m_fourth) sz) (kQi D (kT cI cC cE) (w_X6_trader cI cC h0 h_s h_aside h_past h_snapshot h_text m_s m_pasts m_isKept m_length m_hasStop m_stopAt m_stopWhy m_spot m_isWrong m_kind m_first m_second m_third m_fourth) (w_X6_trader cI cC h0 h_s h_aside h_past h_snapshot h_text m_s m_pasts m_isKept m_length m_hasStop m_stopAt m_stopWhy m_spot m_isWrong m_kind m_first m_second m_third m_fourth) sz r0) 0 0 (va_A (w_X6_trader cI cC h0 h_s h_aside h_past h_snapshot h_text m_s m_pasts m_isKept m_length m_hasStop m_stopAt m_stopWhy m_spot m_isWrong m_kind m_first m_second m_third m_fourth) sz) := by
  refine kMetI (cc := cX6_trader) (maxL := 4) (own := RX6) (by decide) rfl (Nat.le_of_ble_eq_true rfl) rfl ?_
  intro p e s m below meth c A Q hx hb hml hown hts hP hK hD hA hS hname fin ls hl
  have hl : lv_has ls 4 [(0, .ref h0), (1, .int p1), (2, .int p2)] := hl
  have hiX6 : ∀ w ∈ u_ws RX6 TX6 18, w ∈ wsX6_trader := by decide +kernel
  dsimp only [d_X6_trader] at h
  refine lv_iload_n hx hb dX6_trader_0 rfl (lv_at hl 1 rfl) ?_
  refine kcSi (ws1 := (w_X6_trader cI cC h0 h_s h_aside h_past h_snapshot h_text m_s m_pasts m_isKept m_length m_hasStop m_stopAt m_stopWhy m_spot m_isWrong m_kind m_first m_second m_third m_fourth)) ⟨hx, hb, hml, hown, hts⟩ [] [0, 1] (c_X6_isTrader l D cI cC cE _ p1 (d_X6_isTrader p1) rfl) (va_cwS 1 hts gX6_trader_X6_isTrader rfl rfl rfl (by decide +kernel) ⟨Nat.le_of_ble_eq_true rfl, Nat.le_of_ble_eq_true rfl⟩) hK hP hD hS hA rfl rfl rfl rfl rfl rfl rfl hl.1 rfl (Nat.le_of_ble_eq_true rfl) dX6_trader_1 ⟨Nat.le_refl 0, Nat.le_refl 0⟩ (fun H locs hP hD hS => ?_)
  refine lv_if_ne (tgt := 9) hx hb dX6_trader_4 (by decide) (fun c1 => ?_) (fun c1 => ?_)
  · have h := (k_iB h).2 c1
    refine lv_aload_n hx hb dX6_trader_9 rfl (lv_at hl 0 rfl) ?_
    refine va_get (ci := 6) (C := RX6) (T := TX6) (N := 18) hx hb hts hiX6 hown hK hP 0 rfl rfl 0 (by decide) (hts (.fieldLink RX6 7 "RiddleTradeModel" "s" "[I") (List.mem_of_getElem? (i := 1) rfl)) (fun _ h9 => h9) rfl dX6_trader_10 ?_
    refine lv_iconst (v := 0) hx hb dX6_trader_13 (by decide) ?_
    refine lv_iload_n hx hb dX6_trader_14 rfl (lv_at hl 1 rfl) ?_
    refine lv_iadd hx hb dX6_trader_15 ?_
    refine k_iald hx hb hK hP 1 0 rfl rfl h dX6_trader_16 (fun v2 h => ?_)
    refine lv_istore_n (lv' := [(3, .int v2), (0, .ref h0), (1, .int p1), (2, .int p2)]) hx hb dX6_trader_17 rfl hl (by decide) rfl (fun ls hl => ?_)
    refine lv_iload_n hx hb dX6_trader_18 rfl (lv_at hl 3 rfl) ?_
    by_cases c4 : p2 = 0
    · have h := (k_iB h).1 c4
      refine lv_tableIn (off := 45) (tgt := 64) hx hb dX6_trader_19 (by rw [c4]; decide) (by rw [c4]; decide) (by rw [c4]; rfl) (by decide) ?_
      refine lv_iload_n hx hb dX6_trader_64 rfl (lv_at hl 0 rfl) ?_
      refine lv_if_ge (tgt := 73) hx hb dX6_trader_65 (by decide) (fun c5 => ?_) (fun c5 => ?_)
      · have h := (k_iB h).1 c5
        refine lv_iconst (v := 0) hx hb dX6_trader_73 (by decide) ?_
        obtain rfl := Option.some.inj h
        exact fin _ _ _ _ dX6_trader_74 hP hD hS
      · have h := (k_iB h).2 c5
        refine lv_iload_n hx hb dX6_trader_68 rfl (lv_at hl 0 rfl) ?_
        refine lv_ineg hx hb dX6_trader_69 ?_
        refine lv_goto (tgt := 74) hx hb dX6_trader_70 (by decide) ?_
        obtain rfl := Option.some.inj h
        exact fin _ _ _ _ dX6_trader_74 hP hD hS
    · have h := (k_iB h).2 c4
      by_cases c6 : p2 = 1
      · have h := (k_iB h).1 c6
        refine lv_tableIn (off := 56) (tgt := 75) hx hb dX6_trader_19 (by rw [c6]; decide) (by rw [c6]; decide) (by rw [c6]; rfl) (by decide) ?_
        refine lv_iload_n hx hb dX6_trader_75 rfl (lv_at hl 0 rfl) ?_
        refine lv_if_ge (tgt := 83) hx hb dX6_trader_76 (by decide) (fun c7 => ?_) (fun c7 => ?_)
        · have h := (k_iB h).1 c7
          refine lv_iload_n hx hb dX6_trader_83 rfl (lv_at hl 0 rfl) ?_
          obtain rfl := Option.some.inj h
          exact fin _ _ _ _ dX6_trader_84 hP hD hS
        · have h := (k_iB h).2 c7
          refine lv_iconst (v := 0) hx hb dX6_trader_79 (by decide) ?_
          refine lv_goto (tgt := 84) hx hb dX6_trader_80 (by decide) ?_
          obtain rfl := Option.some.inj h
          exact fin _ _ _ _ dX6_trader_84 hP hD hS
      · have h := (k_iB h).2 c6
        by_cases c8 : p2 = 2
        · have h := (k_iB h).1 c8
          refine lv_tableIn (off := 66) (tgt := 85) hx hb dX6_trader_19 (by rw [c8]; decide) (by rw [c8]; decide) (by rw [c8]; rfl) (by decide) ?_
          refine lv_aload_n hx hb dX6_trader_85 rfl (lv_at hl 1 rfl) ?_
          refine lv_iload_n hx hb dX6_trader_86 rfl (lv_at hl 2 rfl) ?_
          refine lv_iconst (v := (-1)) hx hb dX6_trader_87 (by decide) ?_
          obtain ⟨r9, hu10, h⟩ := ob1_el h
          refine kcVi (ci := 6) (q := (RX6, TX6, 18)) (ws1 := (w_X6_trader cI cC h0 h_s h_aside h_past h_snapshot h_text m_s m_pasts m_isKept m_length m_hasStop m_stopAt m_stopWhy m_spot m_isWrong m_kind m_first m_second m_third m_fourth)) ⟨hx, hb, hml, hown, hts⟩ [0, 1] [] (c_X6_riddlesOf l D cI cC cE h0 h_s h_aside h_past h_snapshot h_text _ m_s m_pasts m_isKept m_length m_hasStop m_stopAt m_stopWhy m_spot m_isWrong m_kind m_first m_second m_third m_fourth p1 (-1) r9 hu10) (cwV 2 hts gX6_trader_X6_riddlesOf rfl rfl rfl (by decide +kernel) ⟨Nat.le_of_ble_eq_true rfl, Nat.le_of_ble_eq_true rfl⟩) hK hP hD hS hA rfl rfl rfl rfl rfl rfl rfl rfl rfl hl.1 rfl (Nat.le_of_ble_eq_true rfl) dX6_trader_88 ⟨Nat.le_refl 0, Nat.le_refl 0⟩ (fun H locs hP hD hS => ?_)
          obtain rfl := Option.some.inj h
          exact fin _ _ _ _ dX6_trader_91 hP hD hS
        · have h := (k_iB h).2 c8
          by_cases c11 : p2 = 3
          · have h := (k_iB h).1 c11
            refine lv_tableIn (off := 73) (tgt := 92) hx hb dX6_trader_19 (by rw [c11]; decide) (by rw [c11]; decide) (by rw [c11]; rfl) (by decide) ?_
            refine lv_aload_n hx hb dX6_trader_92 rfl (lv_at hl 1 rfl) ?_
            refine lv_iload_n hx hb dX6_trader_93 rfl (lv_at hl 2 rfl) ?_
            refine lv_iconst (v := 1) hx hb dX6_trader_94 (by decide) ?_
            obtain ⟨r12, hu13, h⟩ := ob1_el h
            refine kcVi (ci := 6) (q := (RX6, TX6, 18)) (ws1 := (w_X6_trader cI cC h0 h_s h_aside h_past h_snapshot h_text m_s m_pasts m_isKept m_length m_hasStop m_stopAt m_stopWhy m_spot m_isWrong m_kind m_first m_second m_third m_fourth)) ⟨hx, hb, hml, hown, hts⟩ [0, 1] [] (c_X6_riddlesOf l D cI cC cE h0 h_s h_aside h_past h_snapshot h_text _ m_s m_pasts m_isKept m_length m_hasStop m_stopAt m_stopWhy m_spot m_isWrong m_kind m_first m_second m_third m_fourth p1 1 r12 hu13) (cwV 2 hts gX6_trader_X6_riddlesOf rfl rfl rfl (by decide +kernel) ⟨Nat.le_of_ble_eq_true rfl, Nat.le_of_ble_eq_true rfl⟩) hK hP hD hS hA rfl rfl rfl rfl rfl rfl rfl rfl rfl hl.1 rfl (Nat.le_of_ble_eq_true rfl) dX6_trader_95 ⟨Nat.le_refl 0, Nat.le_refl 0⟩ (fun H locs hP hD hS => ?_)
            obtain rfl := Option.some.inj h
            exact fin _ _ _ _ dX6_trader_98 hP hD hS
          · have h := (k_iB h).2 c11
            by_cases c14 : p2 = 4
            · have h := (k_iB h).1 c14
              refine lv_tableIn (off := 80) (tgt := 99) hx hb dX6_trader_19 (by rw [c14]; decide) (by rw [c14]; decide) (by rw [c14]; rfl) (by decide) ?_
              refine lv_aload_n hx hb dX6_trader_99 rfl (lv_at hl 1 rfl) ?_
              refine lv_iload_n hx hb dX6_trader_100 rfl (lv_at hl 2 rfl) ?_
              refine lv_iconst (v := (-1)) hx hb dX6_trader_101 (by decide) ?_
              obtain ⟨r15, hu16, h⟩ := ob1_el h
              refine kcVi (ci := 6) (q := (RX6, TX6, 18)) (ws1 := (w_X6_trader cI cC h0 h_s h_aside h_past h_snapshot h_text m_s m_pasts m_isKept m_length m_hasStop m_stopAt m_stopWhy m_spot m_isWrong m_kind m_first m_second m_third m_fourth)) ⟨hx, hb, hml, hown, hts⟩ [0, 1] [] (c_X6_answersOf l D cI cC cE h0 h_s h_aside h_past h_snapshot h_text _ m_s m_pasts m_isKept m_length m_hasStop m_stopAt m_stopWhy m_spot m_isWrong m_kind m_first m_second m_third m_fourth p1 (-1) r15 hu16) (cwV 2 hts gX6_trader_X6_answersOf rfl rfl rfl (by decide +kernel) ⟨Nat.le_of_ble_eq_true rfl, Nat.le_of_ble_eq_true rfl⟩) hK hP hD hS hA rfl rfl rfl rfl rfl rfl rfl rfl rfl hl.1 rfl (Nat.le_of_ble_eq_true rfl) dX6_trader_102 ⟨Nat.le_refl 0, Nat.le_refl 0⟩ (fun H locs hP hD hS => ?_)
              obtain rfl := Option.some.inj h
              exact fin _ _ _ _ dX6_trader_105 hP hD hS
            · have h := (k_iB h).2 c14
              by_cases c17 : p2 = 5
              · have h := (k_iB h).1 c17
                refine lv_tableIn (off := 87) (tgt := 106) hx hb dX6_trader_19 (by rw [c17]; decide) (by rw [c17]; decide) (by rw [c17]; rfl) (by decide) ?_
                refine lv_aload_n hx hb dX6_trader_106 rfl (lv_at hl 1 rfl) ?_
                refine lv_iload_n hx hb dX6_trader_107 rfl (lv_at hl 2 rfl) ?_
                refine lv_iconst (v := 1) hx hb dX6_trader_108 (by decide) ?_
                obtain ⟨r18, hu19, h⟩ := ob1_el h
                refine kcVi (ci := 6) (q := (RX6, TX6, 18)) (ws1 := (w_X6_trader cI cC h0 h_s h_aside h_past h_snapshot h_text m_s m_pasts m_isKept m_length m_hasStop m_stopAt m_stopWhy m_spot m_isWrong m_kind m_first m_second m_third m_fourth)) ⟨hx, hb, hml, hown, hts⟩ [0, 1] [] (c_X6_answersOf l D cI cC cE h0 h_s h_aside h_past h_snapshot h_text _ m_s m_pasts m_isKept m_length m_hasStop m_stopAt m_stopWhy m_spot m_isWrong m_kind m_first m_second m_third m_fourth p1 1 r18 hu19) (cwV 2 hts gX6_trader_X6_answersOf rfl rfl rfl (by decide +kernel) ⟨Nat.le_of_ble_eq_true rfl, Nat.le_of_ble_eq_true rfl⟩) hK hP hD hS hA rfl rfl rfl rfl rfl rfl rfl rfl rfl hl.1 rfl (Nat.le_of_ble_eq_true rfl) dX6_trader_109 ⟨Nat.le_refl 0, Nat.le_refl 0⟩ (fun H locs hP hD hS => ?_)
                obtain rfl := Option.some.inj h
                exact fin _ _ _ _ dX6_trader_112 hP hD hS
              · have h := (k_iB h).2 c17
                by_cases c20 : p2 = 6
                · have h := (k_iB h).1 c20
                  refine lv_tableIn (off := 94) (tgt := 113) hx hb dX6_trader_19 (by rw [c20]; decide) (by rw [c20]; decide) (by rw [c20]; rfl) (by decide) ?_
                  refine lv_aload_n hx hb dX6_trader_113 rfl (lv_at hl 1 rfl) ?_
                  refine lv_iload_n hx hb dX6_trader_114 rfl (lv_at hl 2 rfl) ?_
                  refine lv_iconst (v := 2) hx hb dX6_trader_115 (by decide) ?_
                  obtain ⟨r21, hu22, h⟩ := ob1_el h
                  refine kcVi (ci := 6) (q := (RX6, TX6, 18)) (ws1 := (w_X6_trader cI cC h0 h_s h_aside h_past h_snapshot h_text m_s m_pasts m_isKept m_length m_hasStop m_stopAt m_stopWhy m_spot m_isWrong m_kind m_first m_second m_third m_fourth)) ⟨hx, hb, hml, hown, hts⟩ [0, 1] [] (c_X6_answersOf l D cI cC cE h0 h_s h_aside h_past h_snapshot h_text _ m_s m_pasts m_isKept m_length m_hasStop m_stopAt m_stopWhy m_spot m_isWrong m_kind m_first m_second m_third m_fourth p1 2 r21 hu22) (cwV 2 hts gX6_trader_X6_answersOf rfl rfl rfl (by decide +kernel) ⟨Nat.le_of_ble_eq_true rfl, Nat.le_of_ble_eq_true rfl⟩) hK hP hD hS hA rfl rfl rfl rfl rfl rfl rfl rfl rfl hl.1 rfl (Nat.le_of_ble_eq_true rfl) dX6_trader_116 ⟨Nat.le_refl 0, Nat.le_refl 0⟩ (fun H locs hP hD hS => ?_)
                  obtain rfl := Option.some.inj h
                  exact fin _ _ _ _ dX6_trader_119 hP hD hS
                · have h := (k_iB h).2 c20
                  by_cases c23 : p2 = 7
                  · have h := (k_iB h).1 c23
                    refine lv_tableIn (off := 101) (tgt := 120) hx hb dX6_trader_19 (by rw [c23]; decide) (by rw [c23]; decide) (by rw [c23]; rfl) (by decide) ?_
                    refine lv_aload_n hx hb dX6_trader_120 rfl (lv_at hl 1 rfl) ?_
                    refine va_get (ci := 6) (C := RX6) (T := TX6) (N := 18) hx hb hts hiX6 hown hK hP 0 rfl rfl 0 (by decide) (hts (.fieldLink RX6 7 "RiddleTradeModel" "s" "[I") (List.mem_of_getElem? (i := 1) rfl)) (fun _ h9 => h9) rfl dX6_trader_121 ?_
                    refine lv_bipush (v := 8) hx hb dX6_trader_124 (by decide) ?_
                    refine lv_iload_n hx hb dX6_trader_126 rfl (lv_at hl 2 rfl) ?_
                    refine lv_iadd hx hb dX6_trader_127 ?_
                    refine k_iald hx hb hK hP 1 0 rfl rfl h dX6_trader_128 (fun v24 h => ?_)
                    obtain rfl := Option.some.inj h
                    exact fin _ _ _ _ dX6_trader_129 hP hD hS
                  · have h := (k_iB h).2 c23
                    refine lv_tableOut (tgt := 130) hx hb dX6_trader_19 (by have zc4 := lv_neT c4 (show ((0 : Int32)).toInt = 0 from rfl); have zc6 := lv_neT c6 (show ((1 : Int32)).toInt = 1 from rfl); have zc8 := lv_neT c8 (show ((2 : Int32)).toInt = 2 from rfl); have zc11 := lv_neT c11 (show ((3 : Int32)).toInt = 3 from rfl); have zc14 := lv_neT c14 (show ((4 : Int32)).toInt = 4 from rfl); have zc17 := lv_neT c17 (show ((5 : Int32)).toInt = 5 from rfl); have zc20 := lv_neT c20 (show ((6 : Int32)).toInt = 6 from rfl); have zc23 := lv_neT c23 (show ((7 : Int32)).toInt = 7 from rfl); omega) (by decide) ?_
                    refine lv_bipush (v := (-2)) hx hb dX6_trader_130 (by decide) ?_
                    obtain rfl := Option.some.inj h
                    exact fin _ _ _ _ dX6_trader_132 hP hD hS
  · have h := (k_iB h).1 c1
    refine lv_iconst (v := (-1)) hx hb dX6_trader_7 (by decide) ?_
    obtain rfl := Option.some.inj h
    exact fin _ _ _ _ dX6_trader_8 hP hD hS
abbrev w_X6_answersTo (cI cC : ClassId) (h0 h_s h_aside h_past h_snapshot h_text : Nat) (m_s : Nat → Int32) (m_pasts : Int32) (m_isKept : Int32) (m_length : Int32) (m_hasStop : Int32) (m_stopAt : Int32) (m_stopWhy : Int32) (m_spot : Int32) (m_isWrong : Int32) (m_kind : Int32) (m_first : Int32) (m_second : Int32) (m_third : Int32) (m_fourth : Int32) : va_W := [(h0, .inr (6, [.ref h_s, .ref h_aside, .ref h_past, .int m_pasts, .ref h_snapshot, .int m_isKept, .ref h_text, .int m_length, .int m_hasStop, .int m_stopAt, .int m_stopWhy, .int m_spot, .int m_isWrong, .int m_kind, .int m_first, .int m_second, .int m_third, .int m_fourth])), (h_s, .inl (cI, 490, .inl m_s))]
def lp_X6_answersTo_4 (m_s : Nat → Int32) (p1 : Int32) : Nat → Int32 → Int32 → Option (Int32)
  | 0 => fun _ _ => none
  | k + 1 => fun x2 x3 =>
    ob1 (rd 490 m_s 484) fun v1 =>
    if v1 ≤ x3 then (some x2)
    else (ob1 (rd 490 m_s (d_X6_ofA x3 1)) fun v3 =>
    if v3 = p1 then ((lp_X6_answersTo_4  m_s p1 k) (x2 + 1) (x3 + 1))
    else ((lp_X6_answersTo_4  m_s p1 k) (x2 + 0) (x3 + 1)))
def d_X6_answersTo (p1 : Int32) (m_s : Nat → Int32) : Option (Int32) :=
    lp_X6_answersTo_4  m_s p1 fuel 0 0
set_option maxHeartbeats 4000000 in
set_option maxRecDepth 100000 in
theorem c_X6_answersTo (l : Launch) (D : va_G) (cI cC cE : ClassId) (h0 h_s h_aside h_past h_snapshot h_text : Nat) (sz : Nat) (m_s : Nat → Int32) (m_pasts : Int32) (m_isKept : Int32) (m_length : Int32) (m_hasStop : Int32) (m_stopAt : Int32) (m_stopWhy : Int32) (m_spot : Int32) (m_isWrong : Int32) (m_kind : Int32) (m_first : Int32) (m_second : Int32) (m_third : Int32) (m_fourth : Int32) (p1 : Int32) (r0 : Int32) (h : d_X6_answersTo p1 m_s = some r0) : Met l yX6_answersTo wsX6_answersTo ({ frames := 1, cells := 0, slots := 0, locals := 21 } : Room) (kP D (kT cI cC cE) [.ref h0, .int p1] (w_X6_answersTo cI cC h0 h_s h_aside h_past h_snapshot h_text m_s m_pasts m_isKept m_length m_hasStop m_stopAt m_stopWhy m_spot m_isWrong m_kind m_first m_second m_third m_fourth) sz) (kQi D (kT cI cC cE) (w_X6_answersTo cI cC h0 h_s h_aside h_past h_snapshot h_text m_s m_pasts m_isKept m_length m_hasStop m_stopAt m_stopWhy m_spot m_isWrong m_kind m_first m_second m_third m_fourth) (w_X6_answersTo cI cC h0 h_s h_aside h_past h_snapshot h_text m_s m_pasts m_isKept m_length m_hasStop m_stopAt m_stopWhy m_spot m_isWrong m_kind m_first m_second m_third m_fourth) sz r0) 0 0 (va_A (w_X6_answersTo cI cC h0 h_s h_aside h_past h_snapshot h_text m_s m_pasts m_isKept m_length m_hasStop m_stopAt m_stopWhy m_spot m_isWrong m_kind m_first m_second m_third m_fourth) sz) := by
  refine kMetI (cc := cX6_answersTo) (maxL := 4) (own := RX6) (by decide) rfl (Nat.le_of_ble_eq_true rfl) rfl ?_
  intro p e s m below meth c A Q hx hb hml hown hts hP hK hD hA hS hname fin ls hl
  have hl : lv_has ls 4 [(0, .ref h0), (1, .int p1)] := hl
  have hiX6 : ∀ w ∈ u_ws RX6 TX6 18, w ∈ wsX6_answersTo := by decide +kernel
  have hL4 : ∀ (k : Nat), ∀ (x2 : Int32) (x3 : Int32) (H : Heap) (locs : List Loc), va_P D vwCl (w_X6_answersTo cI cC h0 h_s h_aside h_past h_snapshot h_text m_s m_pasts m_isKept m_length m_hasStop m_stopAt m_stopWhy m_spot m_isWrong m_kind m_first m_second m_third m_fourth) H → va_D A (w_X6_answersTo cI cC h0 h_s h_aside h_past h_snapshot h_text m_s m_pasts m_isKept m_length m_hasStop m_stopAt m_stopWhy m_spot m_isWrong m_kind m_first m_second m_third m_fourth) → va_S A s.heap H locs → ∀ (ls : Array Slot), lv_has ls 4 [(0, .ref h0), (1, .int p1), (2, .int x2), (3, .int x3)] → lp_X6_answersTo_4  m_s p1 k x2 x3 = some r0 → W p l e ({ frames := 1, cells := 0, slots := 0, locals := 21 } : Room) s m [.ref h0, .int p1].toArray below meth c H locs 0 0 Q (F0 m 4 ls []) := by
    intro k
    induction k with
    | zero =>
      intro x2 x3 H locs hP hD hS ls hl h
      exact k_none h
    | succ k ih =>
      intro x2 x3 H locs hP hD hS ls hl h
      dsimp only [lp_X6_answersTo_4] at h
      refine lv_iload_n hx hb dX6_answersTo_4 rfl (lv_at hl 3 rfl) ?_
      refine lv_aload_n hx hb dX6_answersTo_5 rfl (lv_at hl 0 rfl) ?_
      refine va_get (ci := 6) (C := RX6) (T := TX6) (N := 18) hx hb hts hiX6 hown hK hP 0 rfl rfl 0 (by decide) (hts (.fieldLink RX6 7 "RiddleTradeModel" "s" "[I") (List.mem_of_getElem? (i := 1) rfl)) (fun _ h9 => h9) rfl dX6_answersTo_6 ?_
      refine lv_sipush (v := 484) hx hb dX6_answersTo_9 (by decide) ?_
      refine k_iald hx hb hK hP 1 0 rfl rfl h dX6_answersTo_12 (fun v1 h => ?_)
      refine lv_icmp_ge (tgt := 44) hx hb dX6_answersTo_13 (by decide) (fun c2 => ?_) (fun c2 => ?_)
      · have h := (k_iB h).1 c2
        refine lv_iload_n hx hb dX6_answersTo_44 rfl (lv_at hl 2 rfl) ?_
        obtain rfl := Option.some.inj h
        exact fin _ _ _ _ dX6_answersTo_45 hP hD hS
      · have h := (k_iB h).2 c2
        refine lv_iload_n hx hb dX6_answersTo_16 rfl (lv_at hl 2 rfl) ?_
        refine lv_aload_n hx hb dX6_answersTo_17 rfl (lv_at hl 0 rfl) ?_
        refine va_get (ci := 6) (C := RX6) (T := TX6) (N := 18) hx hb hts hiX6 hown hK hP 0 rfl rfl 0 (by decide) (hts (.fieldLink RX6 7 "RiddleTradeModel" "s" "[I") (List.mem_of_getElem? (i := 1) rfl)) (fun _ h9 => h9) rfl dX6_answersTo_18 ?_
        refine lv_iload_n hx hb dX6_answersTo_21 rfl (lv_at hl 3 rfl) ?_
        refine lv_iconst (v := 1) hx hb dX6_answersTo_22 (by decide) ?_
        refine kcSi (ws1 := (w_X6_answersTo cI cC h0 h_s h_aside h_past h_snapshot h_text m_s m_pasts m_isKept m_length m_hasStop m_stopAt m_stopWhy m_spot m_isWrong m_kind m_first m_second m_third m_fourth)) ⟨hx, hb, hml, hown, hts⟩ [] [0, 1] (c_X6_ofA l D cI cC cE _ x3 1 (d_X6_ofA x3 1) rfl) (va_cwS 2 hts gX6_answersTo_X6_ofA rfl rfl rfl (by decide +kernel) ⟨Nat.le_of_ble_eq_true rfl, Nat.le_of_ble_eq_true rfl⟩) hK hP hD hS hA rfl rfl rfl rfl rfl rfl rfl hl.1 rfl (Nat.le_of_ble_eq_true rfl) dX6_answersTo_23 ⟨Nat.le_refl 0, Nat.le_refl 0⟩ (fun H locs hP hD hS => ?_)
        refine k_iald hx hb hK hP 1 0 rfl rfl h dX6_answersTo_26 (fun v3 h => ?_)
        refine lv_iload_n hx hb dX6_answersTo_27 rfl (lv_at hl 1 rfl) ?_
        refine lv_icmp_ne (tgt := 35) hx hb dX6_answersTo_28 (by decide) (fun c4 => ?_) (fun c4 => ?_)
        · have h := (k_iB h).2 c4
          refine lv_iconst (v := 0) hx hb dX6_answersTo_35 (by decide) ?_
          refine lv_iadd hx hb dX6_answersTo_36 ?_
          refine lv_istore_n (lv' := [(2, .int (x2 + 0)), (0, .ref h0), (1, .int p1), (3, .int x3)]) hx hb dX6_answersTo_37 rfl hl (by decide) rfl (fun ls hl => ?_)
          refine lv_iinc (v := (x3 + 1)) (lv' := [(3, .int (x3 + 1)), (2, .int (x2 + 0)), (0, .ref h0), (1, .int p1)]) hx hb dX6_answersTo_38 hl (k := 3) rfl rfl (by decide) rfl (fun ls hl => ?_)
          refine lv_goto (tgt := 4) hx hb dX6_answersTo_41 (by decide) ?_
          exact ih (x2 + 0) (x3 + 1) _ _ hP hD hS _ (lv_sub hl [2, 3, 1, 0] rfl) h
        · have h := (k_iB h).1 c4
          refine lv_iconst (v := 1) hx hb dX6_answersTo_31 (by decide) ?_
          refine lv_goto (tgt := 36) hx hb dX6_answersTo_32 (by decide) ?_
          refine lv_iadd hx hb dX6_answersTo_36 ?_
          refine lv_istore_n (lv' := [(2, .int (x2 + 1)), (0, .ref h0), (1, .int p1), (3, .int x3)]) hx hb dX6_answersTo_37 rfl hl (by decide) rfl (fun ls hl => ?_)
          refine lv_iinc (v := (x3 + 1)) (lv' := [(3, .int (x3 + 1)), (2, .int (x2 + 1)), (0, .ref h0), (1, .int p1)]) hx hb dX6_answersTo_38 hl (k := 3) rfl rfl (by decide) rfl (fun ls hl => ?_)
          refine lv_goto (tgt := 4) hx hb dX6_answersTo_41 (by decide) ?_
          exact ih (x2 + 1) (x3 + 1) _ _ hP hD hS _ (lv_sub hl [2, 3, 1, 0] rfl) h
  dsimp only [d_X6_answersTo] at h
  refine lv_iconst (v := 0) hx hb dX6_answersTo_0 (by decide) ?_
  refine lv_istore_n (lv' := [(2, .int 0), (0, .ref h0), (1, .int p1)]) hx hb dX6_answersTo_1 rfl hl (by decide) rfl (fun ls hl => ?_)
  refine lv_iconst (v := 0) hx hb dX6_answersTo_2 (by decide) ?_
  refine lv_istore_n (lv' := [(3, .int 0), (2, .int 0), (0, .ref h0), (1, .int p1)]) hx hb dX6_answersTo_3 rfl hl (by decide) rfl (fun ls hl => ?_)
  exact hL4   fuel 0 0 _ _ hP hD hS _ (lv_sub hl [2, 3, 1, 0] rfl) h
abbrev w_X6_riddle (cI cC : ClassId) (h0 h_s h_aside h_past h_snapshot h_text : Nat) (m_s : Nat → Int32) (m_pasts : Int32) (m_isKept : Int32) (m_length : Int32) (m_hasStop : Int32) (m_stopAt : Int32) (m_stopWhy : Int32) (m_spot : Int32) (m_isWrong : Int32) (m_kind : Int32) (m_first : Int32) (m_second : Int32) (m_third : Int32) (m_fourth : Int32) : va_W := [(h0, .inr (6, [.ref h_s, .ref h_aside, .ref h_past, .int m_pasts, .ref h_snapshot, .int m_isKept, .ref h_text, .int m_length, .int m_hasStop, .int m_stopAt, .int m_stopWhy, .int m_spot, .int m_isWrong, .int m_kind, .int m_first, .int m_second, .int m_third, .int m_fourth])), (h_s, .inl (cI, 490, .inl m_s))]
def d_X6_riddle (p1 : Int32) (p2 : Int32) (m_s : Nat → Int32) : Option (Int32) :=
    ob1 (d_X6_isRiddle p1 m_s) fun r1 =>
    if r1 = 0 then (some (-1))
    else (if p2 = 0 then (ob1 (rd 490 m_s (d_X6_ofR p1 p2)) fun v6 =>
    some v6)
    else (if p2 = 1 then (ob1 (rd 490 m_s (d_X6_ofR p1 p2)) fun v8 =>
    some v8)
    else (if p2 = 2 then (ob1 (rd 490 m_s (d_X6_ofR p1 p2)) fun v10 =>
    some v10)
    else (if p2 = 3 then (ob1 (rd 490 m_s (d_X6_ofR p1 p2)) fun v12 =>
    some v12)
    else (if p2 = 4 then (ob1 (d_X6_answersTo p1 m_s) fun r14 =>
    some r14)
    else (if p2 = 5 then (ob1 (d_X6_waiting p1 m_s) fun r17 =>
    some r17)
    else (if p2 = 6 then (ob1 (rd 490 m_s (d_X6_ofR p1 4)) fun v20 =>
    if v20 = 0 then (some (-5))
    else (ob1 (rd 490 m_s (d_X6_ofR p1 4)) fun v22 =>
    some (v22 - 1)))
    else (some (-2)))))))))
set_option maxHeartbeats 4000000 in
set_option maxRecDepth 100000 in
theorem c_X6_riddle (l : Launch) (D : va_G) (cI cC cE : ClassId) (h0 h_s h_aside h_past h_snapshot h_text : Nat) (sz : Nat) (m_s : Nat → Int32) (m_pasts : Int32) (m_isKept : Int32) (m_length : Int32) (m_hasStop : Int32) (m_stopAt : Int32) (m_stopWhy : Int32) (m_spot : Int32) (m_isWrong : Int32) (m_kind : Int32) (m_first : Int32) (m_second : Int32) (m_third : Int32) (m_fourth : Int32) (p1 : Int32) (p2 : Int32) (r0 : Int32) (h : d_X6_riddle p1 p2 m_s = some r0) : Met l yX6_riddle wsX6_riddle ({ frames := 2, cells := 0, slots := 0, locals := 44 } : Room) (kP D (kT cI cC cE) [.ref h0, .int p1, .int p2] (w_X6_riddle cI cC h0 h_s h_aside h_past h_snapshot h_text m_s m_pasts m_isKept m_length m_hasStop m_stopAt m_stopWhy m_spot m_isWrong m_kind m_first m_second m_third m_fourth) sz) (kQi D (kT cI cC cE) (w_X6_riddle cI cC h0 h_s h_aside h_past h_snapshot h_text m_s m_pasts m_isKept m_length m_hasStop m_stopAt m_stopWhy m_spot m_isWrong m_kind m_first m_second m_third m_fourth) (w_X6_riddle cI cC h0 h_s h_aside h_past h_snapshot h_text m_s m_pasts m_isKept m_length m_hasStop m_stopAt m_stopWhy m_spot m_isWrong m_kind m_first m_second m_third m_fourth) sz r0) 0 0 (va_A (w_X6_riddle cI cC h0 h_s h_aside h_past h_snapshot h_text m_s m_pasts m_isKept m_length m_hasStop m_stopAt m_stopWhy m_spot m_isWrong m_kind m_first m_second m_third m_fourth) sz) := by
  refine kMetI (cc := cX6_riddle) (maxL := 3) (own := RX6) (by decide) rfl (Nat.le_of_ble_eq_true rfl) rfl ?_
  intro p e s m below meth c A Q hx hb hml hown hts hP hK hD hA hS hname fin ls hl
  have hl : lv_has ls 3 [(0, .ref h0), (1, .int p1), (2, .int p2)] := hl
  have hiX6 : ∀ w ∈ u_ws RX6 TX6 18, w ∈ wsX6_riddle := by decide +kernel
  dsimp only [d_X6_riddle] at h
  refine lv_aload_n hx hb dX6_riddle_0 rfl (lv_at hl 0 rfl) ?_
  refine lv_iload_n hx hb dX6_riddle_1 rfl (lv_at hl 1 rfl) ?_
  obtain ⟨r1, hu2, h⟩ := ob1_el h
  refine kcVi (ci := 6) (q := (RX6, TX6, 18)) (ws1 := (w_X6_riddle cI cC h0 h_s h_aside h_past h_snapshot h_text m_s m_pasts m_isKept m_length m_hasStop m_stopAt m_stopWhy m_spot m_isWrong m_kind m_first m_second m_third m_fourth)) ⟨hx, hb, hml, hown, hts⟩ [0, 1] [] (c_X6_isRiddle l D cI cC cE h0 h_s h_aside h_past h_snapshot h_text _ m_s m_pasts m_isKept m_length m_hasStop m_stopAt m_stopWhy m_spot m_isWrong m_kind m_first m_second m_third m_fourth p1 r1 hu2) (cwV 1 hts gX6_riddle_X6_isRiddle rfl rfl rfl (by decide +kernel) ⟨Nat.le_of_ble_eq_true rfl, Nat.le_of_ble_eq_true rfl⟩) hK hP hD hS hA rfl rfl rfl rfl rfl rfl rfl rfl rfl hl.1 rfl (Nat.le_of_ble_eq_true rfl) dX6_riddle_2 ⟨Nat.le_refl 0, Nat.le_refl 0⟩ (fun H locs hP hD hS => ?_)
  refine lv_if_ne (tgt := 10) hx hb dX6_riddle_5 (by decide) (fun c3 => ?_) (fun c3 => ?_)
  · have h := (k_iB h).2 c3
    refine lv_iload_n hx hb dX6_riddle_10 rfl (lv_at hl 2 rfl) ?_
    by_cases c5 : p2 = 0
    · have h := (k_iB h).1 c5
      refine lv_tableIn (off := 41) (tgt := 52) hx hb dX6_riddle_11 (by rw [c5]; decide) (by rw [c5]; decide) (by rw [c5]; rfl) (by decide) ?_
      refine lv_aload_n hx hb dX6_riddle_52 rfl (lv_at hl 0 rfl) ?_
      refine va_get (ci := 6) (C := RX6) (T := TX6) (N := 18) hx hb hts hiX6 hown hK hP 0 rfl rfl 0 (by decide) (hts (.fieldLink RX6 7 "RiddleTradeModel" "s" "[I") (List.mem_of_getElem? (i := 1) rfl)) (fun _ h9 => h9) rfl dX6_riddle_53 ?_
      refine lv_iload_n hx hb dX6_riddle_56 rfl (lv_at hl 1 rfl) ?_
      refine lv_iload_n hx hb dX6_riddle_57 rfl (lv_at hl 2 rfl) ?_
      refine kcSi (ws1 := (w_X6_riddle cI cC h0 h_s h_aside h_past h_snapshot h_text m_s m_pasts m_isKept m_length m_hasStop m_stopAt m_stopWhy m_spot m_isWrong m_kind m_first m_second m_third m_fourth)) ⟨hx, hb, hml, hown, hts⟩ [] [0, 1] (c_X6_ofR l D cI cC cE _ p1 p2 (d_X6_ofR p1 p2) rfl) (va_cwS 2 hts gX6_riddle_X6_ofR rfl rfl rfl (by decide +kernel) ⟨Nat.le_of_ble_eq_true rfl, Nat.le_of_ble_eq_true rfl⟩) hK hP hD hS hA rfl rfl rfl rfl rfl rfl rfl hl.1 rfl (Nat.le_of_ble_eq_true rfl) dX6_riddle_58 ⟨Nat.le_refl 0, Nat.le_refl 0⟩ (fun H locs hP hD hS => ?_)
      refine k_iald hx hb hK hP 1 0 rfl rfl h dX6_riddle_61 (fun v6 h => ?_)
      obtain rfl := Option.some.inj h
      exact fin _ _ _ _ dX6_riddle_62 hP hD hS
    · have h := (k_iB h).2 c5
      by_cases c7 : p2 = 1
      · have h := (k_iB h).1 c7
        refine lv_tableIn (off := 41) (tgt := 52) hx hb dX6_riddle_11 (by rw [c7]; decide) (by rw [c7]; decide) (by rw [c7]; rfl) (by decide) ?_
        refine lv_aload_n hx hb dX6_riddle_52 rfl (lv_at hl 0 rfl) ?_
        refine va_get (ci := 6) (C := RX6) (T := TX6) (N := 18) hx hb hts hiX6 hown hK hP 0 rfl rfl 0 (by decide) (hts (.fieldLink RX6 7 "RiddleTradeModel" "s" "[I") (List.mem_of_getElem? (i := 1) rfl)) (fun _ h9 => h9) rfl dX6_riddle_53 ?_
        refine lv_iload_n hx hb dX6_riddle_56 rfl (lv_at hl 1 rfl) ?_
        refine lv_iload_n hx hb dX6_riddle_57 rfl (lv_at hl 2 rfl) ?_
        refine kcSi (ws1 := (w_X6_riddle cI cC h0 h_s h_aside h_past h_snapshot h_text m_s m_pasts m_isKept m_length m_hasStop m_stopAt m_stopWhy m_spot m_isWrong m_kind m_first m_second m_third m_fourth)) ⟨hx, hb, hml, hown, hts⟩ [] [0, 1] (c_X6_ofR l D cI cC cE _ p1 p2 (d_X6_ofR p1 p2) rfl) (va_cwS 2 hts gX6_riddle_X6_ofR rfl rfl rfl (by decide +kernel) ⟨Nat.le_of_ble_eq_true rfl, Nat.le_of_ble_eq_true rfl⟩) hK hP hD hS hA rfl rfl rfl rfl rfl rfl rfl hl.1 rfl (Nat.le_of_ble_eq_true rfl) dX6_riddle_58 ⟨Nat.le_refl 0, Nat.le_refl 0⟩ (fun H locs hP hD hS => ?_)
        refine k_iald hx hb hK hP 1 0 rfl rfl h dX6_riddle_61 (fun v8 h => ?_)
        obtain rfl := Option.some.inj h
        exact fin _ _ _ _ dX6_riddle_62 hP hD hS
      · have h := (k_iB h).2 c7
        by_cases c9 : p2 = 2
        · have h := (k_iB h).1 c9
          refine lv_tableIn (off := 41) (tgt := 52) hx hb dX6_riddle_11 (by rw [c9]; decide) (by rw [c9]; decide) (by rw [c9]; rfl) (by decide) ?_
          refine lv_aload_n hx hb dX6_riddle_52 rfl (lv_at hl 0 rfl) ?_
          refine va_get (ci := 6) (C := RX6) (T := TX6) (N := 18) hx hb hts hiX6 hown hK hP 0 rfl rfl 0 (by decide) (hts (.fieldLink RX6 7 "RiddleTradeModel" "s" "[I") (List.mem_of_getElem? (i := 1) rfl)) (fun _ h9 => h9) rfl dX6_riddle_53 ?_
          refine lv_iload_n hx hb dX6_riddle_56 rfl (lv_at hl 1 rfl) ?_
          refine lv_iload_n hx hb dX6_riddle_57 rfl (lv_at hl 2 rfl) ?_
          refine kcSi (ws1 := (w_X6_riddle cI cC h0 h_s h_aside h_past h_snapshot h_text m_s m_pasts m_isKept m_length m_hasStop m_stopAt m_stopWhy m_spot m_isWrong m_kind m_first m_second m_third m_fourth)) ⟨hx, hb, hml, hown, hts⟩ [] [0, 1] (c_X6_ofR l D cI cC cE _ p1 p2 (d_X6_ofR p1 p2) rfl) (va_cwS 2 hts gX6_riddle_X6_ofR rfl rfl rfl (by decide +kernel) ⟨Nat.le_of_ble_eq_true rfl, Nat.le_of_ble_eq_true rfl⟩) hK hP hD hS hA rfl rfl rfl rfl rfl rfl rfl hl.1 rfl (Nat.le_of_ble_eq_true rfl) dX6_riddle_58 ⟨Nat.le_refl 0, Nat.le_refl 0⟩ (fun H locs hP hD hS => ?_)
          refine k_iald hx hb hK hP 1 0 rfl rfl h dX6_riddle_61 (fun v10 h => ?_)
          obtain rfl := Option.some.inj h
          exact fin _ _ _ _ dX6_riddle_62 hP hD hS
        · have h := (k_iB h).2 c9
          by_cases c11 : p2 = 3
          · have h := (k_iB h).1 c11
            refine lv_tableIn (off := 41) (tgt := 52) hx hb dX6_riddle_11 (by rw [c11]; decide) (by rw [c11]; decide) (by rw [c11]; rfl) (by decide) ?_
            refine lv_aload_n hx hb dX6_riddle_52 rfl (lv_at hl 0 rfl) ?_
            refine va_get (ci := 6) (C := RX6) (T := TX6) (N := 18) hx hb hts hiX6 hown hK hP 0 rfl rfl 0 (by decide) (hts (.fieldLink RX6 7 "RiddleTradeModel" "s" "[I") (List.mem_of_getElem? (i := 1) rfl)) (fun _ h9 => h9) rfl dX6_riddle_53 ?_
            refine lv_iload_n hx hb dX6_riddle_56 rfl (lv_at hl 1 rfl) ?_
            refine lv_iload_n hx hb dX6_riddle_57 rfl (lv_at hl 2 rfl) ?_
            refine kcSi (ws1 := (w_X6_riddle cI cC h0 h_s h_aside h_past h_snapshot h_text m_s m_pasts m_isKept m_length m_hasStop m_stopAt m_stopWhy m_spot m_isWrong m_kind m_first m_second m_third m_fourth)) ⟨hx, hb, hml, hown, hts⟩ [] [0, 1] (c_X6_ofR l D cI cC cE _ p1 p2 (d_X6_ofR p1 p2) rfl) (va_cwS 2 hts gX6_riddle_X6_ofR rfl rfl rfl (by decide +kernel) ⟨Nat.le_of_ble_eq_true rfl, Nat.le_of_ble_eq_true rfl⟩) hK hP hD hS hA rfl rfl rfl rfl rfl rfl rfl hl.1 rfl (Nat.le_of_ble_eq_true rfl) dX6_riddle_58 ⟨Nat.le_refl 0, Nat.le_refl 0⟩ (fun H locs hP hD hS => ?_)
            refine k_iald hx hb hK hP 1 0 rfl rfl h dX6_riddle_61 (fun v12 h => ?_)
            obtain rfl := Option.some.inj h
            exact fin _ _ _ _ dX6_riddle_62 hP hD hS
          · have h := (k_iB h).2 c11
            by_cases c13 : p2 = 4
            · have h := (k_iB h).1 c13
              refine lv_tableIn (off := 52) (tgt := 63) hx hb dX6_riddle_11 (by rw [c13]; decide) (by rw [c13]; decide) (by rw [c13]; rfl) (by decide) ?_
              refine lv_aload_n hx hb dX6_riddle_63 rfl (lv_at hl 0 rfl) ?_
              refine lv_iload_n hx hb dX6_riddle_64 rfl (lv_at hl 1 rfl) ?_
              obtain ⟨r14, hu15, h⟩ := ob1_el h
              refine kcVi (ci := 6) (q := (RX6, TX6, 18)) (ws1 := (w_X6_riddle cI cC h0 h_s h_aside h_past h_snapshot h_text m_s m_pasts m_isKept m_length m_hasStop m_stopAt m_stopWhy m_spot m_isWrong m_kind m_first m_second m_third m_fourth)) ⟨hx, hb, hml, hown, hts⟩ [0, 1] [] (c_X6_answersTo l D cI cC cE h0 h_s h_aside h_past h_snapshot h_text _ m_s m_pasts m_isKept m_length m_hasStop m_stopAt m_stopWhy m_spot m_isWrong m_kind m_first m_second m_third m_fourth p1 r14 hu15) (cwV 1 hts gX6_riddle_X6_answersTo rfl rfl rfl (by decide +kernel) ⟨Nat.le_of_ble_eq_true rfl, Nat.le_of_ble_eq_true rfl⟩) hK hP hD hS hA rfl rfl rfl rfl rfl rfl rfl rfl rfl hl.1 rfl (Nat.le_of_ble_eq_true rfl) dX6_riddle_65 ⟨Nat.le_refl 0, Nat.le_refl 0⟩ (fun H locs hP hD hS => ?_)
              obtain rfl := Option.some.inj h
              exact fin _ _ _ _ dX6_riddle_68 hP hD hS
            · have h := (k_iB h).2 c13
              by_cases c16 : p2 = 5
              · have h := (k_iB h).1 c16
                refine lv_tableIn (off := 58) (tgt := 69) hx hb dX6_riddle_11 (by rw [c16]; decide) (by rw [c16]; decide) (by rw [c16]; rfl) (by decide) ?_
                refine lv_aload_n hx hb dX6_riddle_69 rfl (lv_at hl 0 rfl) ?_
                refine lv_iload_n hx hb dX6_riddle_70 rfl (lv_at hl 1 rfl) ?_
                obtain ⟨r17, hu18, h⟩ := ob1_el h
                refine kcVi (ci := 6) (q := (RX6, TX6, 18)) (ws1 := (w_X6_riddle cI cC h0 h_s h_aside h_past h_snapshot h_text m_s m_pasts m_isKept m_length m_hasStop m_stopAt m_stopWhy m_spot m_isWrong m_kind m_first m_second m_third m_fourth)) ⟨hx, hb, hml, hown, hts⟩ [0, 1] [] (c_X6_waiting l D cI cC cE h0 h_s h_aside h_past h_snapshot h_text _ m_s m_pasts m_isKept m_length m_hasStop m_stopAt m_stopWhy m_spot m_isWrong m_kind m_first m_second m_third m_fourth p1 r17 hu18) (cwV 1 hts gX6_riddle_X6_waiting rfl rfl rfl (by decide +kernel) ⟨Nat.le_of_ble_eq_true rfl, Nat.le_of_ble_eq_true rfl⟩) hK hP hD hS hA rfl rfl rfl rfl rfl rfl rfl rfl rfl hl.1 rfl (Nat.le_of_ble_eq_true rfl) dX6_riddle_71 ⟨Nat.le_refl 0, Nat.le_refl 0⟩ (fun H locs hP hD hS => ?_)
                obtain rfl := Option.some.inj h
                exact fin _ _ _ _ dX6_riddle_74 hP hD hS
              · have h := (k_iB h).2 c16
                by_cases c19 : p2 = 6
                · have h := (k_iB h).1 c19
                  refine lv_tableIn (off := 64) (tgt := 75) hx hb dX6_riddle_11 (by rw [c19]; decide) (by rw [c19]; decide) (by rw [c19]; rfl) (by decide) ?_
                  refine lv_aload_n hx hb dX6_riddle_75 rfl (lv_at hl 0 rfl) ?_
                  refine va_get (ci := 6) (C := RX6) (T := TX6) (N := 18) hx hb hts hiX6 hown hK hP 0 rfl rfl 0 (by decide) (hts (.fieldLink RX6 7 "RiddleTradeModel" "s" "[I") (List.mem_of_getElem? (i := 1) rfl)) (fun _ h9 => h9) rfl dX6_riddle_76 ?_
                  refine lv_iload_n hx hb dX6_riddle_79 rfl (lv_at hl 1 rfl) ?_
                  refine lv_iconst (v := 4) hx hb dX6_riddle_80 (by decide) ?_
                  refine kcSi (ws1 := (w_X6_riddle cI cC h0 h_s h_aside h_past h_snapshot h_text m_s m_pasts m_isKept m_length m_hasStop m_stopAt m_stopWhy m_spot m_isWrong m_kind m_first m_second m_third m_fourth)) ⟨hx, hb, hml, hown, hts⟩ [] [0, 1] (c_X6_ofR l D cI cC cE _ p1 4 (d_X6_ofR p1 4) rfl) (va_cwS 2 hts gX6_riddle_X6_ofR rfl rfl rfl (by decide +kernel) ⟨Nat.le_of_ble_eq_true rfl, Nat.le_of_ble_eq_true rfl⟩) hK hP hD hS hA rfl rfl rfl rfl rfl rfl rfl hl.1 rfl (Nat.le_of_ble_eq_true rfl) dX6_riddle_81 ⟨Nat.le_refl 0, Nat.le_refl 0⟩ (fun H locs hP hD hS => ?_)
                  refine k_iald hx hb hK hP 1 0 rfl rfl h dX6_riddle_84 (fun v20 h => ?_)
                  refine lv_if_ne (tgt := 93) hx hb dX6_riddle_85 (by decide) (fun c21 => ?_) (fun c21 => ?_)
                  · have h := (k_iB h).2 c21
                    refine lv_aload_n hx hb dX6_riddle_93 rfl (lv_at hl 0 rfl) ?_
                    refine va_get (ci := 6) (C := RX6) (T := TX6) (N := 18) hx hb hts hiX6 hown hK hP 0 rfl rfl 0 (by decide) (hts (.fieldLink RX6 7 "RiddleTradeModel" "s" "[I") (List.mem_of_getElem? (i := 1) rfl)) (fun _ h9 => h9) rfl dX6_riddle_94 ?_
                    refine lv_iload_n hx hb dX6_riddle_97 rfl (lv_at hl 1 rfl) ?_
                    refine lv_iconst (v := 4) hx hb dX6_riddle_98 (by decide) ?_
                    refine kcSi (ws1 := (w_X6_riddle cI cC h0 h_s h_aside h_past h_snapshot h_text m_s m_pasts m_isKept m_length m_hasStop m_stopAt m_stopWhy m_spot m_isWrong m_kind m_first m_second m_third m_fourth)) ⟨hx, hb, hml, hown, hts⟩ [] [0, 1] (c_X6_ofR l D cI cC cE _ p1 4 (d_X6_ofR p1 4) rfl) (va_cwS 2 hts gX6_riddle_X6_ofR rfl rfl rfl (by decide +kernel) ⟨Nat.le_of_ble_eq_true rfl, Nat.le_of_ble_eq_true rfl⟩) hK hP hD hS hA rfl rfl rfl rfl rfl rfl rfl hl.1 rfl (Nat.le_of_ble_eq_true rfl) dX6_riddle_99 ⟨Nat.le_refl 0, Nat.le_refl 0⟩ (fun H locs hP hD hS => ?_)
                    refine k_iald hx hb hK hP 1 0 rfl rfl h dX6_riddle_102 (fun v22 h => ?_)
                    refine lv_iconst (v := 1) hx hb dX6_riddle_103 (by decide) ?_
                    refine lv_isub hx hb dX6_riddle_104 ?_
                    obtain rfl := Option.some.inj h
                    exact fin _ _ _ _ dX6_riddle_105 hP hD hS
                  · have h := (k_iB h).1 c21
                    refine lv_bipush (v := (-5)) hx hb dX6_riddle_88 (by decide) ?_
                    refine lv_goto (tgt := 105) hx hb dX6_riddle_90 (by decide) ?_
                    obtain rfl := Option.some.inj h
                    exact fin _ _ _ _ dX6_riddle_105 hP hD hS
                · have h := (k_iB h).2 c19
                  refine lv_tableOut (tgt := 106) hx hb dX6_riddle_11 (by have zc5 := lv_neT c5 (show ((0 : Int32)).toInt = 0 from rfl); have zc7 := lv_neT c7 (show ((1 : Int32)).toInt = 1 from rfl); have zc9 := lv_neT c9 (show ((2 : Int32)).toInt = 2 from rfl); have zc11 := lv_neT c11 (show ((3 : Int32)).toInt = 3 from rfl); have zc13 := lv_neT c13 (show ((4 : Int32)).toInt = 4 from rfl); have zc16 := lv_neT c16 (show ((5 : Int32)).toInt = 5 from rfl); have zc19 := lv_neT c19 (show ((6 : Int32)).toInt = 6 from rfl); omega) (by decide) ?_
                  refine lv_bipush (v := (-2)) hx hb dX6_riddle_106 (by decide) ?_
                  obtain rfl := Option.some.inj h
                  exact fin _ _ _ _ dX6_riddle_108 hP hD hS
  · have h := (k_iB h).1 c3
    refine lv_iconst (v := (-1)) hx hb dX6_riddle_8 (by decide) ?_
    obtain rfl := Option.some.inj h
    exact fin _ _ _ _ dX6_riddle_9 hP hD hS
abbrev w_X6_place (cI cC : ClassId) (h0 h_s h_aside h_past h_snapshot h_text : Nat) (m_s : Nat → Int32) (m_pasts : Int32) (m_isKept : Int32) (m_length : Int32) (m_hasStop : Int32) (m_stopAt : Int32) (m_stopWhy : Int32) (m_spot : Int32) (m_isWrong : Int32) (m_kind : Int32) (m_first : Int32) (m_second : Int32) (m_third : Int32) (m_fourth : Int32) : va_W := [(h0, .inr (6, [.ref h_s, .ref h_aside, .ref h_past, .int m_pasts, .ref h_snapshot, .int m_isKept, .ref h_text, .int m_length, .int m_hasStop, .int m_stopAt, .int m_stopWhy, .int m_spot, .int m_isWrong, .int m_kind, .int m_first, .int m_second, .int m_third, .int m_fourth])), (h_s, .inl (cI, 490, .inl m_s))]
def lp_X6_place_5 (m_s : Nat → Int32) (p1 : Int32) : Nat → Int32 → Int32 → Option (Int32)
  | 0 => fun _ _ => none
  | k + 1 => fun x2 x3 =>
    ob1 (rd 490 m_s 476) fun v1 =>
    if v1 ≤ x3 then (some x2)
    else (ob1 (rd 490 m_s (436 + x3)) fun v3 =>
    if v3 = p1 then ((lp_X6_place_5  m_s p1 k) x3 (x3 + 1))
    else ((lp_X6_place_5  m_s p1 k) x2 (x3 + 1)))
def d_X6_place (p1 : Int32) (m_s : Nat → Int32) : Option (Int32) :=
    lp_X6_place_5  m_s p1 fuel (-5) 0
set_option maxHeartbeats 4000000 in
set_option maxRecDepth 100000 in
theorem c_X6_place (l : Launch) (D : va_G) (cI cC cE : ClassId) (h0 h_s h_aside h_past h_snapshot h_text : Nat) (sz : Nat) (m_s : Nat → Int32) (m_pasts : Int32) (m_isKept : Int32) (m_length : Int32) (m_hasStop : Int32) (m_stopAt : Int32) (m_stopWhy : Int32) (m_spot : Int32) (m_isWrong : Int32) (m_kind : Int32) (m_first : Int32) (m_second : Int32) (m_third : Int32) (m_fourth : Int32) (p1 : Int32) (r0 : Int32) (h : d_X6_place p1 m_s = some r0) : Met l yX6_place wsX6_place ({ frames := 0, cells := 0, slots := 0, locals := 0 } : Room) (kP D (kT cI cC cE) [.ref h0, .int p1] (w_X6_place cI cC h0 h_s h_aside h_past h_snapshot h_text m_s m_pasts m_isKept m_length m_hasStop m_stopAt m_stopWhy m_spot m_isWrong m_kind m_first m_second m_third m_fourth) sz) (kQi D (kT cI cC cE) (w_X6_place cI cC h0 h_s h_aside h_past h_snapshot h_text m_s m_pasts m_isKept m_length m_hasStop m_stopAt m_stopWhy m_spot m_isWrong m_kind m_first m_second m_third m_fourth) (w_X6_place cI cC h0 h_s h_aside h_past h_snapshot h_text m_s m_pasts m_isKept m_length m_hasStop m_stopAt m_stopWhy m_spot m_isWrong m_kind m_first m_second m_third m_fourth) sz r0) 0 0 (va_A (w_X6_place cI cC h0 h_s h_aside h_past h_snapshot h_text m_s m_pasts m_isKept m_length m_hasStop m_stopAt m_stopWhy m_spot m_isWrong m_kind m_first m_second m_third m_fourth) sz) := by
  refine kMetI (cc := cX6_place) (maxL := 4) (own := RX6) (by decide) rfl (Nat.le_of_ble_eq_true rfl) rfl ?_
  intro p e s m below meth c A Q hx hb hml hown hts hP hK hD hA hS hname fin ls hl
  have hl : lv_has ls 4 [(0, .ref h0), (1, .int p1)] := hl
  have hiX6 : ∀ w ∈ u_ws RX6 TX6 18, w ∈ wsX6_place := by decide +kernel
  have hL5 : ∀ (k : Nat), ∀ (x2 : Int32) (x3 : Int32) (H : Heap) (locs : List Loc), va_P D vwCl (w_X6_place cI cC h0 h_s h_aside h_past h_snapshot h_text m_s m_pasts m_isKept m_length m_hasStop m_stopAt m_stopWhy m_spot m_isWrong m_kind m_first m_second m_third m_fourth) H → va_D A (w_X6_place cI cC h0 h_s h_aside h_past h_snapshot h_text m_s m_pasts m_isKept m_length m_hasStop m_stopAt m_stopWhy m_spot m_isWrong m_kind m_first m_second m_third m_fourth) → va_S A s.heap H locs → ∀ (ls : Array Slot), lv_has ls 4 [(0, .ref h0), (1, .int p1), (2, .int x2), (3, .int x3)] → lp_X6_place_5  m_s p1 k x2 x3 = some r0 → W p l e ({ frames := 0, cells := 0, slots := 0, locals := 0 } : Room) s m [.ref h0, .int p1].toArray below meth c H locs 0 0 Q (F0 m 5 ls []) := by
    intro k
    induction k with
    | zero =>
      intro x2 x3 H locs hP hD hS ls hl h
      exact k_none h
    | succ k ih =>
      intro x2 x3 H locs hP hD hS ls hl h
      dsimp only [lp_X6_place_5] at h
      refine lv_iload_n hx hb dX6_place_5 rfl (lv_at hl 3 rfl) ?_
      refine lv_aload_n hx hb dX6_place_6 rfl (lv_at hl 0 rfl) ?_
      refine va_get (ci := 6) (C := RX6) (T := TX6) (N := 18) hx hb hts hiX6 hown hK hP 0 rfl rfl 0 (by decide) (hts (.fieldLink RX6 7 "RiddleTradeModel" "s" "[I") (List.mem_of_getElem? (i := 1) rfl)) (fun _ h9 => h9) rfl dX6_place_7 ?_
      refine lv_sipush (v := 476) hx hb dX6_place_10 (by decide) ?_
      refine k_iald hx hb hK hP 1 0 rfl rfl h dX6_place_13 (fun v1 h => ?_)
      refine lv_icmp_ge (tgt := 43) hx hb dX6_place_14 (by decide) (fun c2 => ?_) (fun c2 => ?_)
      · have h := (k_iB h).1 c2
        refine lv_iload_n hx hb dX6_place_43 rfl (lv_at hl 2 rfl) ?_
        obtain rfl := Option.some.inj h
        exact fin _ _ _ _ dX6_place_44 hP hD hS
      · have h := (k_iB h).2 c2
        refine lv_aload_n hx hb dX6_place_17 rfl (lv_at hl 0 rfl) ?_
        refine va_get (ci := 6) (C := RX6) (T := TX6) (N := 18) hx hb hts hiX6 hown hK hP 0 rfl rfl 0 (by decide) (hts (.fieldLink RX6 7 "RiddleTradeModel" "s" "[I") (List.mem_of_getElem? (i := 1) rfl)) (fun _ h9 => h9) rfl dX6_place_18 ?_
        refine lv_sipush (v := 436) hx hb dX6_place_21 (by decide) ?_
        refine lv_iload_n hx hb dX6_place_24 rfl (lv_at hl 3 rfl) ?_
        refine lv_iadd hx hb dX6_place_25 ?_
        refine k_iald hx hb hK hP 1 0 rfl rfl h dX6_place_26 (fun v3 h => ?_)
        refine lv_iload_n hx hb dX6_place_27 rfl (lv_at hl 1 rfl) ?_
        refine lv_icmp_ne (tgt := 35) hx hb dX6_place_28 (by decide) (fun c4 => ?_) (fun c4 => ?_)
        · have h := (k_iB h).2 c4
          refine lv_iload_n hx hb dX6_place_35 rfl (lv_at hl 2 rfl) ?_
          refine lv_istore_n (lv' := [(2, .int x2), (0, .ref h0), (1, .int p1), (3, .int x3)]) hx hb dX6_place_36 rfl hl (by decide) rfl (fun ls hl => ?_)
          refine lv_iinc (v := (x3 + 1)) (lv' := [(3, .int (x3 + 1)), (2, .int x2), (0, .ref h0), (1, .int p1)]) hx hb dX6_place_37 hl (k := 3) rfl rfl (by decide) rfl (fun ls hl => ?_)
          refine lv_goto (tgt := 5) hx hb dX6_place_40 (by decide) ?_
          exact ih x2 (x3 + 1) _ _ hP hD hS _ (lv_sub hl [2, 3, 1, 0] rfl) h
        · have h := (k_iB h).1 c4
          refine lv_iload_n hx hb dX6_place_31 rfl (lv_at hl 3 rfl) ?_
          refine lv_goto (tgt := 36) hx hb dX6_place_32 (by decide) ?_
          refine lv_istore_n (lv' := [(2, .int x3), (0, .ref h0), (1, .int p1), (3, .int x3)]) hx hb dX6_place_36 rfl hl (by decide) rfl (fun ls hl => ?_)
          refine lv_iinc (v := (x3 + 1)) (lv' := [(3, .int (x3 + 1)), (2, .int x3), (0, .ref h0), (1, .int p1)]) hx hb dX6_place_37 hl (k := 3) rfl rfl (by decide) rfl (fun ls hl => ?_)
          refine lv_goto (tgt := 5) hx hb dX6_place_40 (by decide) ?_
          exact ih x3 (x3 + 1) _ _ hP hD hS _ (lv_sub hl [2, 3, 1, 0] rfl) h
  dsimp only [d_X6_place] at h
  refine lv_bipush (v := (-5)) hx hb dX6_place_0 (by decide) ?_
  refine lv_istore_n (lv' := [(2, .int (-5)), (0, .ref h0), (1, .int p1)]) hx hb dX6_place_2 rfl hl (by decide) rfl (fun ls hl => ?_)
  refine lv_iconst (v := 0) hx hb dX6_place_3 (by decide) ?_
  refine lv_istore_n (lv' := [(3, .int 0), (2, .int (-5)), (0, .ref h0), (1, .int p1)]) hx hb dX6_place_4 rfl hl (by decide) rfl (fun ls hl => ?_)
  exact hL5   fuel (-5) 0 _ _ hP hD hS _ (lv_sub hl [2, 3, 1, 0] rfl) h
abbrev w_X6_answer (cI cC : ClassId) (h0 h_s h_aside h_past h_snapshot h_text : Nat) (m_s : Nat → Int32) (m_pasts : Int32) (m_isKept : Int32) (m_length : Int32) (m_hasStop : Int32) (m_stopAt : Int32) (m_stopWhy : Int32) (m_spot : Int32) (m_isWrong : Int32) (m_kind : Int32) (m_first : Int32) (m_second : Int32) (m_third : Int32) (m_fourth : Int32) : va_W := [(h0, .inr (6, [.ref h_s, .ref h_aside, .ref h_past, .int m_pasts, .ref h_snapshot, .int m_isKept, .ref h_text, .int m_length, .int m_hasStop, .int m_stopAt, .int m_stopWhy, .int m_spot, .int m_isWrong, .int m_kind, .int m_first, .int m_second, .int m_third, .int m_fourth])), (h_s, .inl (cI, 490, .inl m_s))]
def d_X6_answer (p1 : Int32) (p2 : Int32) (m_s : Nat → Int32) : Option (Int32) :=
    ob1 (d_X6_isAnswer p1 m_s) fun r1 =>
    if r1 = 0 then (some (-1))
    else (if (d_X6_in p2 0 8) = 0 then (some (-2))
    else (if p2 = 8 then (ob1 (d_X6_place p1 m_s) fun r7 =>
    some r7)
    else (ob1 (rd 490 m_s (d_X6_ofA p1 p2)) fun v6 =>
    some v6)))
set_option maxHeartbeats 4000000 in
set_option maxRecDepth 100000 in
theorem c_X6_answer (l : Launch) (D : va_G) (cI cC cE : ClassId) (h0 h_s h_aside h_past h_snapshot h_text : Nat) (sz : Nat) (m_s : Nat → Int32) (m_pasts : Int32) (m_isKept : Int32) (m_length : Int32) (m_hasStop : Int32) (m_stopAt : Int32) (m_stopWhy : Int32) (m_spot : Int32) (m_isWrong : Int32) (m_kind : Int32) (m_first : Int32) (m_second : Int32) (m_third : Int32) (m_fourth : Int32) (p1 : Int32) (p2 : Int32) (r0 : Int32) (h : d_X6_answer p1 p2 m_s = some r0) : Met l yX6_answer wsX6_answer ({ frames := 2, cells := 0, slots := 0, locals := 43 } : Room) (kP D (kT cI cC cE) [.ref h0, .int p1, .int p2] (w_X6_answer cI cC h0 h_s h_aside h_past h_snapshot h_text m_s m_pasts m_isKept m_length m_hasStop m_stopAt m_stopWhy m_spot m_isWrong m_kind m_first m_second m_third m_fourth) sz) (kQi D (kT cI cC cE) (w_X6_answer cI cC h0 h_s h_aside h_past h_snapshot h_text m_s m_pasts m_isKept m_length m_hasStop m_stopAt m_stopWhy m_spot m_isWrong m_kind m_first m_second m_third m_fourth) (w_X6_answer cI cC h0 h_s h_aside h_past h_snapshot h_text m_s m_pasts m_isKept m_length m_hasStop m_stopAt m_stopWhy m_spot m_isWrong m_kind m_first m_second m_third m_fourth) sz r0) 0 0 (va_A (w_X6_answer cI cC h0 h_s h_aside h_past h_snapshot h_text m_s m_pasts m_isKept m_length m_hasStop m_stopAt m_stopWhy m_spot m_isWrong m_kind m_first m_second m_third m_fourth) sz) := by
  refine kMetI (cc := cX6_answer) (maxL := 3) (own := RX6) (by decide) rfl (Nat.le_of_ble_eq_true rfl) rfl ?_
  intro p e s m below meth c A Q hx hb hml hown hts hP hK hD hA hS hname fin ls hl
  have hl : lv_has ls 3 [(0, .ref h0), (1, .int p1), (2, .int p2)] := hl
  have hiX6 : ∀ w ∈ u_ws RX6 TX6 18, w ∈ wsX6_answer := by decide +kernel
  dsimp only [d_X6_answer] at h
  refine lv_aload_n hx hb dX6_answer_0 rfl (lv_at hl 0 rfl) ?_
  refine lv_iload_n hx hb dX6_answer_1 rfl (lv_at hl 1 rfl) ?_
  obtain ⟨r1, hu2, h⟩ := ob1_el h
  refine kcVi (ci := 6) (q := (RX6, TX6, 18)) (ws1 := (w_X6_answer cI cC h0 h_s h_aside h_past h_snapshot h_text m_s m_pasts m_isKept m_length m_hasStop m_stopAt m_stopWhy m_spot m_isWrong m_kind m_first m_second m_third m_fourth)) ⟨hx, hb, hml, hown, hts⟩ [0, 1] [] (c_X6_isAnswer l D cI cC cE h0 h_s h_aside h_past h_snapshot h_text _ m_s m_pasts m_isKept m_length m_hasStop m_stopAt m_stopWhy m_spot m_isWrong m_kind m_first m_second m_third m_fourth p1 r1 hu2) (cwV 1 hts gX6_answer_X6_isAnswer rfl rfl rfl (by decide +kernel) ⟨Nat.le_of_ble_eq_true rfl, Nat.le_of_ble_eq_true rfl⟩) hK hP hD hS hA rfl rfl rfl rfl rfl rfl rfl rfl rfl hl.1 rfl (Nat.le_of_ble_eq_true rfl) dX6_answer_2 ⟨Nat.le_refl 0, Nat.le_refl 0⟩ (fun H locs hP hD hS => ?_)
  refine lv_if_ne (tgt := 10) hx hb dX6_answer_5 (by decide) (fun c3 => ?_) (fun c3 => ?_)
  · have h := (k_iB h).2 c3
    refine lv_iload_n hx hb dX6_answer_10 rfl (lv_at hl 2 rfl) ?_
    refine lv_iconst (v := 0) hx hb dX6_answer_11 (by decide) ?_
    refine lv_bipush (v := 8) hx hb dX6_answer_12 (by decide) ?_
    refine kcSi (ws1 := (w_X6_answer cI cC h0 h_s h_aside h_past h_snapshot h_text m_s m_pasts m_isKept m_length m_hasStop m_stopAt m_stopWhy m_spot m_isWrong m_kind m_first m_second m_third m_fourth)) ⟨hx, hb, hml, hown, hts⟩ [] [0, 1] (c_X6_in l D cI cC cE _ p2 0 8 (d_X6_in p2 0 8) rfl) (va_cwS 3 hts gX6_answer_X6_in rfl rfl rfl (by decide +kernel) ⟨Nat.le_of_ble_eq_true rfl, Nat.le_of_ble_eq_true rfl⟩) hK hP hD hS hA rfl rfl rfl rfl rfl rfl rfl hl.1 rfl (Nat.le_of_ble_eq_true rfl) dX6_answer_14 ⟨Nat.le_refl 0, Nat.le_refl 0⟩ (fun H locs hP hD hS => ?_)
    refine lv_if_ne (tgt := 25) hx hb dX6_answer_17 (by decide) (fun c4 => ?_) (fun c4 => ?_)
    · have h := (k_iB h).2 c4
      refine lv_iload_n hx hb dX6_answer_25 rfl (lv_at hl 2 rfl) ?_
      refine lv_bipush (v := 8) hx hb dX6_answer_26 (by decide) ?_
      refine lv_icmp_ne (tgt := 39) hx hb dX6_answer_28 (by decide) (fun c5 => ?_) (fun c5 => ?_)
      · have h := (k_iB h).2 c5
        refine lv_aload_n hx hb dX6_answer_39 rfl (lv_at hl 0 rfl) ?_
        refine va_get (ci := 6) (C := RX6) (T := TX6) (N := 18) hx hb hts hiX6 hown hK hP 0 rfl rfl 0 (by decide) (hts (.fieldLink RX6 7 "RiddleTradeModel" "s" "[I") (List.mem_of_getElem? (i := 1) rfl)) (fun _ h9 => h9) rfl dX6_answer_40 ?_
        refine lv_iload_n hx hb dX6_answer_43 rfl (lv_at hl 1 rfl) ?_
        refine lv_iload_n hx hb dX6_answer_44 rfl (lv_at hl 2 rfl) ?_
        refine kcSi (ws1 := (w_X6_answer cI cC h0 h_s h_aside h_past h_snapshot h_text m_s m_pasts m_isKept m_length m_hasStop m_stopAt m_stopWhy m_spot m_isWrong m_kind m_first m_second m_third m_fourth)) ⟨hx, hb, hml, hown, hts⟩ [] [0, 1] (c_X6_ofA l D cI cC cE _ p1 p2 (d_X6_ofA p1 p2) rfl) (va_cwS 2 hts gX6_answer_X6_ofA rfl rfl rfl (by decide +kernel) ⟨Nat.le_of_ble_eq_true rfl, Nat.le_of_ble_eq_true rfl⟩) hK hP hD hS hA rfl rfl rfl rfl rfl rfl rfl hl.1 rfl (Nat.le_of_ble_eq_true rfl) dX6_answer_45 ⟨Nat.le_refl 0, Nat.le_refl 0⟩ (fun H locs hP hD hS => ?_)
        refine k_iald hx hb hK hP 1 0 rfl rfl h dX6_answer_48 (fun v6 h => ?_)
        obtain rfl := Option.some.inj h
        exact fin _ _ _ _ dX6_answer_49 hP hD hS
      · have h := (k_iB h).1 c5
        refine lv_aload_n hx hb dX6_answer_31 rfl (lv_at hl 0 rfl) ?_
        refine lv_iload_n hx hb dX6_answer_32 rfl (lv_at hl 1 rfl) ?_
        obtain ⟨r7, hu8, h⟩ := ob1_el h
        refine kcVi (ci := 6) (q := (RX6, TX6, 18)) (ws1 := (w_X6_answer cI cC h0 h_s h_aside h_past h_snapshot h_text m_s m_pasts m_isKept m_length m_hasStop m_stopAt m_stopWhy m_spot m_isWrong m_kind m_first m_second m_third m_fourth)) ⟨hx, hb, hml, hown, hts⟩ [0, 1] [] (c_X6_place l D cI cC cE h0 h_s h_aside h_past h_snapshot h_text _ m_s m_pasts m_isKept m_length m_hasStop m_stopAt m_stopWhy m_spot m_isWrong m_kind m_first m_second m_third m_fourth p1 r7 hu8) (cwV 1 hts gX6_answer_X6_place rfl rfl rfl (by decide +kernel) ⟨Nat.le_of_ble_eq_true rfl, Nat.le_of_ble_eq_true rfl⟩) hK hP hD hS hA rfl rfl rfl rfl rfl rfl rfl rfl rfl hl.1 rfl (Nat.le_of_ble_eq_true rfl) dX6_answer_33 ⟨Nat.le_refl 0, Nat.le_refl 0⟩ (fun H locs hP hD hS => ?_)
        refine lv_goto (tgt := 49) hx hb dX6_answer_36 (by decide) ?_
        obtain rfl := Option.some.inj h
        exact fin _ _ _ _ dX6_answer_49 hP hD hS
    · have h := (k_iB h).1 c4
      refine lv_bipush (v := (-2)) hx hb dX6_answer_20 (by decide) ?_
      refine lv_goto (tgt := 49) hx hb dX6_answer_22 (by decide) ?_
      obtain rfl := Option.some.inj h
      exact fin _ _ _ _ dX6_answer_49 hP hD hS
  · have h := (k_iB h).1 c3
    refine lv_iconst (v := (-1)) hx hb dX6_answer_8 (by decide) ?_
    obtain rfl := Option.some.inj h
    exact fin _ _ _ _ dX6_answer_9 hP hD hS
abbrev w_X6_waits (cI cC : ClassId) (h0 h_s h_aside h_past h_snapshot h_text : Nat) (m_s : Nat → Int32) (m_pasts : Int32) (m_isKept : Int32) (m_length : Int32) (m_hasStop : Int32) (m_stopAt : Int32) (m_stopWhy : Int32) (m_spot : Int32) (m_isWrong : Int32) (m_kind : Int32) (m_first : Int32) (m_second : Int32) (m_third : Int32) (m_fourth : Int32) : va_W := [(h0, .inr (6, [.ref h_s, .ref h_aside, .ref h_past, .int m_pasts, .ref h_snapshot, .int m_isKept, .ref h_text, .int m_length, .int m_hasStop, .int m_stopAt, .int m_stopWhy, .int m_spot, .int m_isWrong, .int m_kind, .int m_first, .int m_second, .int m_third, .int m_fourth])), (h_s, .inl (cI, 490, .inl m_s))]
def d_X6_waits (p1 : Int32) (m_s : Nat → Int32) : Option (Int32) :=
    if 0 ≤ p1 then (ob1 (rd 490 m_s 476) fun v2 =>
    if v2 ≤ p1 then (some (-5))
    else (ob1 (rd 490 m_s (436 + p1)) fun v4 =>
    some v4))
    else (some (-2))
set_option maxHeartbeats 4000000 in
set_option maxRecDepth 100000 in
theorem c_X6_waits (l : Launch) (D : va_G) (cI cC cE : ClassId) (h0 h_s h_aside h_past h_snapshot h_text : Nat) (sz : Nat) (m_s : Nat → Int32) (m_pasts : Int32) (m_isKept : Int32) (m_length : Int32) (m_hasStop : Int32) (m_stopAt : Int32) (m_stopWhy : Int32) (m_spot : Int32) (m_isWrong : Int32) (m_kind : Int32) (m_first : Int32) (m_second : Int32) (m_third : Int32) (m_fourth : Int32) (p1 : Int32) (r0 : Int32) (h : d_X6_waits p1 m_s = some r0) : Met l yX6_waits wsX6_waits ({ frames := 0, cells := 0, slots := 0, locals := 0 } : Room) (kP D (kT cI cC cE) [.ref h0, .int p1] (w_X6_waits cI cC h0 h_s h_aside h_past h_snapshot h_text m_s m_pasts m_isKept m_length m_hasStop m_stopAt m_stopWhy m_spot m_isWrong m_kind m_first m_second m_third m_fourth) sz) (kQi D (kT cI cC cE) (w_X6_waits cI cC h0 h_s h_aside h_past h_snapshot h_text m_s m_pasts m_isKept m_length m_hasStop m_stopAt m_stopWhy m_spot m_isWrong m_kind m_first m_second m_third m_fourth) (w_X6_waits cI cC h0 h_s h_aside h_past h_snapshot h_text m_s m_pasts m_isKept m_length m_hasStop m_stopAt m_stopWhy m_spot m_isWrong m_kind m_first m_second m_third m_fourth) sz r0) 0 0 (va_A (w_X6_waits cI cC h0 h_s h_aside h_past h_snapshot h_text m_s m_pasts m_isKept m_length m_hasStop m_stopAt m_stopWhy m_spot m_isWrong m_kind m_first m_second m_third m_fourth) sz) := by
  refine kMetI (cc := cX6_waits) (maxL := 2) (own := RX6) (by decide) rfl (Nat.le_of_ble_eq_true rfl) rfl ?_
  intro p e s m below meth c A Q hx hb hml hown hts hP hK hD hA hS hname fin ls hl
  have hl : lv_has ls 2 [(0, .ref h0), (1, .int p1)] := hl
  have hiX6 : ∀ w ∈ u_ws RX6 TX6 18, w ∈ wsX6_waits := by decide +kernel
  dsimp only [d_X6_waits] at h
  refine lv_iload_n hx hb dX6_waits_0 rfl (lv_at hl 1 rfl) ?_
  refine lv_if_ge (tgt := 9) hx hb dX6_waits_1 (by decide) (fun c1 => ?_) (fun c1 => ?_)
  · have h := (k_iB h).1 c1
    refine lv_iload_n hx hb dX6_waits_9 rfl (lv_at hl 1 rfl) ?_
    refine lv_aload_n hx hb dX6_waits_10 rfl (lv_at hl 0 rfl) ?_
    refine va_get (ci := 6) (C := RX6) (T := TX6) (N := 18) hx hb hts hiX6 hown hK hP 0 rfl rfl 0 (by decide) (hts (.fieldLink RX6 7 "RiddleTradeModel" "s" "[I") (List.mem_of_getElem? (i := 1) rfl)) (fun _ h9 => h9) rfl dX6_waits_11 ?_
    refine lv_sipush (v := 476) hx hb dX6_waits_14 (by decide) ?_
    refine k_iald hx hb hK hP 1 0 rfl rfl h dX6_waits_17 (fun v2 h => ?_)
    refine lv_icmp_ge (tgt := 34) hx hb dX6_waits_18 (by decide) (fun c3 => ?_) (fun c3 => ?_)
    · have h := (k_iB h).1 c3
      refine lv_bipush (v := (-5)) hx hb dX6_waits_34 (by decide) ?_
      obtain rfl := Option.some.inj h
      exact fin _ _ _ _ dX6_waits_36 hP hD hS
    · have h := (k_iB h).2 c3
      refine lv_aload_n hx hb dX6_waits_21 rfl (lv_at hl 0 rfl) ?_
      refine va_get (ci := 6) (C := RX6) (T := TX6) (N := 18) hx hb hts hiX6 hown hK hP 0 rfl rfl 0 (by decide) (hts (.fieldLink RX6 7 "RiddleTradeModel" "s" "[I") (List.mem_of_getElem? (i := 1) rfl)) (fun _ h9 => h9) rfl dX6_waits_22 ?_
      refine lv_sipush (v := 436) hx hb dX6_waits_25 (by decide) ?_
      refine lv_iload_n hx hb dX6_waits_28 rfl (lv_at hl 1 rfl) ?_
      refine lv_iadd hx hb dX6_waits_29 ?_
      refine k_iald hx hb hK hP 1 0 rfl rfl h dX6_waits_30 (fun v4 h => ?_)
      refine lv_goto (tgt := 36) hx hb dX6_waits_31 (by decide) ?_
      obtain rfl := Option.some.inj h
      exact fin _ _ _ _ dX6_waits_36 hP hD hS
  · have h := (k_iB h).2 c1
    refine lv_bipush (v := (-2)) hx hb dX6_waits_4 (by decide) ?_
    refine lv_goto (tgt := 36) hx hb dX6_waits_6 (by decide) ?_
    obtain rfl := Option.some.inj h
    exact fin _ _ _ _ dX6_waits_36 hP hD hS
abbrev w_X6_weigh (cI cC : ClassId) (h0 h_s h_aside h_past h_snapshot h_text : Nat) (m_s : Nat → Int32) (m_pasts : Int32) (m_isKept : Int32) (m_length : Int32) (m_hasStop : Int32) (m_stopAt : Int32) (m_stopWhy : Int32) (m_spot : Int32) (m_isWrong : Int32) (m_kind : Int32) (m_first : Int32) (m_second : Int32) (m_third : Int32) (m_fourth : Int32) : va_W := [(h0, .inr (6, [.ref h_s, .ref h_aside, .ref h_past, .int m_pasts, .ref h_snapshot, .int m_isKept, .ref h_text, .int m_length, .int m_hasStop, .int m_stopAt, .int m_stopWhy, .int m_spot, .int m_isWrong, .int m_kind, .int m_first, .int m_second, .int m_third, .int m_fourth])), (h_s, .inl (cI, 490, .inl m_s))]
def d_X6_weigh (p1 : Int32) (p2 : Int32) (m_s : Nat → Int32) : Option (Int32) :=
    if (d_X6_in p1 0 1) = 0 then (some (-1))
    else (if (d_X6_in p2 1 99) = 0 then (some (-2))
    else (ob1 (d_X6_tells p1 p2 m_s) fun r3 =>
    some r3))
set_option maxHeartbeats 4000000 in
set_option maxRecDepth 100000 in
theorem c_X6_weigh (l : Launch) (D : va_G) (cI cC cE : ClassId) (h0 h_s h_aside h_past h_snapshot h_text : Nat) (sz : Nat) (m_s : Nat → Int32) (m_pasts : Int32) (m_isKept : Int32) (m_length : Int32) (m_hasStop : Int32) (m_stopAt : Int32) (m_stopWhy : Int32) (m_spot : Int32) (m_isWrong : Int32) (m_kind : Int32) (m_first : Int32) (m_second : Int32) (m_third : Int32) (m_fourth : Int32) (p1 : Int32) (p2 : Int32) (r0 : Int32) (h : d_X6_weigh p1 p2 m_s = some r0) : Met l yX6_weigh wsX6_weigh ({ frames := 1, cells := 0, slots := 0, locals := 23 } : Room) (kP D (kT cI cC cE) [.ref h0, .int p1, .int p2] (w_X6_weigh cI cC h0 h_s h_aside h_past h_snapshot h_text m_s m_pasts m_isKept m_length m_hasStop m_stopAt m_stopWhy m_spot m_isWrong m_kind m_first m_second m_third m_fourth) sz) (kQi D (kT cI cC cE) (w_X6_weigh cI cC h0 h_s h_aside h_past h_snapshot h_text m_s m_pasts m_isKept m_length m_hasStop m_stopAt m_stopWhy m_spot m_isWrong m_kind m_first m_second m_third m_fourth) (w_X6_weigh cI cC h0 h_s h_aside h_past h_snapshot h_text m_s m_pasts m_isKept m_length m_hasStop m_stopAt m_stopWhy m_spot m_isWrong m_kind m_first m_second m_third m_fourth) sz r0) 0 0 (va_A (w_X6_weigh cI cC h0 h_s h_aside h_past h_snapshot h_text m_s m_pasts m_isKept m_length m_hasStop m_stopAt m_stopWhy m_spot m_isWrong m_kind m_first m_second m_third m_fourth) sz) := by
  refine kMetI (cc := cX6_weigh) (maxL := 3) (own := RX6) (by decide) rfl (Nat.le_of_ble_eq_true rfl) rfl ?_
  intro p e s m below meth c A Q hx hb hml hown hts hP hK hD hA hS hname fin ls hl
  have hl : lv_has ls 3 [(0, .ref h0), (1, .int p1), (2, .int p2)] := hl
  dsimp only [d_X6_weigh] at h
  refine lv_iload_n hx hb dX6_weigh_0 rfl (lv_at hl 1 rfl) ?_
  refine lv_iconst (v := 0) hx hb dX6_weigh_1 (by decide) ?_
  refine lv_iconst (v := 1) hx hb dX6_weigh_2 (by decide) ?_
  refine kcSi (ws1 := (w_X6_weigh cI cC h0 h_s h_aside h_past h_snapshot h_text m_s m_pasts m_isKept m_length m_hasStop m_stopAt m_stopWhy m_spot m_isWrong m_kind m_first m_second m_third m_fourth)) ⟨hx, hb, hml, hown, hts⟩ [] [0, 1] (c_X6_in l D cI cC cE _ p1 0 1 (d_X6_in p1 0 1) rfl) (va_cwS 3 hts gX6_weigh_X6_in rfl rfl rfl (by decide +kernel) ⟨Nat.le_of_ble_eq_true rfl, Nat.le_of_ble_eq_true rfl⟩) hK hP hD hS hA rfl rfl rfl rfl rfl rfl rfl hl.1 rfl (Nat.le_of_ble_eq_true rfl) dX6_weigh_3 ⟨Nat.le_refl 0, Nat.le_refl 0⟩ (fun H locs hP hD hS => ?_)
  refine lv_if_ne (tgt := 13) hx hb dX6_weigh_6 (by decide) (fun c1 => ?_) (fun c1 => ?_)
  · have h := (k_iB h).2 c1
    refine lv_iload_n hx hb dX6_weigh_13 rfl (lv_at hl 2 rfl) ?_
    refine lv_iconst (v := 1) hx hb dX6_weigh_14 (by decide) ?_
    refine lv_bipush (v := 99) hx hb dX6_weigh_15 (by decide) ?_
    refine kcSi (ws1 := (w_X6_weigh cI cC h0 h_s h_aside h_past h_snapshot h_text m_s m_pasts m_isKept m_length m_hasStop m_stopAt m_stopWhy m_spot m_isWrong m_kind m_first m_second m_third m_fourth)) ⟨hx, hb, hml, hown, hts⟩ [] [0, 1] (c_X6_in l D cI cC cE _ p2 1 99 (d_X6_in p2 1 99) rfl) (va_cwS 3 hts gX6_weigh_X6_in rfl rfl rfl (by decide +kernel) ⟨Nat.le_of_ble_eq_true rfl, Nat.le_of_ble_eq_true rfl⟩) hK hP hD hS hA rfl rfl rfl rfl rfl rfl rfl hl.1 rfl (Nat.le_of_ble_eq_true rfl) dX6_weigh_17 ⟨Nat.le_refl 0, Nat.le_refl 0⟩ (fun H locs hP hD hS => ?_)
    refine lv_if_ne (tgt := 28) hx hb dX6_weigh_20 (by decide) (fun c2 => ?_) (fun c2 => ?_)
    · have h := (k_iB h).2 c2
      refine lv_aload_n hx hb dX6_weigh_28 rfl (lv_at hl 0 rfl) ?_
      refine lv_iload_n hx hb dX6_weigh_29 rfl (lv_at hl 1 rfl) ?_
      refine lv_iload_n hx hb dX6_weigh_30 rfl (lv_at hl 2 rfl) ?_
      obtain ⟨r3, hu4, h⟩ := ob1_el h
      refine kcVi (ci := 6) (q := (RX6, TX6, 18)) (ws1 := (w_X6_weigh cI cC h0 h_s h_aside h_past h_snapshot h_text m_s m_pasts m_isKept m_length m_hasStop m_stopAt m_stopWhy m_spot m_isWrong m_kind m_first m_second m_third m_fourth)) ⟨hx, hb, hml, hown, hts⟩ [0, 1] [] (c_X6_tells l D cI cC cE h0 h_s h_aside h_past h_snapshot h_text _ m_s m_pasts m_isKept m_length m_hasStop m_stopAt m_stopWhy m_spot m_isWrong m_kind m_first m_second m_third m_fourth p1 p2 r3 hu4) (cwV 2 hts gX6_weigh_X6_tells rfl rfl rfl (by decide +kernel) ⟨Nat.le_of_ble_eq_true rfl, Nat.le_of_ble_eq_true rfl⟩) hK hP hD hS hA rfl rfl rfl rfl rfl rfl rfl rfl rfl hl.1 rfl (Nat.le_of_ble_eq_true rfl) dX6_weigh_31 ⟨Nat.le_refl 0, Nat.le_refl 0⟩ (fun H locs hP hD hS => ?_)
      obtain rfl := Option.some.inj h
      exact fin _ _ _ _ dX6_weigh_34 hP hD hS
    · have h := (k_iB h).1 c2
      refine lv_bipush (v := (-2)) hx hb dX6_weigh_23 (by decide) ?_
      refine lv_goto (tgt := 34) hx hb dX6_weigh_25 (by decide) ?_
      obtain rfl := Option.some.inj h
      exact fin _ _ _ _ dX6_weigh_34 hP hD hS
  · have h := (k_iB h).1 c1
    refine lv_iconst (v := (-1)) hx hb dX6_weigh_9 (by decide) ?_
    refine lv_goto (tgt := 34) hx hb dX6_weigh_10 (by decide) ?_
    obtain rfl := Option.some.inj h
    exact fin _ _ _ _ dX6_weigh_34 hP hD hS
abbrev w_X6_reason (cI cC : ClassId) (h0 h_s h_aside h_past h_snapshot h_text : Nat) (m_s : Nat → Int32) (m_pasts : Int32) (m_isKept : Int32) (m_length : Int32) (m_hasStop : Int32) (m_stopAt : Int32) (m_stopWhy : Int32) (m_spot : Int32) (m_isWrong : Int32) (m_kind : Int32) (m_first : Int32) (m_second : Int32) (m_third : Int32) (m_fourth : Int32) : va_W := [(h0, .inr (6, [.ref h_s, .ref h_aside, .ref h_past, .int m_pasts, .ref h_snapshot, .int m_isKept, .ref h_text, .int m_length, .int m_hasStop, .int m_stopAt, .int m_stopWhy, .int m_spot, .int m_isWrong, .int m_kind, .int m_first, .int m_second, .int m_third, .int m_fourth])), (h_s, .inl (cI, 490, .inl m_s))]
def d_X6_reason (p1 : Int32) (m_s : Nat → Int32) : Option (Int32) :=
    ob1 (d_X6_isAnswer p1 m_s) fun r1 =>
    if r1 = 0 then (some (-1))
    else (ob1 (rd 490 m_s (d_X6_ofA p1 4)) fun v4 =>
    if v4 = 0 then (ob1 (rd 490 m_s (d_X6_ofA p1 1)) fun v6 =>
    ob1 (rd 490 m_s (d_X6_ofA p1 3)) fun v7 =>
    ob1 (d_X6_tells 0 v7 m_s) fun r8 =>
    ob1 (rd 490 m_s (d_X6_ofA p1 3)) fun v10 =>
    ob1 (d_X6_tells 1 v10 m_s) fun r11 =>
    ob1 (rd 490 m_s (d_X6_ofR v6 3)) fun v13 =>
    if v13 = 0 then (ob1 (rd 490 m_s (d_X6_ofR v6 2)) fun v15 =>
    ob1 (rd 490 m_s (d_X6_ofA p1 2)) fun v16 =>
    if v15 = v16 then (ob1 (rd 490 m_s 479) fun v18 =>
    if (d_X6_size (r8 - r11)) ≤ v18 then (ob1 (d_X6_payment p1 r8 r11 m_s) fun r20 =>
    ob1 (d_X6_canPay p1 r20 m_s) fun r22 =>
    if r22 = 0 then (some 4)
    else (some 0))
    else (some 3))
    else (some 2))
    else (some 1))
    else (some (-4)))
set_option maxHeartbeats 4000000 in
set_option maxRecDepth 100000 in
theorem c_X6_reason (l : Launch) (D : va_G) (cI cC cE : ClassId) (h0 h_s h_aside h_past h_snapshot h_text : Nat) (sz : Nat) (m_s : Nat → Int32) (m_pasts : Int32) (m_isKept : Int32) (m_length : Int32) (m_hasStop : Int32) (m_stopAt : Int32) (m_stopWhy : Int32) (m_spot : Int32) (m_isWrong : Int32) (m_kind : Int32) (m_first : Int32) (m_second : Int32) (m_third : Int32) (m_fourth : Int32) (p1 : Int32) (r0 : Int32) (h : d_X6_reason p1 m_s = some r0) : Met l yX6_reason wsX6_reason ({ frames := 2, cells := 0, slots := 0, locals := 44 } : Room) (kP D (kT cI cC cE) [.ref h0, .int p1] (w_X6_reason cI cC h0 h_s h_aside h_past h_snapshot h_text m_s m_pasts m_isKept m_length m_hasStop m_stopAt m_stopWhy m_spot m_isWrong m_kind m_first m_second m_third m_fourth) sz) (kQi D (kT cI cC cE) (w_X6_reason cI cC h0 h_s h_aside h_past h_snapshot h_text m_s m_pasts m_isKept m_length m_hasStop m_stopAt m_stopWhy m_spot m_isWrong m_kind m_first m_second m_third m_fourth) (w_X6_reason cI cC h0 h_s h_aside h_past h_snapshot h_text m_s m_pasts m_isKept m_length m_hasStop m_stopAt m_stopWhy m_spot m_isWrong m_kind m_first m_second m_third m_fourth) sz r0) 0 0 (va_A (w_X6_reason cI cC h0 h_s h_aside h_past h_snapshot h_text m_s m_pasts m_isKept m_length m_hasStop m_stopAt m_stopWhy m_spot m_isWrong m_kind m_first m_second m_third m_fourth) sz) := by
  refine kMetI (cc := cX6_reason) (maxL := 5) (own := RX6) (by decide) rfl (Nat.le_of_ble_eq_true rfl) rfl ?_
  intro p e s m below meth c A Q hx hb hml hown hts hP hK hD hA hS hname fin ls hl
  have hl : lv_has ls 5 [(0, .ref h0), (1, .int p1)] := hl
  have hiX6 : ∀ w ∈ u_ws RX6 TX6 18, w ∈ wsX6_reason := by decide +kernel
  dsimp only [d_X6_reason] at h
  refine lv_aload_n hx hb dX6_reason_0 rfl (lv_at hl 0 rfl) ?_
  refine lv_iload_n hx hb dX6_reason_1 rfl (lv_at hl 1 rfl) ?_
  obtain ⟨r1, hu2, h⟩ := ob1_el h
  refine kcVi (ci := 6) (q := (RX6, TX6, 18)) (ws1 := (w_X6_reason cI cC h0 h_s h_aside h_past h_snapshot h_text m_s m_pasts m_isKept m_length m_hasStop m_stopAt m_stopWhy m_spot m_isWrong m_kind m_first m_second m_third m_fourth)) ⟨hx, hb, hml, hown, hts⟩ [0, 1] [] (c_X6_isAnswer l D cI cC cE h0 h_s h_aside h_past h_snapshot h_text _ m_s m_pasts m_isKept m_length m_hasStop m_stopAt m_stopWhy m_spot m_isWrong m_kind m_first m_second m_third m_fourth p1 r1 hu2) (cwV 1 hts gX6_reason_X6_isAnswer rfl rfl rfl (by decide +kernel) ⟨Nat.le_of_ble_eq_true rfl, Nat.le_of_ble_eq_true rfl⟩) hK hP hD hS hA rfl rfl rfl rfl rfl rfl rfl rfl rfl hl.1 rfl (Nat.le_of_ble_eq_true rfl) dX6_reason_2 ⟨Nat.le_refl 0, Nat.le_refl 0⟩ (fun H locs hP hD hS => ?_)
  refine lv_if_ne (tgt := 10) hx hb dX6_reason_5 (by decide) (fun c3 => ?_) (fun c3 => ?_)
  · have h := (k_iB h).2 c3
    refine lv_aload_n hx hb dX6_reason_10 rfl (lv_at hl 0 rfl) ?_
    refine va_get (ci := 6) (C := RX6) (T := TX6) (N := 18) hx hb hts hiX6 hown hK hP 0 rfl rfl 0 (by decide) (hts (.fieldLink RX6 7 "RiddleTradeModel" "s" "[I") (List.mem_of_getElem? (i := 1) rfl)) (fun _ h9 => h9) rfl dX6_reason_11 ?_
    refine lv_iload_n hx hb dX6_reason_14 rfl (lv_at hl 1 rfl) ?_
    refine lv_iconst (v := 4) hx hb dX6_reason_15 (by decide) ?_
    refine kcSi (ws1 := (w_X6_reason cI cC h0 h_s h_aside h_past h_snapshot h_text m_s m_pasts m_isKept m_length m_hasStop m_stopAt m_stopWhy m_spot m_isWrong m_kind m_first m_second m_third m_fourth)) ⟨hx, hb, hml, hown, hts⟩ [] [0, 1] (c_X6_ofA l D cI cC cE _ p1 4 (d_X6_ofA p1 4) rfl) (va_cwS 2 hts gX6_reason_X6_ofA rfl rfl rfl (by decide +kernel) ⟨Nat.le_of_ble_eq_true rfl, Nat.le_of_ble_eq_true rfl⟩) hK hP hD hS hA rfl rfl rfl rfl rfl rfl rfl hl.1 rfl (Nat.le_of_ble_eq_true rfl) dX6_reason_16 ⟨Nat.le_refl 0, Nat.le_refl 0⟩ (fun H locs hP hD hS => ?_)
    refine k_iald hx hb hK hP 1 0 rfl rfl h dX6_reason_19 (fun v4 h => ?_)
    refine lv_if_eq (tgt := 26) hx hb dX6_reason_20 (by decide) (fun c5 => ?_) (fun c5 => ?_)
    · have h := (k_iB h).1 c5
      refine lv_aload_n hx hb dX6_reason_26 rfl (lv_at hl 0 rfl) ?_
      refine va_get (ci := 6) (C := RX6) (T := TX6) (N := 18) hx hb hts hiX6 hown hK hP 0 rfl rfl 0 (by decide) (hts (.fieldLink RX6 7 "RiddleTradeModel" "s" "[I") (List.mem_of_getElem? (i := 1) rfl)) (fun _ h9 => h9) rfl dX6_reason_27 ?_
      refine lv_iload_n hx hb dX6_reason_30 rfl (lv_at hl 1 rfl) ?_
      refine lv_iconst (v := 1) hx hb dX6_reason_31 (by decide) ?_
      refine kcSi (ws1 := (w_X6_reason cI cC h0 h_s h_aside h_past h_snapshot h_text m_s m_pasts m_isKept m_length m_hasStop m_stopAt m_stopWhy m_spot m_isWrong m_kind m_first m_second m_third m_fourth)) ⟨hx, hb, hml, hown, hts⟩ [] [0, 1] (c_X6_ofA l D cI cC cE _ p1 1 (d_X6_ofA p1 1) rfl) (va_cwS 2 hts gX6_reason_X6_ofA rfl rfl rfl (by decide +kernel) ⟨Nat.le_of_ble_eq_true rfl, Nat.le_of_ble_eq_true rfl⟩) hK hP hD hS hA rfl rfl rfl rfl rfl rfl rfl hl.1 rfl (Nat.le_of_ble_eq_true rfl) dX6_reason_32 ⟨Nat.le_refl 0, Nat.le_refl 0⟩ (fun H locs hP hD hS => ?_)
      refine k_iald hx hb hK hP 1 0 rfl rfl h dX6_reason_35 (fun v6 h => ?_)
      refine lv_istore_n (lv' := [(2, .int v6), (0, .ref h0), (1, .int p1)]) hx hb dX6_reason_36 rfl hl (by decide) rfl (fun ls hl => ?_)
      refine lv_aload_n hx hb dX6_reason_37 rfl (lv_at hl 1 rfl) ?_
      refine lv_iconst (v := 0) hx hb dX6_reason_38 (by decide) ?_
      refine lv_aload_n hx hb dX6_reason_39 rfl (lv_at hl 1 rfl) ?_
      refine va_get (ci := 6) (C := RX6) (T := TX6) (N := 18) hx hb hts hiX6 hown hK hP 0 rfl rfl 0 (by decide) (hts (.fieldLink RX6 7 "RiddleTradeModel" "s" "[I") (List.mem_of_getElem? (i := 1) rfl)) (fun _ h9 => h9) rfl dX6_reason_40 ?_
      refine lv_iload_n hx hb dX6_reason_43 rfl (lv_at hl 2 rfl) ?_
      refine lv_iconst (v := 3) hx hb dX6_reason_44 (by decide) ?_
      refine kcSi (ws1 := (w_X6_reason cI cC h0 h_s h_aside h_past h_snapshot h_text m_s m_pasts m_isKept m_length m_hasStop m_stopAt m_stopWhy m_spot m_isWrong m_kind m_first m_second m_third m_fourth)) ⟨hx, hb, hml, hown, hts⟩ [] [0, 1] (c_X6_ofA l D cI cC cE _ p1 3 (d_X6_ofA p1 3) rfl) (va_cwS 2 hts gX6_reason_X6_ofA rfl rfl rfl (by decide +kernel) ⟨Nat.le_of_ble_eq_true rfl, Nat.le_of_ble_eq_true rfl⟩) hK hP hD hS hA rfl rfl rfl rfl rfl rfl rfl hl.1 rfl (Nat.le_of_ble_eq_true rfl) dX6_reason_45 ⟨Nat.le_refl 0, Nat.le_refl 0⟩ (fun H locs hP hD hS => ?_)
      refine k_iald hx hb hK hP 1 0 rfl rfl h dX6_reason_48 (fun v7 h => ?_)
      obtain ⟨r8, hu9, h⟩ := ob1_el h
      refine kcVi (ci := 6) (q := (RX6, TX6, 18)) (ws1 := (w_X6_reason cI cC h0 h_s h_aside h_past h_snapshot h_text m_s m_pasts m_isKept m_length m_hasStop m_stopAt m_stopWhy m_spot m_isWrong m_kind m_first m_second m_third m_fourth)) ⟨hx, hb, hml, hown, hts⟩ [0, 1] [] (c_X6_tells l D cI cC cE h0 h_s h_aside h_past h_snapshot h_text _ m_s m_pasts m_isKept m_length m_hasStop m_stopAt m_stopWhy m_spot m_isWrong m_kind m_first m_second m_third m_fourth 0 v7 r8 hu9) (cwV 2 hts gX6_reason_X6_tells rfl rfl rfl (by decide +kernel) ⟨Nat.le_of_ble_eq_true rfl, Nat.le_of_ble_eq_true rfl⟩) hK hP hD hS hA rfl rfl rfl rfl rfl rfl rfl rfl rfl hl.1 rfl (Nat.le_of_ble_eq_true rfl) dX6_reason_49 ⟨Nat.le_refl 0, Nat.le_refl 0⟩ (fun H locs hP hD hS => ?_)
      refine lv_istore_n (lv' := [(3, .int r8), (2, .int v6), (0, .ref h0), (1, .int p1)]) hx hb dX6_reason_52 rfl hl (by decide) rfl (fun ls hl => ?_)
      refine lv_aload_n hx hb dX6_reason_53 rfl (lv_at hl 2 rfl) ?_
      refine lv_iconst (v := 1) hx hb dX6_reason_54 (by decide) ?_
      refine lv_aload_n hx hb dX6_reason_55 rfl (lv_at hl 2 rfl) ?_
      refine va_get (ci := 6) (C := RX6) (T := TX6) (N := 18) hx hb hts hiX6 hown hK hP 0 rfl rfl 0 (by decide) (hts (.fieldLink RX6 7 "RiddleTradeModel" "s" "[I") (List.mem_of_getElem? (i := 1) rfl)) (fun _ h9 => h9) rfl dX6_reason_56 ?_
      refine lv_iload_n hx hb dX6_reason_59 rfl (lv_at hl 3 rfl) ?_
      refine lv_iconst (v := 3) hx hb dX6_reason_60 (by decide) ?_
      refine kcSi (ws1 := (w_X6_reason cI cC h0 h_s h_aside h_past h_snapshot h_text m_s m_pasts m_isKept m_length m_hasStop m_stopAt m_stopWhy m_spot m_isWrong m_kind m_first m_second m_third m_fourth)) ⟨hx, hb, hml, hown, hts⟩ [] [0, 1] (c_X6_ofA l D cI cC cE _ p1 3 (d_X6_ofA p1 3) rfl) (va_cwS 2 hts gX6_reason_X6_ofA rfl rfl rfl (by decide +kernel) ⟨Nat.le_of_ble_eq_true rfl, Nat.le_of_ble_eq_true rfl⟩) hK hP hD hS hA rfl rfl rfl rfl rfl rfl rfl hl.1 rfl (Nat.le_of_ble_eq_true rfl) dX6_reason_61 ⟨Nat.le_refl 0, Nat.le_refl 0⟩ (fun H locs hP hD hS => ?_)
      refine k_iald hx hb hK hP 1 0 rfl rfl h dX6_reason_64 (fun v10 h => ?_)
      obtain ⟨r11, hu12, h⟩ := ob1_el h
      refine kcVi (ci := 6) (q := (RX6, TX6, 18)) (ws1 := (w_X6_reason cI cC h0 h_s h_aside h_past h_snapshot h_text m_s m_pasts m_isKept m_length m_hasStop m_stopAt m_stopWhy m_spot m_isWrong m_kind m_first m_second m_third m_fourth)) ⟨hx, hb, hml, hown, hts⟩ [0, 1] [] (c_X6_tells l D cI cC cE h0 h_s h_aside h_past h_snapshot h_text _ m_s m_pasts m_isKept m_length m_hasStop m_stopAt m_stopWhy m_spot m_isWrong m_kind m_first m_second m_third m_fourth 1 v10 r11 hu12) (cwV 2 hts gX6_reason_X6_tells rfl rfl rfl (by decide +kernel) ⟨Nat.le_of_ble_eq_true rfl, Nat.le_of_ble_eq_true rfl⟩) hK hP hD hS hA rfl rfl rfl rfl rfl rfl rfl rfl rfl hl.1 rfl (Nat.le_of_ble_eq_true rfl) dX6_reason_65 ⟨Nat.le_refl 0, Nat.le_refl 0⟩ (fun H locs hP hD hS => ?_)
      refine lv_istore (lv' := [(4, .int r11), (3, .int r8), (2, .int v6), (0, .ref h0), (1, .int p1)]) hx hb dX6_reason_68 hl (by decide) rfl (fun ls hl => ?_)
      refine lv_aload_n hx hb dX6_reason_70 rfl (lv_at hl 3 rfl) ?_
      refine va_get (ci := 6) (C := RX6) (T := TX6) (N := 18) hx hb hts hiX6 hown hK hP 0 rfl rfl 0 (by decide) (hts (.fieldLink RX6 7 "RiddleTradeModel" "s" "[I") (List.mem_of_getElem? (i := 1) rfl)) (fun _ h9 => h9) rfl dX6_reason_71 ?_
      refine lv_iload_n hx hb dX6_reason_74 rfl (lv_at hl 2 rfl) ?_
      refine lv_iconst (v := 3) hx hb dX6_reason_75 (by decide) ?_
      refine kcSi (ws1 := (w_X6_reason cI cC h0 h_s h_aside h_past h_snapshot h_text m_s m_pasts m_isKept m_length m_hasStop m_stopAt m_stopWhy m_spot m_isWrong m_kind m_first m_second m_third m_fourth)) ⟨hx, hb, hml, hown, hts⟩ [] [0, 1] (c_X6_ofR l D cI cC cE _ v6 3 (d_X6_ofR v6 3) rfl) (va_cwS 2 hts gX6_reason_X6_ofR rfl rfl rfl (by decide +kernel) ⟨Nat.le_of_ble_eq_true rfl, Nat.le_of_ble_eq_true rfl⟩) hK hP hD hS hA rfl rfl rfl rfl rfl rfl rfl hl.1 rfl (Nat.le_of_ble_eq_true rfl) dX6_reason_76 ⟨Nat.le_refl 0, Nat.le_refl 0⟩ (fun H locs hP hD hS => ?_)
      refine k_iald hx hb hK hP 1 0 rfl rfl h dX6_reason_79 (fun v13 h => ?_)
      refine lv_if_eq (tgt := 87) hx hb dX6_reason_80 (by decide) (fun c14 => ?_) (fun c14 => ?_)
      · have h := (k_iB h).1 c14
        refine lv_aload_n hx hb dX6_reason_87 rfl (lv_at hl 3 rfl) ?_
        refine va_get (ci := 6) (C := RX6) (T := TX6) (N := 18) hx hb hts hiX6 hown hK hP 0 rfl rfl 0 (by decide) (hts (.fieldLink RX6 7 "RiddleTradeModel" "s" "[I") (List.mem_of_getElem? (i := 1) rfl)) (fun _ h9 => h9) rfl dX6_reason_88 ?_
        refine lv_iload_n hx hb dX6_reason_91 rfl (lv_at hl 2 rfl) ?_
        refine lv_iconst (v := 2) hx hb dX6_reason_92 (by decide) ?_
        refine kcSi (ws1 := (w_X6_reason cI cC h0 h_s h_aside h_past h_snapshot h_text m_s m_pasts m_isKept m_length m_hasStop m_stopAt m_stopWhy m_spot m_isWrong m_kind m_first m_second m_third m_fourth)) ⟨hx, hb, hml, hown, hts⟩ [] [0, 1] (c_X6_ofR l D cI cC cE _ v6 2 (d_X6_ofR v6 2) rfl) (va_cwS 2 hts gX6_reason_X6_ofR rfl rfl rfl (by decide +kernel) ⟨Nat.le_of_ble_eq_true rfl, Nat.le_of_ble_eq_true rfl⟩) hK hP hD hS hA rfl rfl rfl rfl rfl rfl rfl hl.1 rfl (Nat.le_of_ble_eq_true rfl) dX6_reason_93 ⟨Nat.le_refl 0, Nat.le_refl 0⟩ (fun H locs hP hD hS => ?_)
        refine k_iald hx hb hK hP 1 0 rfl rfl h dX6_reason_96 (fun v15 h => ?_)
        refine lv_aload_n hx hb dX6_reason_97 rfl (lv_at hl 3 rfl) ?_
        refine va_get (ci := 6) (C := RX6) (T := TX6) (N := 18) hx hb hts hiX6 hown hK hP 0 rfl rfl 0 (by decide) (hts (.fieldLink RX6 7 "RiddleTradeModel" "s" "[I") (List.mem_of_getElem? (i := 1) rfl)) (fun _ h9 => h9) rfl dX6_reason_98 ?_
        refine lv_iload_n hx hb dX6_reason_101 rfl (lv_at hl 4 rfl) ?_
        refine lv_iconst (v := 2) hx hb dX6_reason_102 (by decide) ?_
        refine kcSi (ws1 := (w_X6_reason cI cC h0 h_s h_aside h_past h_snapshot h_text m_s m_pasts m_isKept m_length m_hasStop m_stopAt m_stopWhy m_spot m_isWrong m_kind m_first m_second m_third m_fourth)) ⟨hx, hb, hml, hown, hts⟩ [] [0, 1] (c_X6_ofA l D cI cC cE _ p1 2 (d_X6_ofA p1 2) rfl) (va_cwS 2 hts gX6_reason_X6_ofA rfl rfl rfl (by decide +kernel) ⟨Nat.le_of_ble_eq_true rfl, Nat.le_of_ble_eq_true rfl⟩) hK hP hD hS hA rfl rfl rfl rfl rfl rfl rfl hl.1 rfl (Nat.le_of_ble_eq_true rfl) dX6_reason_103 ⟨Nat.le_refl 0, Nat.le_refl 0⟩ (fun H locs hP hD hS => ?_)
        refine k_iald hx hb hK hP 1 0 rfl rfl h dX6_reason_106 (fun v16 h => ?_)
        refine lv_icmp_eq (tgt := 114) hx hb dX6_reason_107 (by decide) (fun c17 => ?_) (fun c17 => ?_)
        · have h := (k_iB h).1 c17
          refine lv_iload_n hx hb dX6_reason_114 rfl (lv_at hl 1 rfl) ?_
          refine lv_iload hx hb dX6_reason_115 (lv_at hl 0 rfl) ?_
          refine lv_isub hx hb dX6_reason_117 ?_
          refine kcSi (ws1 := (w_X6_reason cI cC h0 h_s h_aside h_past h_snapshot h_text m_s m_pasts m_isKept m_length m_hasStop m_stopAt m_stopWhy m_spot m_isWrong m_kind m_first m_second m_third m_fourth)) ⟨hx, hb, hml, hown, hts⟩ [] [0, 1] (c_X6_size l D cI cC cE _ (r8 - r11) (d_X6_size (r8 - r11)) rfl) (va_cwS 1 hts gX6_reason_X6_size rfl rfl rfl (by decide +kernel) ⟨Nat.le_of_ble_eq_true rfl, Nat.le_of_ble_eq_true rfl⟩) hK hP hD hS hA rfl rfl rfl rfl rfl rfl rfl hl.1 rfl (Nat.le_of_ble_eq_true rfl) dX6_reason_118 ⟨Nat.le_refl 0, Nat.le_refl 0⟩ (fun H locs hP hD hS => ?_)
          refine lv_aload_n hx hb dX6_reason_121 rfl (lv_at hl 3 rfl) ?_
          refine va_get (ci := 6) (C := RX6) (T := TX6) (N := 18) hx hb hts hiX6 hown hK hP 0 rfl rfl 0 (by decide) (hts (.fieldLink RX6 7 "RiddleTradeModel" "s" "[I") (List.mem_of_getElem? (i := 1) rfl)) (fun _ h9 => h9) rfl dX6_reason_122 ?_
          refine lv_sipush (v := 479) hx hb dX6_reason_125 (by decide) ?_
          refine k_iald hx hb hK hP 1 0 rfl rfl h dX6_reason_128 (fun v18 h => ?_)
          refine lv_icmp_le (tgt := 136) hx hb dX6_reason_129 (by decide) (fun c19 => ?_) (fun c19 => ?_)
          · have h := (k_iB h).1 c19
            refine lv_aload_n hx hb dX6_reason_136 rfl (lv_at hl 3 rfl) ?_
            refine lv_iload_n hx hb dX6_reason_137 rfl (lv_at hl 4 rfl) ?_
            refine lv_aload_n hx hb dX6_reason_138 rfl (lv_at hl 3 rfl) ?_
            refine lv_iload_n hx hb dX6_reason_139 rfl (lv_at hl 4 rfl) ?_
            refine lv_iload_n hx hb dX6_reason_140 rfl (lv_at hl 1 rfl) ?_
            refine lv_iload hx hb dX6_reason_141 (lv_at hl 0 rfl) ?_
            obtain ⟨r20, hu21, h⟩ := ob1_el h
            refine kcVi (ci := 6) (q := (RX6, TX6, 18)) (ws1 := (w_X6_reason cI cC h0 h_s h_aside h_past h_snapshot h_text m_s m_pasts m_isKept m_length m_hasStop m_stopAt m_stopWhy m_spot m_isWrong m_kind m_first m_second m_third m_fourth)) ⟨hx, hb, hml, hown, hts⟩ [0, 1] [] (c_X6_payment l D cI cC cE h0 h_s h_aside h_past h_snapshot h_text _ m_s m_pasts m_isKept m_length m_hasStop m_stopAt m_stopWhy m_spot m_isWrong m_kind m_first m_second m_third m_fourth p1 r8 r11 r20 hu21) (cwV 3 hts gX6_reason_X6_payment rfl rfl rfl (by decide +kernel) ⟨Nat.le_of_ble_eq_true rfl, Nat.le_of_ble_eq_true rfl⟩) hK hP hD hS hA rfl rfl rfl rfl rfl rfl rfl rfl rfl hl.1 rfl (Nat.le_of_ble_eq_true rfl) dX6_reason_143 ⟨Nat.le_refl 0, Nat.le_refl 0⟩ (fun H locs hP hD hS => ?_)
            obtain ⟨r22, hu23, h⟩ := ob1_el h
            refine kcVi (ci := 6) (q := (RX6, TX6, 18)) (ws1 := (w_X6_reason cI cC h0 h_s h_aside h_past h_snapshot h_text m_s m_pasts m_isKept m_length m_hasStop m_stopAt m_stopWhy m_spot m_isWrong m_kind m_first m_second m_third m_fourth)) ⟨hx, hb, hml, hown, hts⟩ [0, 1] [] (c_X6_canPay l D cI cC cE h0 h_s h_aside h_past h_snapshot h_text _ m_s m_pasts m_isKept m_length m_hasStop m_stopAt m_stopWhy m_spot m_isWrong m_kind m_first m_second m_third m_fourth p1 r20 r22 hu23) (cwV 2 hts gX6_reason_X6_canPay rfl rfl rfl (by decide +kernel) ⟨Nat.le_of_ble_eq_true rfl, Nat.le_of_ble_eq_true rfl⟩) hK hP hD hS hA rfl rfl rfl rfl rfl rfl rfl rfl rfl hl.1 rfl (Nat.le_of_ble_eq_true rfl) dX6_reason_146 ⟨Nat.le_refl 0, Nat.le_refl 0⟩ (fun H locs hP hD hS => ?_)
            refine lv_if_eq (tgt := 156) hx hb dX6_reason_149 (by decide) (fun c24 => ?_) (fun c24 => ?_)
            · have h := (k_iB h).1 c24
              refine lv_iconst (v := 4) hx hb dX6_reason_156 (by decide) ?_
              obtain rfl := Option.some.inj h
              exact fin _ _ _ _ dX6_reason_157 hP hD hS
            · have h := (k_iB h).2 c24
              refine lv_iconst (v := 0) hx hb dX6_reason_152 (by decide) ?_
              refine lv_goto (tgt := 157) hx hb dX6_reason_153 (by decide) ?_
              obtain rfl := Option.some.inj h
              exact fin _ _ _ _ dX6_reason_157 hP hD hS
          · have h := (k_iB h).2 c19
            refine lv_iconst (v := 3) hx hb dX6_reason_132 (by decide) ?_
            refine lv_goto (tgt := 157) hx hb dX6_reason_133 (by decide) ?_
            obtain rfl := Option.some.inj h
            exact fin _ _ _ _ dX6_reason_157 hP hD hS
        · have h := (k_iB h).2 c17
          refine lv_iconst (v := 2) hx hb dX6_reason_110 (by decide) ?_
          refine lv_goto (tgt := 157) hx hb dX6_reason_111 (by decide) ?_
          obtain rfl := Option.some.inj h
          exact fin _ _ _ _ dX6_reason_157 hP hD hS
      · have h := (k_iB h).2 c14
        refine lv_iconst (v := 1) hx hb dX6_reason_83 (by decide) ?_
        refine lv_goto (tgt := 157) hx hb dX6_reason_84 (by decide) ?_
        obtain rfl := Option.some.inj h
        exact fin _ _ _ _ dX6_reason_157 hP hD hS
    · have h := (k_iB h).2 c5
      refine lv_bipush (v := (-4)) hx hb dX6_reason_23 (by decide) ?_
      obtain rfl := Option.some.inj h
      exact fin _ _ _ _ dX6_reason_25 hP hD hS
  · have h := (k_iB h).1 c3
    refine lv_iconst (v := (-1)) hx hb dX6_reason_8 (by decide) ?_
    obtain rfl := Option.some.inj h
    exact fin _ _ _ _ dX6_reason_9 hP hD hS
abbrev w_X6_settledIn (cI cC : ClassId) (h0 h_s h_aside h_past h_snapshot h_text : Nat) (m_s : Nat → Int32) (m_aside : Nat → Int32) (m_pasts : Int32) (m_isKept : Int32) (m_length : Int32) (m_hasStop : Int32) (m_stopAt : Int32) (m_stopWhy : Int32) (m_spot : Int32) (m_isWrong : Int32) (m_kind : Int32) (m_first : Int32) (m_second : Int32) (m_third : Int32) (m_fourth : Int32) : va_W := [(h0, .inr (6, [.ref h_s, .ref h_aside, .ref h_past, .int m_pasts, .ref h_snapshot, .int m_isKept, .ref h_text, .int m_length, .int m_hasStop, .int m_stopAt, .int m_stopWhy, .int m_spot, .int m_isWrong, .int m_kind, .int m_first, .int m_second, .int m_third, .int m_fourth])), (h_s, .inl (cI, 490, .inl m_s)), (h_aside, .inl (cI, 490, .inl m_aside))]
def j_X6_settledIn_82 (p1 : Int32) (x3 : Int32) (m_s : Nat → Int32) (m_aside : Nat → Int32) : Option (Int32 × (Nat → Int32) × (Nat → Int32)) :=
    ob1 (d_X6_putBack m_s m_aside) fun m_s_12 =>
    some (x3, m_s_12, m_aside)
def j_X6_settledIn_62 (p1 : Int32) (x2 : Int32) (m_s : Nat → Int32) (m_aside : Nat → Int32) : Option (Int32 × (Nat → Int32) × (Nat → Int32)) :=
    ob1 (rd 490 m_s (d_X6_ofA p1 4)) fun v10 =>
    if v10 = 0 then (j_X6_settledIn_82  p1 (-5) m_s m_aside)
    else (j_X6_settledIn_82  p1 x2 m_s m_aside)
def lp_X6_settledIn_32 (p1 : Int32) : Nat → Int32 → (Nat → Int32) → (Nat → Int32) → Option (Int32 × (Nat → Int32) × (Nat → Int32))
  | 0 => fun _ _ _ => none
  | k + 1 => fun x2 m_s m_aside =>
    ob1 (rd 490 m_s (d_X6_ofA p1 4)) fun v8 =>
    if v8 = 0 then (if 300 ≤ x2 then (j_X6_settledIn_62  p1 x2 m_s m_aside)
    else (ob1 (d_X6_round m_s) fun m_s_15 =>
    (lp_X6_settledIn_32  p1 k) (x2 + 1) m_s_15 m_aside))
    else (j_X6_settledIn_62  p1 x2 m_s m_aside)
def d_X6_settledIn (p1 : Int32) (m_s : Nat → Int32) (m_aside : Nat → Int32) : Option (Int32 × (Nat → Int32) × (Nat → Int32)) :=
    ob1 (d_X6_isAnswer p1 m_s) fun r1 =>
    if r1 = 0 then (some ((-1), m_s, m_aside))
    else (ob1 (rd 490 m_s (d_X6_ofA p1 4)) fun v4 =>
    if v4 = 0 then (ob1 (d_X6_putAside m_s m_aside) fun m_aside_6 =>
    lp_X6_settledIn_32  p1 fuel 0 m_s m_aside_6)
    else (some ((-4), m_s, m_aside)))
set_option maxHeartbeats 4000000 in
set_option maxRecDepth 100000 in
theorem c_X6_settledIn (l : Launch) (D : va_G) (cI cC cE : ClassId) (h0 h_s h_aside h_past h_snapshot h_text : Nat) (sz : Nat) (m_s : Nat → Int32) (m_aside : Nat → Int32) (m_pasts : Int32) (m_isKept : Int32) (m_length : Int32) (m_hasStop : Int32) (m_stopAt : Int32) (m_stopWhy : Int32) (m_spot : Int32) (m_isWrong : Int32) (m_kind : Int32) (m_first : Int32) (m_second : Int32) (m_third : Int32) (m_fourth : Int32) (p1 : Int32) (r0 : Int32) (o_m_s : Nat → Int32) (o_m_aside : Nat → Int32) (h : d_X6_settledIn p1 m_s m_aside = some (r0, o_m_s, o_m_aside)) : Met l yX6_settledIn wsX6_settledIn ({ frames := 4, cells := 0, slots := 0, locals := 93 } : Room) (kP D (kT cI cC cE) [.ref h0, .int p1] (w_X6_settledIn cI cC h0 h_s h_aside h_past h_snapshot h_text m_s m_aside m_pasts m_isKept m_length m_hasStop m_stopAt m_stopWhy m_spot m_isWrong m_kind m_first m_second m_third m_fourth) sz) (kQi D (kT cI cC cE) (w_X6_settledIn cI cC h0 h_s h_aside h_past h_snapshot h_text m_s m_aside m_pasts m_isKept m_length m_hasStop m_stopAt m_stopWhy m_spot m_isWrong m_kind m_first m_second m_third m_fourth) (w_X6_settledIn cI cC h0 h_s h_aside h_past h_snapshot h_text o_m_s o_m_aside m_pasts m_isKept m_length m_hasStop m_stopAt m_stopWhy m_spot m_isWrong m_kind m_first m_second m_third m_fourth) sz r0) 0 0 (va_A (w_X6_settledIn cI cC h0 h_s h_aside h_past h_snapshot h_text m_s m_aside m_pasts m_isKept m_length m_hasStop m_stopAt m_stopWhy m_spot m_isWrong m_kind m_first m_second m_third m_fourth) sz) := by
  refine kMetI (cc := cX6_settledIn) (maxL := 4) (own := RX6) (by decide) rfl (Nat.le_of_ble_eq_true rfl) rfl ?_
  intro p e s m below meth c A Q hx hb hml hown hts hP hK hD hA hS hname fin ls hl
  have hl : lv_has ls 4 [(0, .ref h0), (1, .int p1)] := hl
  have hiX6 : ∀ w ∈ u_ws RX6 TX6 18, w ∈ wsX6_settledIn := by decide +kernel
  have hJ82 : ∀ (x3 : Int32) (m_s : Nat → Int32) (m_aside : Nat → Int32) (H : Heap) (locs : List Loc), va_P D vwCl (w_X6_settledIn cI cC h0 h_s h_aside h_past h_snapshot h_text m_s m_aside m_pasts m_isKept m_length m_hasStop m_stopAt m_stopWhy m_spot m_isWrong m_kind m_first m_second m_third m_fourth) H → va_D A (w_X6_settledIn cI cC h0 h_s h_aside h_past h_snapshot h_text m_s m_aside m_pasts m_isKept m_length m_hasStop m_stopAt m_stopWhy m_spot m_isWrong m_kind m_first m_second m_third m_fourth) → va_S A s.heap H locs → ∀ (ls : Array Slot), lv_has ls 4 [(0, .ref h0), (3, .int x3)] → j_X6_settledIn_82  p1 x3 m_s m_aside = some (r0, o_m_s, o_m_aside) → W p l e ({ frames := 4, cells := 0, slots := 0, locals := 93 } : Room) s m [.ref h0, .int p1].toArray below meth c H locs 0 0 Q (F0 m 82 ls []) := by
    intro x3 m_s m_aside H locs hP hD hS ls hl h
    dsimp only [j_X6_settledIn_82] at h
    refine lv_aload_n hx hb dX6_settledIn_82 rfl (lv_at hl 0 rfl) ?_
    obtain ⟨m_s_12, hu13, h⟩ := ob1_el h
    refine kcVv (ci := 6) (q := (RX6, TX6, 18)) (ws1 := (w_X6_settledIn cI cC h0 h_s h_aside h_past h_snapshot h_text m_s_12 m_aside m_pasts m_isKept m_length m_hasStop m_stopAt m_stopWhy m_spot m_isWrong m_kind m_first m_second m_third m_fourth)) ⟨hx, hb, hml, hown, hts⟩ [0, 1, 2] [] (c_X6_putBack l D cI cC cE h0 h_s h_aside h_past h_snapshot h_text _ m_s m_aside m_pasts m_isKept m_length m_hasStop m_stopAt m_stopWhy m_spot m_isWrong m_kind m_first m_second m_third m_fourth m_s_12 hu13) (cwV 0 hts gX6_settledIn_X6_putBack rfl rfl rfl (by decide +kernel) ⟨Nat.le_of_ble_eq_true rfl, Nat.le_of_ble_eq_true rfl⟩) hK hP hD hS hA rfl rfl rfl rfl rfl rfl rfl rfl rfl hl.1 rfl (Nat.le_of_ble_eq_true rfl) dX6_settledIn_83 ⟨Nat.le_refl 0, Nat.le_refl 0⟩ (fun H locs hP hD hS => ?_)
    refine lv_iload_n hx hb dX6_settledIn_86 rfl (lv_at hl 1 rfl) ?_
    obtain ⟨rfl, rfl, rfl⟩ := inj3 (Option.some.inj h)
    exact fin _ _ _ _ dX6_settledIn_87 hP hD hS
  have hJ62 : ∀ (x2 : Int32) (m_s : Nat → Int32) (m_aside : Nat → Int32) (H : Heap) (locs : List Loc), va_P D vwCl (w_X6_settledIn cI cC h0 h_s h_aside h_past h_snapshot h_text m_s m_aside m_pasts m_isKept m_length m_hasStop m_stopAt m_stopWhy m_spot m_isWrong m_kind m_first m_second m_third m_fourth) H → va_D A (w_X6_settledIn cI cC h0 h_s h_aside h_past h_snapshot h_text m_s m_aside m_pasts m_isKept m_length m_hasStop m_stopAt m_stopWhy m_spot m_isWrong m_kind m_first m_second m_third m_fourth) → va_S A s.heap H locs → ∀ (ls : Array Slot), lv_has ls 4 [(0, .ref h0), (1, .int p1), (2, .int x2)] → j_X6_settledIn_62  p1 x2 m_s m_aside = some (r0, o_m_s, o_m_aside) → W p l e ({ frames := 4, cells := 0, slots := 0, locals := 93 } : Room) s m [.ref h0, .int p1].toArray below meth c H locs 0 0 Q (F0 m 62 ls []) := by
    intro x2 m_s m_aside H locs hP hD hS ls hl h
    dsimp only [j_X6_settledIn_62] at h
    refine lv_aload_n hx hb dX6_settledIn_62 rfl (lv_at hl 0 rfl) ?_
    refine va_get (ci := 6) (C := RX6) (T := TX6) (N := 18) hx hb hts hiX6 hown hK hP 0 rfl rfl 0 (by decide) (hts (.fieldLink RX6 7 "RiddleTradeModel" "s" "[I") (List.mem_of_getElem? (i := 1) rfl)) (fun _ h9 => h9) rfl dX6_settledIn_63 ?_
    refine lv_iload_n hx hb dX6_settledIn_66 rfl (lv_at hl 1 rfl) ?_
    refine lv_iconst (v := 4) hx hb dX6_settledIn_67 (by decide) ?_
    refine kcSi (ws1 := (w_X6_settledIn cI cC h0 h_s h_aside h_past h_snapshot h_text m_s m_aside m_pasts m_isKept m_length m_hasStop m_stopAt m_stopWhy m_spot m_isWrong m_kind m_first m_second m_third m_fourth)) ⟨hx, hb, hml, hown, hts⟩ [] [0, 1, 2] (c_X6_ofA l D cI cC cE _ p1 4 (d_X6_ofA p1 4) rfl) (va_cwS 2 hts gX6_settledIn_X6_ofA rfl rfl rfl (by decide +kernel) ⟨Nat.le_of_ble_eq_true rfl, Nat.le_of_ble_eq_true rfl⟩) hK hP hD hS hA rfl rfl rfl rfl rfl rfl rfl hl.1 rfl (Nat.le_of_ble_eq_true rfl) dX6_settledIn_68 ⟨Nat.le_refl 0, Nat.le_refl 0⟩ (fun H locs hP hD hS => ?_)
    refine k_iald hx hb hK hP 1 0 rfl rfl h dX6_settledIn_71 (fun v10 h => ?_)
    refine lv_if_ne (tgt := 80) hx hb dX6_settledIn_72 (by decide) (fun c11 => ?_) (fun c11 => ?_)
    · have h := (k_iB h).2 c11
      refine lv_iload_n hx hb dX6_settledIn_80 rfl (lv_at hl 2 rfl) ?_
      refine lv_istore_n (lv' := [(3, .int x2), (0, .ref h0), (1, .int p1), (2, .int x2)]) hx hb dX6_settledIn_81 rfl hl (by decide) rfl (fun ls hl => ?_)
      exact hJ82   x2 m_s m_aside _ _ hP hD hS _ (lv_sub hl [1, 0] rfl) h
    · have h := (k_iB h).1 c11
      refine lv_bipush (v := (-5)) hx hb dX6_settledIn_75 (by decide) ?_
      refine lv_goto (tgt := 81) hx hb dX6_settledIn_77 (by decide) ?_
      refine lv_istore_n (lv' := [(3, .int (-5)), (0, .ref h0), (1, .int p1), (2, .int x2)]) hx hb dX6_settledIn_81 rfl hl (by decide) rfl (fun ls hl => ?_)
      exact hJ82   (-5) m_s m_aside _ _ hP hD hS _ (lv_sub hl [1, 0] rfl) h
  have hL32 : ∀ (k : Nat), ∀ (x2 : Int32) (m_s : Nat → Int32) (m_aside : Nat → Int32) (H : Heap) (locs : List Loc), va_P D vwCl (w_X6_settledIn cI cC h0 h_s h_aside h_past h_snapshot h_text m_s m_aside m_pasts m_isKept m_length m_hasStop m_stopAt m_stopWhy m_spot m_isWrong m_kind m_first m_second m_third m_fourth) H → va_D A (w_X6_settledIn cI cC h0 h_s h_aside h_past h_snapshot h_text m_s m_aside m_pasts m_isKept m_length m_hasStop m_stopAt m_stopWhy m_spot m_isWrong m_kind m_first m_second m_third m_fourth) → va_S A s.heap H locs → ∀ (ls : Array Slot), lv_has ls 4 [(0, .ref h0), (1, .int p1), (2, .int x2)] → lp_X6_settledIn_32  p1 k x2 m_s m_aside = some (r0, o_m_s, o_m_aside) → W p l e ({ frames := 4, cells := 0, slots := 0, locals := 93 } : Room) s m [.ref h0, .int p1].toArray below meth c H locs 0 0 Q (F0 m 32 ls []) := by
    intro k
    induction k with
    | zero =>
      intro x2 m_s m_aside H locs hP hD hS ls hl h
      exact k_none h
    | succ k ih =>
      intro x2 m_s m_aside H locs hP hD hS ls hl h
      dsimp only [lp_X6_settledIn_32] at h
      refine lv_aload_n hx hb dX6_settledIn_32 rfl (lv_at hl 0 rfl) ?_
      refine va_get (ci := 6) (C := RX6) (T := TX6) (N := 18) hx hb hts hiX6 hown hK hP 0 rfl rfl 0 (by decide) (hts (.fieldLink RX6 7 "RiddleTradeModel" "s" "[I") (List.mem_of_getElem? (i := 1) rfl)) (fun _ h9 => h9) rfl dX6_settledIn_33 ?_
      refine lv_iload_n hx hb dX6_settledIn_36 rfl (lv_at hl 1 rfl) ?_
      refine lv_iconst (v := 4) hx hb dX6_settledIn_37 (by decide) ?_
      refine kcSi (ws1 := (w_X6_settledIn cI cC h0 h_s h_aside h_past h_snapshot h_text m_s m_aside m_pasts m_isKept m_length m_hasStop m_stopAt m_stopWhy m_spot m_isWrong m_kind m_first m_second m_third m_fourth)) ⟨hx, hb, hml, hown, hts⟩ [] [0, 1, 2] (c_X6_ofA l D cI cC cE _ p1 4 (d_X6_ofA p1 4) rfl) (va_cwS 2 hts gX6_settledIn_X6_ofA rfl rfl rfl (by decide +kernel) ⟨Nat.le_of_ble_eq_true rfl, Nat.le_of_ble_eq_true rfl⟩) hK hP hD hS hA rfl rfl rfl rfl rfl rfl rfl hl.1 rfl (Nat.le_of_ble_eq_true rfl) dX6_settledIn_38 ⟨Nat.le_refl 0, Nat.le_refl 0⟩ (fun H locs hP hD hS => ?_)
      refine k_iald hx hb hK hP 1 0 rfl rfl h dX6_settledIn_41 (fun v8 h => ?_)
      refine lv_if_ne (tgt := 62) hx hb dX6_settledIn_42 (by decide) (fun c9 => ?_) (fun c9 => ?_)
      · have h := (k_iB h).2 c9
        exact hJ62   x2 m_s m_aside _ _ hP hD hS _ (lv_sub hl [0, 1, 2] rfl) h
      · have h := (k_iB h).1 c9
        refine lv_iload_n hx hb dX6_settledIn_45 rfl (lv_at hl 2 rfl) ?_
        refine lv_sipush (v := 300) hx hb dX6_settledIn_46 (by decide) ?_
        refine lv_icmp_ge (tgt := 62) hx hb dX6_settledIn_49 (by decide) (fun c14 => ?_) (fun c14 => ?_)
        · have h := (k_iB h).1 c14
          exact hJ62   x2 m_s m_aside _ _ hP hD hS _ (lv_sub hl [0, 1, 2] rfl) h
        · have h := (k_iB h).2 c14
          refine lv_aload_n hx hb dX6_settledIn_52 rfl (lv_at hl 0 rfl) ?_
          obtain ⟨m_s_15, hu16, h⟩ := ob1_el h
          refine kcVv (ci := 6) (q := (RX6, TX6, 18)) (ws1 := (w_X6_settledIn cI cC h0 h_s h_aside h_past h_snapshot h_text m_s_15 m_aside m_pasts m_isKept m_length m_hasStop m_stopAt m_stopWhy m_spot m_isWrong m_kind m_first m_second m_third m_fourth)) ⟨hx, hb, hml, hown, hts⟩ [0, 1] [2] (c_X6_round l D cI cC cE h0 h_s h_aside h_past h_snapshot h_text _ m_s m_pasts m_isKept m_length m_hasStop m_stopAt m_stopWhy m_spot m_isWrong m_kind m_first m_second m_third m_fourth m_s_15 hu16) (cwV 0 hts gX6_settledIn_X6_round rfl rfl rfl (by decide +kernel) ⟨Nat.le_of_ble_eq_true rfl, Nat.le_of_ble_eq_true rfl⟩) hK hP hD hS hA rfl rfl rfl rfl rfl rfl rfl rfl rfl hl.1 rfl (Nat.le_of_ble_eq_true rfl) dX6_settledIn_53 ⟨Nat.le_refl 0, Nat.le_refl 0⟩ (fun H locs hP hD hS => ?_)
          refine lv_iinc (v := (x2 + 1)) (lv' := [(2, .int (x2 + 1)), (0, .ref h0), (1, .int p1)]) hx hb dX6_settledIn_56 hl (k := 2) rfl rfl (by decide) rfl (fun ls hl => ?_)
          refine lv_goto (tgt := 32) hx hb dX6_settledIn_59 (by decide) ?_
          exact ih (x2 + 1) m_s_15 m_aside _ _ hP hD hS _ (lv_sub hl [1, 2, 0] rfl) h
  dsimp only [d_X6_settledIn] at h
  refine lv_aload_n hx hb dX6_settledIn_0 rfl (lv_at hl 0 rfl) ?_
  refine lv_iload_n hx hb dX6_settledIn_1 rfl (lv_at hl 1 rfl) ?_
  obtain ⟨r1, hu2, h⟩ := ob1_el h
  refine kcVi (ci := 6) (q := (RX6, TX6, 18)) (ws1 := (w_X6_settledIn cI cC h0 h_s h_aside h_past h_snapshot h_text m_s m_aside m_pasts m_isKept m_length m_hasStop m_stopAt m_stopWhy m_spot m_isWrong m_kind m_first m_second m_third m_fourth)) ⟨hx, hb, hml, hown, hts⟩ [0, 1] [2] (c_X6_isAnswer l D cI cC cE h0 h_s h_aside h_past h_snapshot h_text _ m_s m_pasts m_isKept m_length m_hasStop m_stopAt m_stopWhy m_spot m_isWrong m_kind m_first m_second m_third m_fourth p1 r1 hu2) (cwV 1 hts gX6_settledIn_X6_isAnswer rfl rfl rfl (by decide +kernel) ⟨Nat.le_of_ble_eq_true rfl, Nat.le_of_ble_eq_true rfl⟩) hK hP hD hS hA rfl rfl rfl rfl rfl rfl rfl rfl rfl hl.1 rfl (Nat.le_of_ble_eq_true rfl) dX6_settledIn_2 ⟨Nat.le_refl 0, Nat.le_refl 0⟩ (fun H locs hP hD hS => ?_)
  refine lv_if_ne (tgt := 10) hx hb dX6_settledIn_5 (by decide) (fun c3 => ?_) (fun c3 => ?_)
  · have h := (k_iB h).2 c3
    refine lv_aload_n hx hb dX6_settledIn_10 rfl (lv_at hl 0 rfl) ?_
    refine va_get (ci := 6) (C := RX6) (T := TX6) (N := 18) hx hb hts hiX6 hown hK hP 0 rfl rfl 0 (by decide) (hts (.fieldLink RX6 7 "RiddleTradeModel" "s" "[I") (List.mem_of_getElem? (i := 1) rfl)) (fun _ h9 => h9) rfl dX6_settledIn_11 ?_
    refine lv_iload_n hx hb dX6_settledIn_14 rfl (lv_at hl 1 rfl) ?_
    refine lv_iconst (v := 4) hx hb dX6_settledIn_15 (by decide) ?_
    refine kcSi (ws1 := (w_X6_settledIn cI cC h0 h_s h_aside h_past h_snapshot h_text m_s m_aside m_pasts m_isKept m_length m_hasStop m_stopAt m_stopWhy m_spot m_isWrong m_kind m_first m_second m_third m_fourth)) ⟨hx, hb, hml, hown, hts⟩ [] [0, 1, 2] (c_X6_ofA l D cI cC cE _ p1 4 (d_X6_ofA p1 4) rfl) (va_cwS 2 hts gX6_settledIn_X6_ofA rfl rfl rfl (by decide +kernel) ⟨Nat.le_of_ble_eq_true rfl, Nat.le_of_ble_eq_true rfl⟩) hK hP hD hS hA rfl rfl rfl rfl rfl rfl rfl hl.1 rfl (Nat.le_of_ble_eq_true rfl) dX6_settledIn_16 ⟨Nat.le_refl 0, Nat.le_refl 0⟩ (fun H locs hP hD hS => ?_)
    refine k_iald hx hb hK hP 1 0 rfl rfl h dX6_settledIn_19 (fun v4 h => ?_)
    refine lv_if_eq (tgt := 26) hx hb dX6_settledIn_20 (by decide) (fun c5 => ?_) (fun c5 => ?_)
    · have h := (k_iB h).1 c5
      refine lv_aload_n hx hb dX6_settledIn_26 rfl (lv_at hl 0 rfl) ?_
      obtain ⟨m_aside_6, hu7, h⟩ := ob1_el h
      refine kcVv (ci := 6) (q := (RX6, TX6, 18)) (ws1 := (w_X6_settledIn cI cC h0 h_s h_aside h_past h_snapshot h_text m_s m_aside_6 m_pasts m_isKept m_length m_hasStop m_stopAt m_stopWhy m_spot m_isWrong m_kind m_first m_second m_third m_fourth)) ⟨hx, hb, hml, hown, hts⟩ [0, 1, 2] [] (c_X6_putAside l D cI cC cE h0 h_s h_aside h_past h_snapshot h_text _ m_s m_aside m_pasts m_isKept m_length m_hasStop m_stopAt m_stopWhy m_spot m_isWrong m_kind m_first m_second m_third m_fourth m_aside_6 hu7) (cwV 0 hts gX6_settledIn_X6_putAside rfl rfl rfl (by decide +kernel) ⟨Nat.le_of_ble_eq_true rfl, Nat.le_of_ble_eq_true rfl⟩) hK hP hD hS hA rfl rfl rfl rfl rfl rfl rfl rfl rfl hl.1 rfl (Nat.le_of_ble_eq_true rfl) dX6_settledIn_27 ⟨Nat.le_refl 0, Nat.le_refl 0⟩ (fun H locs hP hD hS => ?_)
      refine lv_iconst (v := 0) hx hb dX6_settledIn_30 (by decide) ?_
      refine lv_istore_n (lv' := [(2, .int 0), (0, .ref h0), (1, .int p1)]) hx hb dX6_settledIn_31 rfl hl (by decide) rfl (fun ls hl => ?_)
      exact hL32   fuel 0 m_s m_aside_6 _ _ hP hD hS _ (lv_sub hl [1, 2, 0] rfl) h
    · have h := (k_iB h).2 c5
      refine lv_bipush (v := (-4)) hx hb dX6_settledIn_23 (by decide) ?_
      obtain ⟨rfl, rfl, rfl⟩ := inj3 (Option.some.inj h)
      exact fin _ _ _ _ dX6_settledIn_25 hP hD hS
  · have h := (k_iB h).1 c3
    refine lv_iconst (v := (-1)) hx hb dX6_settledIn_8 (by decide) ?_
    obtain ⟨rfl, rfl, rfl⟩ := inj3 (Option.some.inj h)
    exact fin _ _ _ _ dX6_settledIn_9 hP hD hS
abbrev w_X6_ifRounds (cI cC : ClassId) (h0 h_s h_aside h_past h_snapshot h_text : Nat) (m_s : Nat → Int32) (m_aside : Nat → Int32) (m_pasts : Int32) (m_isKept : Int32) (m_length : Int32) (m_hasStop : Int32) (m_stopAt : Int32) (m_stopWhy : Int32) (m_spot : Int32) (m_isWrong : Int32) (m_kind : Int32) (m_first : Int32) (m_second : Int32) (m_third : Int32) (m_fourth : Int32) : va_W := [(h0, .inr (6, [.ref h_s, .ref h_aside, .ref h_past, .int m_pasts, .ref h_snapshot, .int m_isKept, .ref h_text, .int m_length, .int m_hasStop, .int m_stopAt, .int m_stopWhy, .int m_spot, .int m_isWrong, .int m_kind, .int m_first, .int m_second, .int m_third, .int m_fourth])), (h_s, .inl (cI, 490, .inl m_s)), (h_aside, .inl (cI, 490, .inl m_aside))]
def j_X6_ifRounds_39 (p1 : Int32) (p2 : Int32) (m_s : Nat → Int32) (m_aside : Nat → Int32) : Option (Int32 × (Nat → Int32) × (Nat → Int32)) :=
    ob2 (d_X6_passes p1 m_s) fun r5 m_s_6 =>
    ob1 (d_X6_putBack m_s_6 m_aside) fun m_s_8 =>
    some (r5, m_s_8, m_aside)
def d_X6_ifRounds (p1 : Int32) (p2 : Int32) (m_s : Nat → Int32) (m_aside : Nat → Int32) : Option (Int32 × (Nat → Int32) × (Nat → Int32)) :=
    if (d_X6_in p1 1 99) = 0 then (some ((-2), m_s, m_aside))
    else (ob1 (d_X6_putAside m_s m_aside) fun m_aside_2 =>
    if p2 = 0 then (j_X6_ifRounds_39  p1 p2 m_s m_aside_2)
    else (ob1 (wr 490 m_s 477 0) fun m_s_10 =>
    ob1 (wr 490 m_s_10 478 0) fun m_s_11 =>
    j_X6_ifRounds_39  p1 p2 m_s_11 m_aside_2))
set_option maxHeartbeats 4000000 in
set_option maxRecDepth 100000 in
theorem c_X6_ifRounds (l : Launch) (D : va_G) (cI cC cE : ClassId) (h0 h_s h_aside h_past h_snapshot h_text : Nat) (sz : Nat) (m_s : Nat → Int32) (m_aside : Nat → Int32) (m_pasts : Int32) (m_isKept : Int32) (m_length : Int32) (m_hasStop : Int32) (m_stopAt : Int32) (m_stopWhy : Int32) (m_spot : Int32) (m_isWrong : Int32) (m_kind : Int32) (m_first : Int32) (m_second : Int32) (m_third : Int32) (m_fourth : Int32) (p1 : Int32) (p2 : Int32) (r0 : Int32) (o_m_s : Nat → Int32) (o_m_aside : Nat → Int32) (h : d_X6_ifRounds p1 p2 m_s m_aside = some (r0, o_m_s, o_m_aside)) : Met l yX6_ifRounds wsX6_ifRounds ({ frames := 5, cells := 0, slots := 0, locals := 116 } : Room) (kP D (kT cI cC cE) [.ref h0, .int p1, .int p2] (w_X6_ifRounds cI cC h0 h_s h_aside h_past h_snapshot h_text m_s m_aside m_pasts m_isKept m_length m_hasStop m_stopAt m_stopWhy m_spot m_isWrong m_kind m_first m_second m_third m_fourth) sz) (kQi D (kT cI cC cE) (w_X6_ifRounds cI cC h0 h_s h_aside h_past h_snapshot h_text m_s m_aside m_pasts m_isKept m_length m_hasStop m_stopAt m_stopWhy m_spot m_isWrong m_kind m_first m_second m_third m_fourth) (w_X6_ifRounds cI cC h0 h_s h_aside h_past h_snapshot h_text o_m_s o_m_aside m_pasts m_isKept m_length m_hasStop m_stopAt m_stopWhy m_spot m_isWrong m_kind m_first m_second m_third m_fourth) sz r0) 0 0 (va_A (w_X6_ifRounds cI cC h0 h_s h_aside h_past h_snapshot h_text m_s m_aside m_pasts m_isKept m_length m_hasStop m_stopAt m_stopWhy m_spot m_isWrong m_kind m_first m_second m_third m_fourth) sz) := by
  refine kMetI (cc := cX6_ifRounds) (maxL := 4) (own := RX6) (by decide) rfl (Nat.le_of_ble_eq_true rfl) rfl ?_
  intro p e s m below meth c A Q hx hb hml hown hts hP hK hD hA hS hname fin ls hl
  have hl : lv_has ls 4 [(0, .ref h0), (1, .int p1), (2, .int p2)] := hl
  have hiX6 : ∀ w ∈ u_ws RX6 TX6 18, w ∈ wsX6_ifRounds := by decide +kernel
  have hJ39 : ∀ (m_s : Nat → Int32) (m_aside : Nat → Int32) (H : Heap) (locs : List Loc), va_P D vwCl (w_X6_ifRounds cI cC h0 h_s h_aside h_past h_snapshot h_text m_s m_aside m_pasts m_isKept m_length m_hasStop m_stopAt m_stopWhy m_spot m_isWrong m_kind m_first m_second m_third m_fourth) H → va_D A (w_X6_ifRounds cI cC h0 h_s h_aside h_past h_snapshot h_text m_s m_aside m_pasts m_isKept m_length m_hasStop m_stopAt m_stopWhy m_spot m_isWrong m_kind m_first m_second m_third m_fourth) → va_S A s.heap H locs → ∀ (ls : Array Slot), lv_has ls 4 [(0, .ref h0), (1, .int p1)] → j_X6_ifRounds_39  p1 p2 m_s m_aside = some (r0, o_m_s, o_m_aside) → W p l e ({ frames := 5, cells := 0, slots := 0, locals := 116 } : Room) s m [.ref h0, .int p1, .int p2].toArray below meth c H locs 0 0 Q (F0 m 39 ls []) := by
    intro m_s m_aside H locs hP hD hS ls hl h
    dsimp only [j_X6_ifRounds_39] at h
    refine lv_aload_n hx hb dX6_ifRounds_39 rfl (lv_at hl 0 rfl) ?_
    refine lv_iload_n hx hb dX6_ifRounds_40 rfl (lv_at hl 1 rfl) ?_
    obtain ⟨r5, m_s_6, hu7, h⟩ := ob2_el h
    refine kcVi (ci := 6) (q := (RX6, TX6, 18)) (ws1 := (w_X6_ifRounds cI cC h0 h_s h_aside h_past h_snapshot h_text m_s_6 m_aside m_pasts m_isKept m_length m_hasStop m_stopAt m_stopWhy m_spot m_isWrong m_kind m_first m_second m_third m_fourth)) ⟨hx, hb, hml, hown, hts⟩ [0, 1] [2] (c_X6_passes l D cI cC cE h0 h_s h_aside h_past h_snapshot h_text _ m_s m_pasts m_isKept m_length m_hasStop m_stopAt m_stopWhy m_spot m_isWrong m_kind m_first m_second m_third m_fourth p1 r5 m_s_6 hu7) (cwV 1 hts gX6_ifRounds_X6_passes rfl rfl rfl (by decide +kernel) ⟨Nat.le_of_ble_eq_true rfl, Nat.le_of_ble_eq_true rfl⟩) hK hP hD hS hA rfl rfl rfl rfl rfl rfl rfl rfl rfl hl.1 rfl (Nat.le_of_ble_eq_true rfl) dX6_ifRounds_41 ⟨Nat.le_refl 0, Nat.le_refl 0⟩ (fun H locs hP hD hS => ?_)
    refine lv_istore_n (lv' := [(3, .int r5), (0, .ref h0), (1, .int p1)]) hx hb dX6_ifRounds_44 rfl hl (by decide) rfl (fun ls hl => ?_)
    refine lv_aload_n hx hb dX6_ifRounds_45 rfl (lv_at hl 1 rfl) ?_
    obtain ⟨m_s_8, hu9, h⟩ := ob1_el h
    refine kcVv (ci := 6) (q := (RX6, TX6, 18)) (ws1 := (w_X6_ifRounds cI cC h0 h_s h_aside h_past h_snapshot h_text m_s_8 m_aside m_pasts m_isKept m_length m_hasStop m_stopAt m_stopWhy m_spot m_isWrong m_kind m_first m_second m_third m_fourth)) ⟨hx, hb, hml, hown, hts⟩ [0, 1, 2] [] (c_X6_putBack l D cI cC cE h0 h_s h_aside h_past h_snapshot h_text _ m_s_6 m_aside m_pasts m_isKept m_length m_hasStop m_stopAt m_stopWhy m_spot m_isWrong m_kind m_first m_second m_third m_fourth m_s_8 hu9) (cwV 0 hts gX6_ifRounds_X6_putBack rfl rfl rfl (by decide +kernel) ⟨Nat.le_of_ble_eq_true rfl, Nat.le_of_ble_eq_true rfl⟩) hK hP hD hS hA rfl rfl rfl rfl rfl rfl rfl rfl rfl hl.1 rfl (Nat.le_of_ble_eq_true rfl) dX6_ifRounds_46 ⟨Nat.le_refl 0, Nat.le_refl 0⟩ (fun H locs hP hD hS => ?_)
    refine lv_iload_n hx hb dX6_ifRounds_49 rfl (lv_at hl 0 rfl) ?_
    obtain ⟨rfl, rfl, rfl⟩ := inj3 (Option.some.inj h)
    exact fin _ _ _ _ dX6_ifRounds_50 hP hD hS
  dsimp only [d_X6_ifRounds] at h
  refine lv_iload_n hx hb dX6_ifRounds_0 rfl (lv_at hl 1 rfl) ?_
  refine lv_iconst (v := 1) hx hb dX6_ifRounds_1 (by decide) ?_
  refine lv_bipush (v := 99) hx hb dX6_ifRounds_2 (by decide) ?_
  refine kcSi (ws1 := (w_X6_ifRounds cI cC h0 h_s h_aside h_past h_snapshot h_text m_s m_aside m_pasts m_isKept m_length m_hasStop m_stopAt m_stopWhy m_spot m_isWrong m_kind m_first m_second m_third m_fourth)) ⟨hx, hb, hml, hown, hts⟩ [] [0, 1, 2] (c_X6_in l D cI cC cE _ p1 1 99 (d_X6_in p1 1 99) rfl) (va_cwS 3 hts gX6_ifRounds_X6_in rfl rfl rfl (by decide +kernel) ⟨Nat.le_of_ble_eq_true rfl, Nat.le_of_ble_eq_true rfl⟩) hK hP hD hS hA rfl rfl rfl rfl rfl rfl rfl hl.1 rfl (Nat.le_of_ble_eq_true rfl) dX6_ifRounds_4 ⟨Nat.le_refl 0, Nat.le_refl 0⟩ (fun H locs hP hD hS => ?_)
  refine lv_if_ne (tgt := 13) hx hb dX6_ifRounds_7 (by decide) (fun c1 => ?_) (fun c1 => ?_)
  · have h := (k_iB h).2 c1
    refine lv_aload_n hx hb dX6_ifRounds_13 rfl (lv_at hl 0 rfl) ?_
    obtain ⟨m_aside_2, hu3, h⟩ := ob1_el h
    refine kcVv (ci := 6) (q := (RX6, TX6, 18)) (ws1 := (w_X6_ifRounds cI cC h0 h_s h_aside h_past h_snapshot h_text m_s m_aside_2 m_pasts m_isKept m_length m_hasStop m_stopAt m_stopWhy m_spot m_isWrong m_kind m_first m_second m_third m_fourth)) ⟨hx, hb, hml, hown, hts⟩ [0, 1, 2] [] (c_X6_putAside l D cI cC cE h0 h_s h_aside h_past h_snapshot h_text _ m_s m_aside m_pasts m_isKept m_length m_hasStop m_stopAt m_stopWhy m_spot m_isWrong m_kind m_first m_second m_third m_fourth m_aside_2 hu3) (cwV 0 hts gX6_ifRounds_X6_putAside rfl rfl rfl (by decide +kernel) ⟨Nat.le_of_ble_eq_true rfl, Nat.le_of_ble_eq_true rfl⟩) hK hP hD hS hA rfl rfl rfl rfl rfl rfl rfl rfl rfl hl.1 rfl (Nat.le_of_ble_eq_true rfl) dX6_ifRounds_14 ⟨Nat.le_refl 0, Nat.le_refl 0⟩ (fun H locs hP hD hS => ?_)
    refine lv_iload_n hx hb dX6_ifRounds_17 rfl (lv_at hl 2 rfl) ?_
    refine lv_if_eq (tgt := 39) hx hb dX6_ifRounds_18 (by decide) (fun c4 => ?_) (fun c4 => ?_)
    · have h := (k_iB h).1 c4
      exact hJ39   m_s m_aside_2 _ _ hP hD hS _ (lv_sub hl [0, 1] rfl) h
    · have h := (k_iB h).2 c4
      refine lv_aload_n hx hb dX6_ifRounds_21 rfl (lv_at hl 0 rfl) ?_
      refine va_get (ci := 6) (C := RX6) (T := TX6) (N := 18) hx hb hts hiX6 hown hK hP 0 rfl rfl 0 (by decide) (hts (.fieldLink RX6 7 "RiddleTradeModel" "s" "[I") (List.mem_of_getElem? (i := 1) rfl)) (fun _ h9 => h9) rfl dX6_ifRounds_22 ?_
      refine lv_sipush (v := 477) hx hb dX6_ifRounds_25 (by decide) ?_
      refine lv_iconst (v := 0) hx hb dX6_ifRounds_28 (by decide) ?_
      refine k_iast hx hb hK hP hD hS 1 0 rfl rfl h dX6_ifRounds_29 (fun m_s_10 H locs hP hD hS h => ?_)
      have hP : va_P D vwCl (w_X6_ifRounds cI cC h0 h_s h_aside h_past h_snapshot h_text m_s_10 m_aside_2 m_pasts m_isKept m_length m_hasStop m_stopAt m_stopWhy m_spot m_isWrong m_kind m_first m_second m_third m_fourth) H := hP
      have hD : va_D A (w_X6_ifRounds cI cC h0 h_s h_aside h_past h_snapshot h_text m_s_10 m_aside_2 m_pasts m_isKept m_length m_hasStop m_stopAt m_stopWhy m_spot m_isWrong m_kind m_first m_second m_third m_fourth) := hD
      refine lv_aload_n hx hb dX6_ifRounds_30 rfl (lv_at hl 0 rfl) ?_
      refine va_get (ci := 6) (C := RX6) (T := TX6) (N := 18) hx hb hts hiX6 hown hK hP 0 rfl rfl 0 (by decide) (hts (.fieldLink RX6 7 "RiddleTradeModel" "s" "[I") (List.mem_of_getElem? (i := 1) rfl)) (fun _ h9 => h9) rfl dX6_ifRounds_31 ?_
      refine lv_sipush (v := 478) hx hb dX6_ifRounds_34 (by decide) ?_
      refine lv_iconst (v := 0) hx hb dX6_ifRounds_37 (by decide) ?_
      refine k_iast hx hb hK hP hD hS 1 0 rfl rfl h dX6_ifRounds_38 (fun m_s_11 H locs hP hD hS h => ?_)
      have hP : va_P D vwCl (w_X6_ifRounds cI cC h0 h_s h_aside h_past h_snapshot h_text m_s_11 m_aside_2 m_pasts m_isKept m_length m_hasStop m_stopAt m_stopWhy m_spot m_isWrong m_kind m_first m_second m_third m_fourth) H := hP
      have hD : va_D A (w_X6_ifRounds cI cC h0 h_s h_aside h_past h_snapshot h_text m_s_11 m_aside_2 m_pasts m_isKept m_length m_hasStop m_stopAt m_stopWhy m_spot m_isWrong m_kind m_first m_second m_third m_fourth) := hD
      exact hJ39   m_s_11 m_aside_2 _ _ hP hD hS _ (lv_sub hl [0, 1] rfl) h
  · have h := (k_iB h).1 c1
    refine lv_bipush (v := (-2)) hx hb dX6_ifRounds_10 (by decide) ?_
    obtain ⟨rfl, rfl, rfl⟩ := inj3 (Option.some.inj h)
    exact fin _ _ _ _ dX6_ifRounds_12 hP hD hS
abbrev w_X6_richest (cI cC : ClassId) (h0 h_s h_aside h_past h_snapshot h_text : Nat) (m_s : Nat → Int32) (m_pasts : Int32) (m_isKept : Int32) (m_length : Int32) (m_hasStop : Int32) (m_stopAt : Int32) (m_stopWhy : Int32) (m_spot : Int32) (m_isWrong : Int32) (m_kind : Int32) (m_first : Int32) (m_second : Int32) (m_third : Int32) (m_fourth : Int32) : va_W := [(h0, .inr (6, [.ref h_s, .ref h_aside, .ref h_past, .int m_pasts, .ref h_snapshot, .int m_isKept, .ref h_text, .int m_length, .int m_hasStop, .int m_stopAt, .int m_stopWhy, .int m_spot, .int m_isWrong, .int m_kind, .int m_first, .int m_second, .int m_third, .int m_fourth])), (h_s, .inl (cI, 490, .inl m_s))]
def lp_X6_richest_4 (m_s : Nat → Int32) : Nat → Int32 → Int32 → Option (Int32)
  | 0 => fun _ _ => none
  | k + 1 => fun x1 x2 =>
    if 8 ≤ x2 then (some x1)
    else (ob1 (rd 490 m_s (0 + x2)) fun v2 =>
    ob1 (rd 490 m_s (0 + x1)) fun v3 =>
    if v2 ≤ v3 then ((lp_X6_richest_4  m_s k) x1 (x2 + 1))
    else ((lp_X6_richest_4  m_s k) x2 (x2 + 1)))
def d_X6_richest (m_s : Nat → Int32) : Option (Int32) :=
    lp_X6_richest_4  m_s fuel 0 1
set_option maxHeartbeats 4000000 in
set_option maxRecDepth 100000 in
theorem c_X6_richest (l : Launch) (D : va_G) (cI cC cE : ClassId) (h0 h_s h_aside h_past h_snapshot h_text : Nat) (sz : Nat) (m_s : Nat → Int32) (m_pasts : Int32) (m_isKept : Int32) (m_length : Int32) (m_hasStop : Int32) (m_stopAt : Int32) (m_stopWhy : Int32) (m_spot : Int32) (m_isWrong : Int32) (m_kind : Int32) (m_first : Int32) (m_second : Int32) (m_third : Int32) (m_fourth : Int32) (r0 : Int32) (h : d_X6_richest m_s = some r0) : Met l yX6_richest wsX6_richest ({ frames := 0, cells := 0, slots := 0, locals := 0 } : Room) (kP D (kT cI cC cE) [.ref h0] (w_X6_richest cI cC h0 h_s h_aside h_past h_snapshot h_text m_s m_pasts m_isKept m_length m_hasStop m_stopAt m_stopWhy m_spot m_isWrong m_kind m_first m_second m_third m_fourth) sz) (kQi D (kT cI cC cE) (w_X6_richest cI cC h0 h_s h_aside h_past h_snapshot h_text m_s m_pasts m_isKept m_length m_hasStop m_stopAt m_stopWhy m_spot m_isWrong m_kind m_first m_second m_third m_fourth) (w_X6_richest cI cC h0 h_s h_aside h_past h_snapshot h_text m_s m_pasts m_isKept m_length m_hasStop m_stopAt m_stopWhy m_spot m_isWrong m_kind m_first m_second m_third m_fourth) sz r0) 0 0 (va_A (w_X6_richest cI cC h0 h_s h_aside h_past h_snapshot h_text m_s m_pasts m_isKept m_length m_hasStop m_stopAt m_stopWhy m_spot m_isWrong m_kind m_first m_second m_third m_fourth) sz) := by
  refine kMetI (cc := cX6_richest) (maxL := 3) (own := RX6) (by decide) rfl (Nat.le_of_ble_eq_true rfl) rfl ?_
  intro p e s m below meth c A Q hx hb hml hown hts hP hK hD hA hS hname fin ls hl
  have hl : lv_has ls 3 [(0, .ref h0)] := hl
  have hiX6 : ∀ w ∈ u_ws RX6 TX6 18, w ∈ wsX6_richest := by decide +kernel
  have hL4 : ∀ (k : Nat), ∀ (x1 : Int32) (x2 : Int32) (H : Heap) (locs : List Loc), va_P D vwCl (w_X6_richest cI cC h0 h_s h_aside h_past h_snapshot h_text m_s m_pasts m_isKept m_length m_hasStop m_stopAt m_stopWhy m_spot m_isWrong m_kind m_first m_second m_third m_fourth) H → va_D A (w_X6_richest cI cC h0 h_s h_aside h_past h_snapshot h_text m_s m_pasts m_isKept m_length m_hasStop m_stopAt m_stopWhy m_spot m_isWrong m_kind m_first m_second m_third m_fourth) → va_S A s.heap H locs → ∀ (ls : Array Slot), lv_has ls 3 [(0, .ref h0), (1, .int x1), (2, .int x2)] → lp_X6_richest_4  m_s k x1 x2 = some r0 → W p l e ({ frames := 0, cells := 0, slots := 0, locals := 0 } : Room) s m [.ref h0].toArray below meth c H locs 0 0 Q (F0 m 4 ls []) := by
    intro k
    induction k with
    | zero =>
      intro x1 x2 H locs hP hD hS ls hl h
      exact k_none h
    | succ k ih =>
      intro x1 x2 H locs hP hD hS ls hl h
      dsimp only [lp_X6_richest_4] at h
      refine lv_iload_n hx hb dX6_richest_4 rfl (lv_at hl 2 rfl) ?_
      refine lv_bipush (v := 8) hx hb dX6_richest_5 (by decide) ?_
      refine lv_icmp_ge (tgt := 41) hx hb dX6_richest_7 (by decide) (fun c1 => ?_) (fun c1 => ?_)
      · have h := (k_iB h).1 c1
        refine lv_iload_n hx hb dX6_richest_41 rfl (lv_at hl 1 rfl) ?_
        obtain rfl := Option.some.inj h
        exact fin _ _ _ _ dX6_richest_42 hP hD hS
      · have h := (k_iB h).2 c1
        refine lv_aload_n hx hb dX6_richest_10 rfl (lv_at hl 0 rfl) ?_
        refine va_get (ci := 6) (C := RX6) (T := TX6) (N := 18) hx hb hts hiX6 hown hK hP 0 rfl rfl 0 (by decide) (hts (.fieldLink RX6 7 "RiddleTradeModel" "s" "[I") (List.mem_of_getElem? (i := 1) rfl)) (fun _ h9 => h9) rfl dX6_richest_11 ?_
        refine lv_iconst (v := 0) hx hb dX6_richest_14 (by decide) ?_
        refine lv_iload_n hx hb dX6_richest_15 rfl (lv_at hl 2 rfl) ?_
        refine lv_iadd hx hb dX6_richest_16 ?_
        refine k_iald hx hb hK hP 1 0 rfl rfl h dX6_richest_17 (fun v2 h => ?_)
        refine lv_aload_n hx hb dX6_richest_18 rfl (lv_at hl 0 rfl) ?_
        refine va_get (ci := 6) (C := RX6) (T := TX6) (N := 18) hx hb hts hiX6 hown hK hP 0 rfl rfl 0 (by decide) (hts (.fieldLink RX6 7 "RiddleTradeModel" "s" "[I") (List.mem_of_getElem? (i := 1) rfl)) (fun _ h9 => h9) rfl dX6_richest_19 ?_
        refine lv_iconst (v := 0) hx hb dX6_richest_22 (by decide) ?_
        refine lv_iload_n hx hb dX6_richest_23 rfl (lv_at hl 1 rfl) ?_
        refine lv_iadd hx hb dX6_richest_24 ?_
        refine k_iald hx hb hK hP 1 0 rfl rfl h dX6_richest_25 (fun v3 h => ?_)
        refine lv_icmp_le (tgt := 33) hx hb dX6_richest_26 (by decide) (fun c4 => ?_) (fun c4 => ?_)
        · have h := (k_iB h).1 c4
          refine lv_iload_n hx hb dX6_richest_33 rfl (lv_at hl 1 rfl) ?_
          refine lv_istore_n (lv' := [(1, .int x1), (0, .ref h0), (2, .int x2)]) hx hb dX6_richest_34 rfl hl (by decide) rfl (fun ls hl => ?_)
          refine lv_iinc (v := (x2 + 1)) (lv' := [(2, .int (x2 + 1)), (1, .int x1), (0, .ref h0)]) hx hb dX6_richest_35 hl (k := 2) rfl rfl (by decide) rfl (fun ls hl => ?_)
          refine lv_goto (tgt := 4) hx hb dX6_richest_38 (by decide) ?_
          exact ih x1 (x2 + 1) _ _ hP hD hS _ (lv_sub hl [2, 1, 0] rfl) h
        · have h := (k_iB h).2 c4
          refine lv_iload_n hx hb dX6_richest_29 rfl (lv_at hl 2 rfl) ?_
          refine lv_goto (tgt := 34) hx hb dX6_richest_30 (by decide) ?_
          refine lv_istore_n (lv' := [(1, .int x2), (0, .ref h0), (2, .int x2)]) hx hb dX6_richest_34 rfl hl (by decide) rfl (fun ls hl => ?_)
          refine lv_iinc (v := (x2 + 1)) (lv' := [(2, .int (x2 + 1)), (1, .int x2), (0, .ref h0)]) hx hb dX6_richest_35 hl (k := 2) rfl rfl (by decide) rfl (fun ls hl => ?_)
          refine lv_goto (tgt := 4) hx hb dX6_richest_38 (by decide) ?_
          exact ih x2 (x2 + 1) _ _ hP hD hS _ (lv_sub hl [2, 1, 0] rfl) h
  dsimp only [d_X6_richest] at h
  refine lv_iconst (v := 0) hx hb dX6_richest_0 (by decide) ?_
  refine lv_istore_n (lv' := [(1, .int 0), (0, .ref h0)]) hx hb dX6_richest_1 rfl hl (by decide) rfl (fun ls hl => ?_)
  refine lv_iconst (v := 1) hx hb dX6_richest_2 (by decide) ?_
  refine lv_istore_n (lv' := [(2, .int 1), (1, .int 0), (0, .ref h0)]) hx hb dX6_richest_3 rfl hl (by decide) rfl (fun ls hl => ?_)
  exact hL4   fuel 0 1 _ _ hP hD hS _ (lv_sub hl [2, 1, 0] rfl) h
