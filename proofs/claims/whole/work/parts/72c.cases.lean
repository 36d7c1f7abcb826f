/-! part 72c: the law's cases -/
set_option maxHeartbeats 4000000 in
set_option maxRecDepth 100000 in
theorem law_c12 {p : Program} {l : Launch} {e : Env} {s : State} {m : MethodId} {below : List Frame} {meth : Method} {c : Code} {D : va_G} {cI cC cE : ClassId} {b L h0 k0 i : Nat} {xs : Nat → Int32} {Q : State → Prop} (C0 : LCtx p s m c b L xs D cI cC cE) (hi : i + 5 ≤ L) (hL : L ≤ 2560)
    (kk : ∀ (H : Heap) (locs : List Loc) (ls : Array Slot), LInv D cI cC cE (lwA s) h0 k0 H → va_S (lwA s) s.heap H locs → lv_has ls 4 [(0, .ref b), (1, .ref h0), (2, .ref k0), (3, .int (nI i))] → W p l e room_1 s m #[Value.ref b] below meth c H locs 600000 7302250 Q (F0 m 754 ls []))
    (H : Heap) (locs : List Loc) (ls : Array Slot) (hI : LInv D cI cC cE (lwA s) h0 k0 H) (hS : va_S (lwA s) s.heap H locs) (hl : lv_has ls 4 [(0, .ref b), (1, .ref h0), (2, .ref k0), (3, .int (nI i))]) : W p l e room_1 s m #[Value.ref b] below meth c H locs 600000 7302250 Q (F0 m 432 ls []) := by
  obtain ⟨hx, hb, hml, hown, hts, hX, hbl, hK⟩ := C0
  have hA : ∀ q : Nat, s.heap.size ≤ q → lwA s q := fun _ h => h
  have hbA : ¬ lwA s b := Nat.not_le.mpr hbl
  obtain ⟨hh, hr, oo, o1, o2, o3, aN, aT, aS, aH, ks, ka, kp, kn, kt, N, T, S, Hs, old, sze, ft, fG, rG, len, pos, bad, hasS, stN, stE, m_s, m_aside, m_past, m_pasts, m_snapshot, m_isKept, m_text, m_length, m_hasStop, m_stopAt, m_stopWhy, m_spot, m_isWrong, m_kind, m_first, m_second, m_third, m_fourth, hP, hD, hN, hH, hKX, hT, hZ⟩ := hI
  have v1 : vp_in (nI i + 1) L := k_vin (i := i + 1) (by omega) (by omega) (nJ_add i 1)
  have v2 : vp_in (nI i + 2) L := k_vin (i := i + 2) (by omega) (by omega) (nJ_add i 2)
  have v3 : vp_in (nI i + 3) L := k_vin (i := i + 3) (by omega) (by omega) (nJ_add i 3)
  have v4 : vp_in (nI i + 4) L := k_vin (i := i + 4) (by omega) (by omega) (nJ_add i 4)
  refine lv_aload_n hx hb dL_law_432 rfl (lv_at hl 1 rfl) ?_
  obtain ⟨r, N', T', Hs', old', sze', s', past', pasts', g1, g2, hN, hH⟩ := e_restore (T := T) hH hN hKX
  refine kbi (ci := 5) (q := (RX5, TX5, 8)) (bs := [trW h0 hh oo aN aT aS hasS stN stE, exW cI aN N, exW cI aT T, exW cI aS S, w_X1_stateAt cI cC cE hh hr aH old sze, exW cI (aH 0) (Hs 0), exW cI (aH 1) (Hs 1), exW cI (aH 2) (Hs 2), exW cI (aH 3) (Hs 3), ofW cI cC oo o1 o2 o3 ft fG rG len pos bad, moW cI cC k0 ks ka kp kn kt m_s m_aside m_past m_pasts m_snapshot m_isKept m_text m_length m_hasStop m_stopAt m_stopWhy m_spot m_isWrong m_kind m_first m_second m_third m_fourth]) (cs := [trW h0 hh oo aN aT aS hasS stN stE, exW cI aN N, exW cI aT T, exW cI aS S, w_X1_stateAt cI cC cE hh hr aH old sze, exW cI (aH 0) (Hs 0), exW cI (aH 1) (Hs 1), exW cI (aH 2) (Hs 2), exW cI (aH 3) (Hs 3)]) (cs' := [trW h0 hh oo aN aT aS hasS stN stE, exW cI aN N', exW cI aT T', exW cI aS S, w_X1_stateAt cI cC cE hh hr aH old' sze', exW cI (aH 0) (Hs' 0), exW cI (aH 1) (Hs' 1), exW cI (aH 2) (Hs' 2), exW cI (aH 3) (Hs' 3)]) (bs1 := [trW h0 hh oo aN aT aS hasS stN stE, exW cI aN N', exW cI aT T', exW cI aS S, w_X1_stateAt cI cC cE hh hr aH old' sze', exW cI (aH 0) (Hs' 0), exW cI (aH 1) (Hs' 1), exW cI (aH 2) (Hs' 2), exW cI (aH 3) (Hs' 3), ofW cI cC oo o1 o2 o3 ft fG rG len pos bad, moW cI cC k0 ks ka kp kn kt m_s m_aside m_past m_pasts m_snapshot m_isKept m_text m_length m_hasStop m_stopAt m_stopWhy m_spot m_isWrong m_kind m_first m_second m_third m_fourth]) ⟨hx, hb, hml, hown, hts⟩ [0, 1, 2, 3, 4, 5, 6, 7, 8] [9, 10] (c_X5_restore l D cI cC cE h0 hh oo hr aN aT aS aH _ N T S Hs old sze hasS stN stE  r N' T' Hs' old' sze' g1) (cwV 0 hts gL_law_X5_restore rfl rfl rfl (by decide +kernel) ⟨Nat.le_of_ble_eq_true rfl, Nat.le_of_ble_eq_true rfl⟩) hK hP hD hS hA rfl rfl rfl rfl rfl rfl rfl rfl rfl hl.1 rfl (Nat.le_of_ble_eq_true rfl) dL_law_433 ⟨Nat.le_of_ble_eq_true rfl, Nat.le_of_ble_eq_true rfl⟩ (fun H locs hP hD hS => ?_)
  refine lv_aload_n hx hb dL_law_436 rfl (lv_at hl 2 rfl) ?_
  refine kbi (ci := 6) (q := (RX6, TX6, 18)) (bs := [trW h0 hh oo aN aT aS hasS stN stE, exW cI aN N', exW cI aT T', exW cI aS S, w_X1_stateAt cI cC cE hh hr aH old' sze', exW cI (aH 0) (Hs' 0), exW cI (aH 1) (Hs' 1), exW cI (aH 2) (Hs' 2), exW cI (aH 3) (Hs' 3), ofW cI cC oo o1 o2 o3 ft fG rG len pos bad, moW cI cC k0 ks ka kp kn kt m_s m_aside m_past m_pasts m_snapshot m_isKept m_text m_length m_hasStop m_stopAt m_stopWhy m_spot m_isWrong m_kind m_first m_second m_third m_fourth]) (cs := [moW cI cC k0 ks ka kp kn kt m_s m_aside m_past m_pasts m_snapshot m_isKept m_text m_length m_hasStop m_stopAt m_stopWhy m_spot m_isWrong m_kind m_first m_second m_third m_fourth]) (cs' := [moW cI cC k0 ks ka kp kn kt s' m_aside past' pasts' m_snapshot m_isKept m_text m_length m_hasStop m_stopAt m_stopWhy m_spot m_isWrong m_kind m_first m_second m_third m_fourth]) (bs1 := [trW h0 hh oo aN aT aS hasS stN stE, exW cI aN N', exW cI aT T', exW cI aS S, w_X1_stateAt cI cC cE hh hr aH old' sze', exW cI (aH 0) (Hs' 0), exW cI (aH 1) (Hs' 1), exW cI (aH 2) (Hs' 2), exW cI (aH 3) (Hs' 3), ofW cI cC oo o1 o2 o3 ft fG rG len pos bad, moW cI cC k0 ks ka kp kn kt s' m_aside past' pasts' m_snapshot m_isKept m_text m_length m_hasStop m_stopAt m_stopWhy m_spot m_isWrong m_kind m_first m_second m_third m_fourth]) ⟨hx, hb, hml, hown, hts⟩ [10] [0, 1, 2, 3, 4, 5, 6, 7, 8, 9] (ce_X6_restore l D cI cC cE k0 ks ka kp kn kt _ m_s m_aside m_past m_pasts m_snapshot m_isKept m_text m_length m_hasStop m_stopAt m_stopWhy m_spot m_isWrong m_kind m_first m_second m_third m_fourth  r s' past' pasts' g2) (cwV 0 hts gL_law_X6_restore rfl rfl rfl (by decide +kernel) ⟨Nat.le_of_ble_eq_true rfl, Nat.le_of_ble_eq_true rfl⟩) hK hP hD hS hA rfl rfl rfl rfl rfl rfl rfl rfl rfl hl.1 rfl (Nat.le_of_ble_eq_true rfl) dL_law_437 ⟨Nat.le_of_ble_eq_true rfl, Nat.le_of_ble_eq_true rfl⟩ (fun H locs hP hD hS => ?_)
  refine lv_icmp_eq (tgt := 754) hx hb dL_law_440 (by decide) (fun _ => ?_) (fun c => absurd rfl c)
  exact kk _ _ _ ⟨_, _, _, _, _, _, _, _, _, _, _, _, _, _, _, _, _, _, _, _, _, _, _, _, _, _, _, _, _, _, _, _, _, _, _, _, _, _, _, _, _, _, _, _, _, _, _, _, hP, hD, hN, hH, hKX, hT, hZ⟩ hS hl
set_option maxHeartbeats 4000000 in
set_option maxRecDepth 100000 in
theorem law_c13 {p : Program} {l : Launch} {e : Env} {s : State} {m : MethodId} {below : List Frame} {meth : Method} {c : Code} {D : va_G} {cI cC cE : ClassId} {b L h0 k0 i : Nat} {xs : Nat → Int32} {Q : State → Prop} (C0 : LCtx p s m c b L xs D cI cC cE) (hi : i + 5 ≤ L) (hL : L ≤ 2560)
    (kk : ∀ (H : Heap) (locs : List Loc) (ls : Array Slot), LInv D cI cC cE (lwA s) h0 k0 H → va_S (lwA s) s.heap H locs → lv_has ls 4 [(0, .ref b), (1, .ref h0), (2, .ref k0), (3, .int (nI i))] → W p l e room_1 s m #[Value.ref b] below meth c H locs 600000 7302250 Q (F0 m 754 ls []))
    (H : Heap) (locs : List Loc) (ls : Array Slot) (hI : LInv D cI cC cE (lwA s) h0 k0 H) (hS : va_S (lwA s) s.heap H locs) (hl : lv_has ls 4 [(0, .ref b), (1, .ref h0), (2, .ref k0), (3, .int (nI i))]) : W p l e room_1 s m #[Value.ref b] below meth c H locs 600000 7302250 Q (F0 m 445 ls []) := by
  obtain ⟨hx, hb, hml, hown, hts, hX, hbl, hK⟩ := C0
  have hA : ∀ q : Nat, s.heap.size ≤ q → lwA s q := fun _ h => h
  have hbA : ¬ lwA s b := Nat.not_le.mpr hbl
  obtain ⟨hh, hr, oo, o1, o2, o3, aN, aT, aS, aH, ks, ka, kp, kn, kt, N, T, S, Hs, old, sze, ft, fG, rG, len, pos, bad, hasS, stN, stE, m_s, m_aside, m_past, m_pasts, m_snapshot, m_isKept, m_text, m_length, m_hasStop, m_stopAt, m_stopWhy, m_spot, m_isWrong, m_kind, m_first, m_second, m_third, m_fourth, hP, hD, hN, hH, hKX, hT, hZ⟩ := hI
  have v1 : vp_in (nI i + 1) L := k_vin (i := i + 1) (by omega) (by omega) (nJ_add i 1)
  have v2 : vp_in (nI i + 2) L := k_vin (i := i + 2) (by omega) (by omega) (nJ_add i 2)
  have v3 : vp_in (nI i + 3) L := k_vin (i := i + 3) (by omega) (by omega) (nJ_add i 3)
  have v4 : vp_in (nI i + 4) L := k_vin (i := i + 4) (by omega) (by omega) (nJ_add i 4)
  refine lv_aload_n hx hb dL_law_445 rfl (lv_at hl 1 rfl) ?_
  refine lv_aload_n hx hb dL_law_446 rfl (lv_at hl 0 rfl) ?_
  refine lv_iload_n hx hb dL_law_447 rfl (lv_at hl 3 rfl) ?_
  refine lv_iconst (v := 1) hx hb dL_law_448 (by decide) ?_
  refine lv_iadd hx hb dL_law_449 ?_
  refine va_sld hx hb hX hbl hbA hS v1 dL_law_450 ?_
  refine lv_aload_n hx hb dL_law_451 rfl (lv_at hl 0 rfl) ?_
  refine lv_iload_n hx hb dL_law_452 rfl (lv_at hl 3 rfl) ?_
  refine lv_iconst (v := 2) hx hb dL_law_453 (by decide) ?_
  refine lv_iadd hx hb dL_law_454 ?_
  refine va_sld hx hb hX hbl hbA hS v2 dL_law_455 ?_
  obtain ⟨r, g1, g2⟩ := w_trader hN (xs (nI i + 1).toNatClampNeg) (xs (nI i + 2).toNatClampNeg)
  refine kbi (ci := 5) (q := (RX5, TX5, 8)) (bs := [trW h0 hh oo aN aT aS hasS stN stE, exW cI aN N, exW cI aT T, exW cI aS S, w_X1_stateAt cI cC cE hh hr aH old sze, exW cI (aH 0) (Hs 0), exW cI (aH 1) (Hs 1), exW cI (aH 2) (Hs 2), exW cI (aH 3) (Hs 3), ofW cI cC oo o1 o2 o3 ft fG rG len pos bad, moW cI cC k0 ks ka kp kn kt m_s m_aside m_past m_pasts m_snapshot m_isKept m_text m_length m_hasStop m_stopAt m_stopWhy m_spot m_isWrong m_kind m_first m_second m_third m_fourth]) (cs := [trW h0 hh oo aN aT aS hasS stN stE, exW cI aN N]) (cs' := [trW h0 hh oo aN aT aS hasS stN stE, exW cI aN N]) (bs1 := [trW h0 hh oo aN aT aS hasS stN stE, exW cI aN N, exW cI aT T, exW cI aS S, w_X1_stateAt cI cC cE hh hr aH old sze, exW cI (aH 0) (Hs 0), exW cI (aH 1) (Hs 1), exW cI (aH 2) (Hs 2), exW cI (aH 3) (Hs 3), ofW cI cC oo o1 o2 o3 ft fG rG len pos bad, moW cI cC k0 ks ka kp kn kt m_s m_aside m_past m_pasts m_snapshot m_isKept m_text m_length m_hasStop m_stopAt m_stopWhy m_spot m_isWrong m_kind m_first m_second m_third m_fourth]) ⟨hx, hb, hml, hown, hts⟩ [0, 1] [2, 3, 4, 5, 6, 7, 8, 9, 10] (c_X5_trader l D cI cC cE h0 hh oo aN aT aS _ N hasS stN stE (xs (nI i + 1).toNatClampNeg) (xs (nI i + 2).toNatClampNeg) r g1) (cwV 2 hts gL_law_X5_trader rfl rfl rfl (by decide +kernel) ⟨Nat.le_of_ble_eq_true rfl, Nat.le_of_ble_eq_true rfl⟩) hK hP hD hS hA rfl rfl rfl rfl rfl rfl rfl rfl rfl hl.1 rfl (Nat.le_of_ble_eq_true rfl) dL_law_456 ⟨Nat.le_of_ble_eq_true rfl, Nat.le_of_ble_eq_true rfl⟩ (fun H locs hP hD hS => ?_)
  refine lv_aload_n hx hb dL_law_459 rfl (lv_at hl 2 rfl) ?_
  refine lv_aload_n hx hb dL_law_460 rfl (lv_at hl 0 rfl) ?_
  refine lv_iload_n hx hb dL_law_461 rfl (lv_at hl 3 rfl) ?_
  refine lv_iconst (v := 1) hx hb dL_law_462 (by decide) ?_
  refine lv_iadd hx hb dL_law_463 ?_
  refine va_sld hx hb hX hbl hbA hS v1 dL_law_464 ?_
  refine lv_aload_n hx hb dL_law_465 rfl (lv_at hl 0 rfl) ?_
  refine lv_iload_n hx hb dL_law_466 rfl (lv_at hl 3 rfl) ?_
  refine lv_iconst (v := 2) hx hb dL_law_467 (by decide) ?_
  refine lv_iadd hx hb dL_law_468 ?_
  refine va_sld hx hb hX hbl hbA hS v2 dL_law_469 ?_
  refine kbi (ci := 6) (q := (RX6, TX6, 18)) (bs := [trW h0 hh oo aN aT aS hasS stN stE, exW cI aN N, exW cI aT T, exW cI aS S, w_X1_stateAt cI cC cE hh hr aH old sze, exW cI (aH 0) (Hs 0), exW cI (aH 1) (Hs 1), exW cI (aH 2) (Hs 2), exW cI (aH 3) (Hs 3), ofW cI cC oo o1 o2 o3 ft fG rG len pos bad, moW cI cC k0 ks ka kp kn kt m_s m_aside m_past m_pasts m_snapshot m_isKept m_text m_length m_hasStop m_stopAt m_stopWhy m_spot m_isWrong m_kind m_first m_second m_third m_fourth]) (cs := [moW cI cC k0 ks ka kp kn kt m_s m_aside m_past m_pasts m_snapshot m_isKept m_text m_length m_hasStop m_stopAt m_stopWhy m_spot m_isWrong m_kind m_first m_second m_third m_fourth]) (cs' := [moW cI cC k0 ks ka kp kn kt m_s m_aside m_past m_pasts m_snapshot m_isKept m_text m_length m_hasStop m_stopAt m_stopWhy m_spot m_isWrong m_kind m_first m_second m_third m_fourth]) (bs1 := [trW h0 hh oo aN aT aS hasS stN stE, exW cI aN N, exW cI aT T, exW cI aS S, w_X1_stateAt cI cC cE hh hr aH old sze, exW cI (aH 0) (Hs 0), exW cI (aH 1) (Hs 1), exW cI (aH 2) (Hs 2), exW cI (aH 3) (Hs 3), ofW cI cC oo o1 o2 o3 ft fG rG len pos bad, moW cI cC k0 ks ka kp kn kt m_s m_aside m_past m_pasts m_snapshot m_isKept m_text m_length m_hasStop m_stopAt m_stopWhy m_spot m_isWrong m_kind m_first m_second m_third m_fourth]) ⟨hx, hb, hml, hown, hts⟩ [10] [0, 1, 2, 3, 4, 5, 6, 7, 8, 9] (ce_X6_trader l D cI cC cE k0 ks ka kp kn kt _ m_s m_aside m_past m_pasts m_snapshot m_isKept m_text m_length m_hasStop m_stopAt m_stopWhy m_spot m_isWrong m_kind m_first m_second m_third m_fourth (xs (nI i + 1).toNatClampNeg) (xs (nI i + 2).toNatClampNeg) r g2) (cwV 2 hts gL_law_X6_trader rfl rfl rfl (by decide +kernel) ⟨Nat.le_of_ble_eq_true rfl, Nat.le_of_ble_eq_true rfl⟩) hK hP hD hS hA rfl rfl rfl rfl rfl rfl rfl rfl rfl hl.1 rfl (Nat.le_of_ble_eq_true rfl) dL_law_470 ⟨Nat.le_of_ble_eq_true rfl, Nat.le_of_ble_eq_true rfl⟩ (fun H locs hP hD hS => ?_)
  refine lv_icmp_eq (tgt := 754) hx hb dL_law_473 (by decide) (fun _ => ?_) (fun c => absurd rfl c)
  exact kk _ _ _ ⟨_, _, _, _, _, _, _, _, _, _, _, _, _, _, _, _, _, _, _, _, _, _, _, _, _, _, _, _, _, _, _, _, _, _, _, _, _, _, _, _, _, _, _, _, _, _, _, _, hP, hD, hN, hH, hKX, hT, hZ⟩ hS hl
set_option maxHeartbeats 4000000 in
set_option maxRecDepth 100000 in
theorem law_c14 {p : Program} {l : Launch} {e : Env} {s : State} {m : MethodId} {below : List Frame} {meth : Method} {c : Code} {D : va_G} {cI cC cE : ClassId} {b L h0 k0 i : Nat} {xs : Nat → Int32} {Q : State → Prop} (C0 : LCtx p s m c b L xs D cI cC cE) (hi : i + 5 ≤ L) (hL : L ≤ 2560)
    (kk : ∀ (H : Heap) (locs : List Loc) (ls : Array Slot), LInv D cI cC cE (lwA s) h0 k0 H → va_S (lwA s) s.heap H locs → lv_has ls 4 [(0, .ref b), (1, .ref h0), (2, .ref k0), (3, .int (nI i))] → W p l e room_1 s m #[Value.ref b] below meth c H locs 600000 7302250 Q (F0 m 754 ls []))
    (H : Heap) (locs : List Loc) (ls : Array Slot) (hI : LInv D cI cC cE (lwA s) h0 k0 H) (hS : va_S (lwA s) s.heap H locs) (hl : lv_has ls 4 [(0, .ref b), (1, .ref h0), (2, .ref k0), (3, .int (nI i))]) : W p l e room_1 s m #[Value.ref b] below meth c H locs 600000 7302250 Q (F0 m 478 ls []) := by
  obtain ⟨hx, hb, hml, hown, hts, hX, hbl, hK⟩ := C0
  have hA : ∀ q : Nat, s.heap.size ≤ q → lwA s q := fun _ h => h
  have hbA : ¬ lwA s b := Nat.not_le.mpr hbl
  obtain ⟨hh, hr, oo, o1, o2, o3, aN, aT, aS, aH, ks, ka, kp, kn, kt, N, T, S, Hs, old, sze, ft, fG, rG, len, pos, bad, hasS, stN, stE, m_s, m_aside, m_past, m_pasts, m_snapshot, m_isKept, m_text, m_length, m_hasStop, m_stopAt, m_stopWhy, m_spot, m_isWrong, m_kind, m_first, m_second, m_third, m_fourth, hP, hD, hN, hH, hKX, hT, hZ⟩ := hI
  have v1 : vp_in (nI i + 1) L := k_vin (i := i + 1) (by omega) (by omega) (nJ_add i 1)
  have v2 : vp_in (nI i + 2) L := k_vin (i := i + 2) (by omega) (by omega) (nJ_add i 2)
  have v3 : vp_in (nI i + 3) L := k_vin (i := i + 3) (by omega) (by omega) (nJ_add i 3)
  have v4 : vp_in (nI i + 4) L := k_vin (i := i + 4) (by omega) (by omega) (nJ_add i 4)
  refine lv_aload_n hx hb dL_law_478 rfl (lv_at hl 1 rfl) ?_
  refine lv_aload_n hx hb dL_law_479 rfl (lv_at hl 0 rfl) ?_
  refine lv_iload_n hx hb dL_law_480 rfl (lv_at hl 3 rfl) ?_
  refine lv_iconst (v := 1) hx hb dL_law_481 (by decide) ?_
  refine lv_iadd hx hb dL_law_482 ?_
  refine va_sld hx hb hX hbl hbA hS v1 dL_law_483 ?_
  refine lv_aload_n hx hb dL_law_484 rfl (lv_at hl 0 rfl) ?_
  refine lv_iload_n hx hb dL_law_485 rfl (lv_at hl 3 rfl) ?_
  refine lv_iconst (v := 2) hx hb dL_law_486 (by decide) ?_
  refine lv_iadd hx hb dL_law_487 ?_
  refine va_sld hx hb hX hbl hbA hS v2 dL_law_488 ?_
  obtain ⟨r, g1, g2⟩ := w_riddle hN (xs (nI i + 1).toNatClampNeg) (xs (nI i + 2).toNatClampNeg)
  refine kbi (ci := 5) (q := (RX5, TX5, 8)) (bs := [trW h0 hh oo aN aT aS hasS stN stE, exW cI aN N, exW cI aT T, exW cI aS S, w_X1_stateAt cI cC cE hh hr aH old sze, exW cI (aH 0) (Hs 0), exW cI (aH 1) (Hs 1), exW cI (aH 2) (Hs 2), exW cI (aH 3) (Hs 3), ofW cI cC oo o1 o2 o3 ft fG rG len pos bad, moW cI cC k0 ks ka kp kn kt m_s m_aside m_past m_pasts m_snapshot m_isKept m_text m_length m_hasStop m_stopAt m_stopWhy m_spot m_isWrong m_kind m_first m_second m_third m_fourth]) (cs := [trW h0 hh oo aN aT aS hasS stN stE, exW cI aN N]) (cs' := [trW h0 hh oo aN aT aS hasS stN stE, exW cI aN N]) (bs1 := [trW h0 hh oo aN aT aS hasS stN stE, exW cI aN N, exW cI aT T, exW cI aS S, w_X1_stateAt cI cC cE hh hr aH old sze, exW cI (aH 0) (Hs 0), exW cI (aH 1) (Hs 1), exW cI (aH 2) (Hs 2), exW cI (aH 3) (Hs 3), ofW cI cC oo o1 o2 o3 ft fG rG len pos bad, moW cI cC k0 ks ka kp kn kt m_s m_aside m_past m_pasts m_snapshot m_isKept m_text m_length m_hasStop m_stopAt m_stopWhy m_spot m_isWrong m_kind m_first m_second m_third m_fourth]) ⟨hx, hb, hml, hown, hts⟩ [0, 1] [2, 3, 4, 5, 6, 7, 8, 9, 10] (c_X5_riddle l D cI cC cE h0 hh oo aN aT aS _ N hasS stN stE (xs (nI i + 1).toNatClampNeg) (xs (nI i + 2).toNatClampNeg) r g1) (cwV 2 hts gL_law_X5_riddle rfl rfl rfl (by decide +kernel) ⟨Nat.le_of_ble_eq_true rfl, Nat.le_of_ble_eq_true rfl⟩) hK hP hD hS hA rfl rfl rfl rfl rfl rfl rfl rfl rfl hl.1 rfl (Nat.le_of_ble_eq_true rfl) dL_law_489 ⟨Nat.le_of_ble_eq_true rfl, Nat.le_of_ble_eq_true rfl⟩ (fun H locs hP hD hS => ?_)
  refine lv_aload_n hx hb dL_law_492 rfl (lv_at hl 2 rfl) ?_
  refine lv_aload_n hx hb dL_law_493 rfl (lv_at hl 0 rfl) ?_
  refine lv_iload_n hx hb dL_law_494 rfl (lv_at hl 3 rfl) ?_
  refine lv_iconst (v := 1) hx hb dL_law_495 (by decide) ?_
  refine lv_iadd hx hb dL_law_496 ?_
  refine va_sld hx hb hX hbl hbA hS v1 dL_law_497 ?_
  refine lv_aload_n hx hb dL_law_498 rfl (lv_at hl 0 rfl) ?_
  refine lv_iload_n hx hb dL_law_499 rfl (lv_at hl 3 rfl) ?_
  refine lv_iconst (v := 2) hx hb dL_law_500 (by decide) ?_
  refine lv_iadd hx hb dL_law_501 ?_
  refine va_sld hx hb hX hbl hbA hS v2 dL_law_502 ?_
  refine kbi (ci := 6) (q := (RX6, TX6, 18)) (bs := [trW h0 hh oo aN aT aS hasS stN stE, exW cI aN N, exW cI aT T, exW cI aS S, w_X1_stateAt cI cC cE hh hr aH old sze, exW cI (aH 0) (Hs 0), exW cI (aH 1) (Hs 1), exW cI (aH 2) (Hs 2), exW cI (aH 3) (Hs 3), ofW cI cC oo o1 o2 o3 ft fG rG len pos bad, moW cI cC k0 ks ka kp kn kt m_s m_aside m_past m_pasts m_snapshot m_isKept m_text m_length m_hasStop m_stopAt m_stopWhy m_spot m_isWrong m_kind m_first m_second m_third m_fourth]) (cs := [moW cI cC k0 ks ka kp kn kt m_s m_aside m_past m_pasts m_snapshot m_isKept m_text m_length m_hasStop m_stopAt m_stopWhy m_spot m_isWrong m_kind m_first m_second m_third m_fourth]) (cs' := [moW cI cC k0 ks ka kp kn kt m_s m_aside m_past m_pasts m_snapshot m_isKept m_text m_length m_hasStop m_stopAt m_stopWhy m_spot m_isWrong m_kind m_first m_second m_third m_fourth]) (bs1 := [trW h0 hh oo aN aT aS hasS stN stE, exW cI aN N, exW cI aT T, exW cI aS S, w_X1_stateAt cI cC cE hh hr aH old sze, exW cI (aH 0) (Hs 0), exW cI (aH 1) (Hs 1), exW cI (aH 2) (Hs 2), exW cI (aH 3) (Hs 3), ofW cI cC oo o1 o2 o3 ft fG rG len pos bad, moW cI cC k0 ks ka kp kn kt m_s m_aside m_past m_pasts m_snapshot m_isKept m_text m_length m_hasStop m_stopAt m_stopWhy m_spot m_isWrong m_kind m_first m_second m_third m_fourth]) ⟨hx, hb, hml, hown, hts⟩ [10] [0, 1, 2, 3, 4, 5, 6, 7, 8, 9] (ce_X6_riddle l D cI cC cE k0 ks ka kp kn kt _ m_s m_aside m_past m_pasts m_snapshot m_isKept m_text m_length m_hasStop m_stopAt m_stopWhy m_spot m_isWrong m_kind m_first m_second m_third m_fourth (xs (nI i + 1).toNatClampNeg) (xs (nI i + 2).toNatClampNeg) r g2) (cwV 2 hts gL_law_X6_riddle rfl rfl rfl (by decide +kernel) ⟨Nat.le_of_ble_eq_true rfl, Nat.le_of_ble_eq_true rfl⟩) hK hP hD hS hA rfl rfl rfl rfl rfl rfl rfl rfl rfl hl.1 rfl (Nat.le_of_ble_eq_true rfl) dL_law_503 ⟨Nat.le_of_ble_eq_true rfl, Nat.le_of_ble_eq_true rfl⟩ (fun H locs hP hD hS => ?_)
  refine lv_icmp_eq (tgt := 754) hx hb dL_law_506 (by decide) (fun _ => ?_) (fun c => absurd rfl c)
  exact kk _ _ _ ⟨_, _, _, _, _, _, _, _, _, _, _, _, _, _, _, _, _, _, _, _, _, _, _, _, _, _, _, _, _, _, _, _, _, _, _, _, _, _, _, _, _, _, _, _, _, _, _, _, hP, hD, hN, hH, hKX, hT, hZ⟩ hS hl
set_option maxHeartbeats 4000000 in
set_option maxRecDepth 100000 in
theorem law_c15 {p : Program} {l : Launch} {e : Env} {s : State} {m : MethodId} {below : List Frame} {meth : Method} {c : Code} {D : va_G} {cI cC cE : ClassId} {b L h0 k0 i : Nat} {xs : Nat → Int32} {Q : State → Prop} (C0 : LCtx p s m c b L xs D cI cC cE) (hi : i + 5 ≤ L) (hL : L ≤ 2560)
    (kk : ∀ (H : Heap) (locs : List Loc) (ls : Array Slot), LInv D cI cC cE (lwA s) h0 k0 H → va_S (lwA s) s.heap H locs → lv_has ls 4 [(0, .ref b), (1, .ref h0), (2, .ref k0), (3, .int (nI i))] → W p l e room_1 s m #[Value.ref b] below meth c H locs 600000 7302250 Q (F0 m 754 ls []))
    (H : Heap) (locs : List Loc) (ls : Array Slot) (hI : LInv D cI cC cE (lwA s) h0 k0 H) (hS : va_S (lwA s) s.heap H locs) (hl : lv_has ls 4 [(0, .ref b), (1, .ref h0), (2, .ref k0), (3, .int (nI i))]) : W p l e room_1 s m #[Value.ref b] below meth c H locs 600000 7302250 Q (F0 m 511 ls []) := by
  obtain ⟨hx, hb, hml, hown, hts, hX, hbl, hK⟩ := C0
  have hA : ∀ q : Nat, s.heap.size ≤ q → lwA s q := fun _ h => h
  have hbA : ¬ lwA s b := Nat.not_le.mpr hbl
  obtain ⟨hh, hr, oo, o1, o2, o3, aN, aT, aS, aH, ks, ka, kp, kn, kt, N, T, S, Hs, old, sze, ft, fG, rG, len, pos, bad, hasS, stN, stE, m_s, m_aside, m_past, m_pasts, m_snapshot, m_isKept, m_text, m_length, m_hasStop, m_stopAt, m_stopWhy, m_spot, m_isWrong, m_kind, m_first, m_second, m_third, m_fourth, hP, hD, hN, hH, hKX, hT, hZ⟩ := hI
  have v1 : vp_in (nI i + 1) L := k_vin (i := i + 1) (by omega) (by omega) (nJ_add i 1)
  have v2 : vp_in (nI i + 2) L := k_vin (i := i + 2) (by omega) (by omega) (nJ_add i 2)
  have v3 : vp_in (nI i + 3) L := k_vin (i := i + 3) (by omega) (by omega) (nJ_add i 3)
  have v4 : vp_in (nI i + 4) L := k_vin (i := i + 4) (by omega) (by omega) (nJ_add i 4)
  refine lv_aload_n hx hb dL_law_511 rfl (lv_at hl 1 rfl) ?_
  refine lv_aload_n hx hb dL_law_512 rfl (lv_at hl 0 rfl) ?_
  refine lv_iload_n hx hb dL_law_513 rfl (lv_at hl 3 rfl) ?_
  refine lv_iconst (v := 1) hx hb dL_law_514 (by decide) ?_
  refine lv_iadd hx hb dL_law_515 ?_
  refine va_sld hx hb hX hbl hbA hS v1 dL_law_516 ?_
  refine lv_aload_n hx hb dL_law_517 rfl (lv_at hl 0 rfl) ?_
  refine lv_iload_n hx hb dL_law_518 rfl (lv_at hl 3 rfl) ?_
  refine lv_iconst (v := 2) hx hb dL_law_519 (by decide) ?_
  refine lv_iadd hx hb dL_law_520 ?_
  refine va_sld hx hb hX hbl hbA hS v2 dL_law_521 ?_
  obtain ⟨r, g1, g2⟩ := w_answer hN (xs (nI i + 1).toNatClampNeg) (xs (nI i + 2).toNatClampNeg)
  refine kbi (ci := 5) (q := (RX5, TX5, 8)) (bs := [trW h0 hh oo aN aT aS hasS stN stE, exW cI aN N, exW cI aT T, exW cI aS S, w_X1_stateAt cI cC cE hh hr aH old sze, exW cI (aH 0) (Hs 0), exW cI (aH 1) (Hs 1), exW cI (aH 2) (Hs 2), exW cI (aH 3) (Hs 3), ofW cI cC oo o1 o2 o3 ft fG rG len pos bad, moW cI cC k0 ks ka kp kn kt m_s m_aside m_past m_pasts m_snapshot m_isKept m_text m_length m_hasStop m_stopAt m_stopWhy m_spot m_isWrong m_kind m_first m_second m_third m_fourth]) (cs := [trW h0 hh oo aN aT aS hasS stN stE, exW cI aN N]) (cs' := [trW h0 hh oo aN aT aS hasS stN stE, exW cI aN N]) (bs1 := [trW h0 hh oo aN aT aS hasS stN stE, exW cI aN N, exW cI aT T, exW cI aS S, w_X1_stateAt cI cC cE hh hr aH old sze, exW cI (aH 0) (Hs 0), exW cI (aH 1) (Hs 1), exW cI (aH 2) (Hs 2), exW cI (aH 3) (Hs 3), ofW cI cC oo o1 o2 o3 ft fG rG len pos bad, moW cI cC k0 ks ka kp kn kt m_s m_aside m_past m_pasts m_snapshot m_isKept m_text m_length m_hasStop m_stopAt m_stopWhy m_spot m_isWrong m_kind m_first m_second m_third m_fourth]) ⟨hx, hb, hml, hown, hts⟩ [0, 1] [2, 3, 4, 5, 6, 7, 8, 9, 10] (c_X5_answer l D cI cC cE h0 hh oo aN aT aS _ N hasS stN stE (xs (nI i + 1).toNatClampNeg) (xs (nI i + 2).toNatClampNeg) r g1) (cwV 2 hts gL_law_X5_answer rfl rfl rfl (by decide +kernel) ⟨Nat.le_of_ble_eq_true rfl, Nat.le_of_ble_eq_true rfl⟩) hK hP hD hS hA rfl rfl rfl rfl rfl rfl rfl rfl rfl hl.1 rfl (Nat.le_of_ble_eq_true rfl) dL_law_522 ⟨Nat.le_of_ble_eq_true rfl, Nat.le_of_ble_eq_true rfl⟩ (fun H locs hP hD hS => ?_)
  refine lv_aload_n hx hb dL_law_525 rfl (lv_at hl 2 rfl) ?_
  refine lv_aload_n hx hb dL_law_526 rfl (lv_at hl 0 rfl) ?_
  refine lv_iload_n hx hb dL_law_527 rfl (lv_at hl 3 rfl) ?_
  refine lv_iconst (v := 1) hx hb dL_law_528 (by decide) ?_
  refine lv_iadd hx hb dL_law_529 ?_
  refine va_sld hx hb hX hbl hbA hS v1 dL_law_530 ?_
  refine lv_aload_n hx hb dL_law_531 rfl (lv_at hl 0 rfl) ?_
  refine lv_iload_n hx hb dL_law_532 rfl (lv_at hl 3 rfl) ?_
  refine lv_iconst (v := 2) hx hb dL_law_533 (by decide) ?_
  refine lv_iadd hx hb dL_law_534 ?_
  refine va_sld hx hb hX hbl hbA hS v2 dL_law_535 ?_
  refine kbi (ci := 6) (q := (RX6, TX6, 18)) (bs := [trW h0 hh oo aN aT aS hasS stN stE, exW cI aN N, exW cI aT T, exW cI aS S, w_X1_stateAt cI cC cE hh hr aH old sze, exW cI (aH 0) (Hs 0), exW cI (aH 1) (Hs 1), exW cI (aH 2) (Hs 2), exW cI (aH 3) (Hs 3), ofW cI cC oo o1 o2 o3 ft fG rG len pos bad, moW cI cC k0 ks ka kp kn kt m_s m_aside m_past m_pasts m_snapshot m_isKept m_text m_length m_hasStop m_stopAt m_stopWhy m_spot m_isWrong m_kind m_first m_second m_third m_fourth]) (cs := [moW cI cC k0 ks ka kp kn kt m_s m_aside m_past m_pasts m_snapshot m_isKept m_text m_length m_hasStop m_stopAt m_stopWhy m_spot m_isWrong m_kind m_first m_second m_third m_fourth]) (cs' := [moW cI cC k0 ks ka kp kn kt m_s m_aside m_past m_pasts m_snapshot m_isKept m_text m_length m_hasStop m_stopAt m_stopWhy m_spot m_isWrong m_kind m_first m_second m_third m_fourth]) (bs1 := [trW h0 hh oo aN aT aS hasS stN stE, exW cI aN N, exW cI aT T, exW cI aS S, w_X1_stateAt cI cC cE hh hr aH old sze, exW cI (aH 0) (Hs 0), exW cI (aH 1) (Hs 1), exW cI (aH 2) (Hs 2), exW cI (aH 3) (Hs 3), ofW cI cC oo o1 o2 o3 ft fG rG len pos bad, moW cI cC k0 ks ka kp kn kt m_s m_aside m_past m_pasts m_snapshot m_isKept m_text m_length m_hasStop m_stopAt m_stopWhy m_spot m_isWrong m_kind m_first m_second m_third m_fourth]) ⟨hx, hb, hml, hown, hts⟩ [10] [0, 1, 2, 3, 4, 5, 6, 7, 8, 9] (ce_X6_answer l D cI cC cE k0 ks ka kp kn kt _ m_s m_aside m_past m_pasts m_snapshot m_isKept m_text m_length m_hasStop m_stopAt m_stopWhy m_spot m_isWrong m_kind m_first m_second m_third m_fourth (xs (nI i + 1).toNatClampNeg) (xs (nI i + 2).toNatClampNeg) r g2) (cwV 2 hts gL_law_X6_answer rfl rfl rfl (by decide +kernel) ⟨Nat.le_of_ble_eq_true rfl, Nat.le_of_ble_eq_true rfl⟩) hK hP hD hS hA rfl rfl rfl rfl rfl rfl rfl rfl rfl hl.1 rfl (Nat.le_of_ble_eq_true rfl) dL_law_536 ⟨Nat.le_of_ble_eq_true rfl, Nat.le_of_ble_eq_true rfl⟩ (fun H locs hP hD hS => ?_)
  refine lv_icmp_eq (tgt := 754) hx hb dL_law_539 (by decide) (fun _ => ?_) (fun c => absurd rfl c)
  exact kk _ _ _ ⟨_, _, _, _, _, _, _, _, _, _, _, _, _, _, _, _, _, _, _, _, _, _, _, _, _, _, _, _, _, _, _, _, _, _, _, _, _, _, _, _, _, _, _, _, _, _, _, _, hP, hD, hN, hH, hKX, hT, hZ⟩ hS hl
set_option maxHeartbeats 4000000 in
set_option maxRecDepth 100000 in
theorem law_c16 {p : Program} {l : Launch} {e : Env} {s : State} {m : MethodId} {below : List Frame} {meth : Method} {c : Code} {D : va_G} {cI cC cE : ClassId} {b L h0 k0 i : Nat} {xs : Nat → Int32} {Q : State → Prop} (C0 : LCtx p s m c b L xs D cI cC cE) (hi : i + 5 ≤ L) (hL : L ≤ 2560)
    (kk : ∀ (H : Heap) (locs : List Loc) (ls : Array Slot), LInv D cI cC cE (lwA s) h0 k0 H → va_S (lwA s) s.heap H locs → lv_has ls 4 [(0, .ref b), (1, .ref h0), (2, .ref k0), (3, .int (nI i))] → W p l e room_1 s m #[Value.ref b] below meth c H locs 600000 7302250 Q (F0 m 754 ls []))
    (H : Heap) (locs : List Loc) (ls : Array Slot) (hI : LInv D cI cC cE (lwA s) h0 k0 H) (hS : va_S (lwA s) s.heap H locs) (hl : lv_has ls 4 [(0, .ref b), (1, .ref h0), (2, .ref k0), (3, .int (nI i))]) : W p l e room_1 s m #[Value.ref b] below meth c H locs 600000 7302250 Q (F0 m 544 ls []) := by
  obtain ⟨hx, hb, hml, hown, hts, hX, hbl, hK⟩ := C0
  have hA : ∀ q : Nat, s.heap.size ≤ q → lwA s q := fun _ h => h
  have hbA : ¬ lwA s b := Nat.not_le.mpr hbl
  obtain ⟨hh, hr, oo, o1, o2, o3, aN, aT, aS, aH, ks, ka, kp, kn, kt, N, T, S, Hs, old, sze, ft, fG, rG, len, pos, bad, hasS, stN, stE, m_s, m_aside, m_past, m_pasts, m_snapshot, m_isKept, m_text, m_length, m_hasStop, m_stopAt, m_stopWhy, m_spot, m_isWrong, m_kind, m_first, m_second, m_third, m_fourth, hP, hD, hN, hH, hKX, hT, hZ⟩ := hI
  have v1 : vp_in (nI i + 1) L := k_vin (i := i + 1) (by omega) (by omega) (nJ_add i 1)
  have v2 : vp_in (nI i + 2) L := k_vin (i := i + 2) (by omega) (by omega) (nJ_add i 2)
  have v3 : vp_in (nI i + 3) L := k_vin (i := i + 3) (by omega) (by omega) (nJ_add i 3)
  have v4 : vp_in (nI i + 4) L := k_vin (i := i + 4) (by omega) (by omega) (nJ_add i 4)
  refine lv_aload_n hx hb dL_law_544 rfl (lv_at hl 1 rfl) ?_
  refine lv_aload_n hx hb dL_law_545 rfl (lv_at hl 0 rfl) ?_
  refine lv_iload_n hx hb dL_law_546 rfl (lv_at hl 3 rfl) ?_
  refine lv_iconst (v := 1) hx hb dL_law_547 (by decide) ?_
  refine lv_iadd hx hb dL_law_548 ?_
  refine va_sld hx hb hX hbl hbA hS v1 dL_law_549 ?_
  obtain ⟨r, g1, g2⟩ := w_waits hN (xs (nI i + 1).toNatClampNeg)
  refine kbi (ci := 5) (q := (RX5, TX5, 8)) (bs := [trW h0 hh oo aN aT aS hasS stN stE, exW cI aN N, exW cI aT T, exW cI aS S, w_X1_stateAt cI cC cE hh hr aH old sze, exW cI (aH 0) (Hs 0), exW cI (aH 1) (Hs 1), exW cI (aH 2) (Hs 2), exW cI (aH 3) (Hs 3), ofW cI cC oo o1 o2 o3 ft fG rG len pos bad, moW cI cC k0 ks ka kp kn kt m_s m_aside m_past m_pasts m_snapshot m_isKept m_text m_length m_hasStop m_stopAt m_stopWhy m_spot m_isWrong m_kind m_first m_second m_third m_fourth]) (cs := [trW h0 hh oo aN aT aS hasS stN stE, exW cI aN N]) (cs' := [trW h0 hh oo aN aT aS hasS stN stE, exW cI aN N]) (bs1 := [trW h0 hh oo aN aT aS hasS stN stE, exW cI aN N, exW cI aT T, exW cI aS S, w_X1_stateAt cI cC cE hh hr aH old sze, exW cI (aH 0) (Hs 0), exW cI (aH 1) (Hs 1), exW cI (aH 2) (Hs 2), exW cI (aH 3) (Hs 3), ofW cI cC oo o1 o2 o3 ft fG rG len pos bad, moW cI cC k0 ks ka kp kn kt m_s m_aside m_past m_pasts m_snapshot m_isKept m_text m_length m_hasStop m_stopAt m_stopWhy m_spot m_isWrong m_kind m_first m_second m_third m_fourth]) ⟨hx, hb, hml, hown, hts⟩ [0, 1] [2, 3, 4, 5, 6, 7, 8, 9, 10] (c_X5_waits l D cI cC cE h0 hh oo aN aT aS _ N hasS stN stE (xs (nI i + 1).toNatClampNeg) r g1) (cwV 1 hts gL_law_X5_waits rfl rfl rfl (by decide +kernel) ⟨Nat.le_of_ble_eq_true rfl, Nat.le_of_ble_eq_true rfl⟩) hK hP hD hS hA rfl rfl rfl rfl rfl rfl rfl rfl rfl hl.1 rfl (Nat.le_of_ble_eq_true rfl) dL_law_550 ⟨Nat.le_of_ble_eq_true rfl, Nat.le_of_ble_eq_true rfl⟩ (fun H locs hP hD hS => ?_)
  refine lv_aload_n hx hb dL_law_553 rfl (lv_at hl 2 rfl) ?_
  refine lv_aload_n hx hb dL_law_554 rfl (lv_at hl 0 rfl) ?_
  refine lv_iload_n hx hb dL_law_555 rfl (lv_at hl 3 rfl) ?_
  refine lv_iconst (v := 1) hx hb dL_law_556 (by decide) ?_
  refine lv_iadd hx hb dL_law_557 ?_
  refine va_sld hx hb hX hbl hbA hS v1 dL_law_558 ?_
  refine kbi (ci := 6) (q := (RX6, TX6, 18)) (bs := [trW h0 hh oo aN aT aS hasS stN stE, exW cI aN N, exW cI aT T, exW cI aS S, w_X1_stateAt cI cC cE hh hr aH old sze, exW cI (aH 0) (Hs 0), exW cI (aH 1) (Hs 1), exW cI (aH 2) (Hs 2), exW cI (aH 3) (Hs 3), ofW cI cC oo o1 o2 o3 ft fG rG len pos bad, moW cI cC k0 ks ka kp kn kt m_s m_aside m_past m_pasts m_snapshot m_isKept m_text m_length m_hasStop m_stopAt m_stopWhy m_spot m_isWrong m_kind m_first m_second m_third m_fourth]) (cs := [moW cI cC k0 ks ka kp kn kt m_s m_aside m_past m_pasts m_snapshot m_isKept m_text m_length m_hasStop m_stopAt m_stopWhy m_spot m_isWrong m_kind m_first m_second m_third m_fourth]) (cs' := [moW cI cC k0 ks ka kp kn kt m_s m_aside m_past m_pasts m_snapshot m_isKept m_text m_length m_hasStop m_stopAt m_stopWhy m_spot m_isWrong m_kind m_first m_second m_third m_fourth]) (bs1 := [trW h0 hh oo aN aT aS hasS stN stE, exW cI aN N, exW cI aT T, exW cI aS S, w_X1_stateAt cI cC cE hh hr aH old sze, exW cI (aH 0) (Hs 0), exW cI (aH 1) (Hs 1), exW cI (aH 2) (Hs 2), exW cI (aH 3) (Hs 3), ofW cI cC oo o1 o2 o3 ft fG rG len pos bad, moW cI cC k0 ks ka kp kn kt m_s m_aside m_past m_pasts m_snapshot m_isKept m_text m_length m_hasStop m_stopAt m_stopWhy m_spot m_isWrong m_kind m_first m_second m_third m_fourth]) ⟨hx, hb, hml, hown, hts⟩ [10] [0, 1, 2, 3, 4, 5, 6, 7, 8, 9] (ce_X6_waits l D cI cC cE k0 ks ka kp kn kt _ m_s m_aside m_past m_pasts m_snapshot m_isKept m_text m_length m_hasStop m_stopAt m_stopWhy m_spot m_isWrong m_kind m_first m_second m_third m_fourth (xs (nI i + 1).toNatClampNeg) r g2) (cwV 1 hts gL_law_X6_waits rfl rfl rfl (by decide +kernel) ⟨Nat.le_of_ble_eq_true rfl, Nat.le_of_ble_eq_true rfl⟩) hK hP hD hS hA rfl rfl rfl rfl rfl rfl rfl rfl rfl hl.1 rfl (Nat.le_of_ble_eq_true rfl) dL_law_559 ⟨Nat.le_of_ble_eq_true rfl, Nat.le_of_ble_eq_true rfl⟩ (fun H locs hP hD hS => ?_)
  refine lv_icmp_eq (tgt := 754) hx hb dL_law_562 (by decide) (fun _ => ?_) (fun c => absurd rfl c)
  exact kk _ _ _ ⟨_, _, _, _, _, _, _, _, _, _, _, _, _, _, _, _, _, _, _, _, _, _, _, _, _, _, _, _, _, _, _, _, _, _, _, _, _, _, _, _, _, _, _, _, _, _, _, _, hP, hD, hN, hH, hKX, hT, hZ⟩ hS hl
set_option maxHeartbeats 4000000 in
set_option maxRecDepth 100000 in
theorem law_c17 {p : Program} {l : Launch} {e : Env} {s : State} {m : MethodId} {below : List Frame} {meth : Method} {c : Code} {D : va_G} {cI cC cE : ClassId} {b L h0 k0 i : Nat} {xs : Nat → Int32} {Q : State → Prop} (C0 : LCtx p s m c b L xs D cI cC cE) (hi : i + 5 ≤ L) (hL : L ≤ 2560)
    (kk : ∀ (H : Heap) (locs : List Loc) (ls : Array Slot), LInv D cI cC cE (lwA s) h0 k0 H → va_S (lwA s) s.heap H locs → lv_has ls 4 [(0, .ref b), (1, .ref h0), (2, .ref k0), (3, .int (nI i))] → W p l e room_1 s m #[Value.ref b] below meth c H locs 600000 7302250 Q (F0 m 754 ls []))
    (H : Heap) (locs : List Loc) (ls : Array Slot) (hI : LInv D cI cC cE (lwA s) h0 k0 H) (hS : va_S (lwA s) s.heap H locs) (hl : lv_has ls 4 [(0, .ref b), (1, .ref h0), (2, .ref k0), (3, .int (nI i))]) : W p l e room_1 s m #[Value.ref b] below meth c H locs 600000 7302250 Q (F0 m 567 ls []) := by
  obtain ⟨hx, hb, hml, hown, hts, hX, hbl, hK⟩ := C0
  have hA : ∀ q : Nat, s.heap.size ≤ q → lwA s q := fun _ h => h
  have hbA : ¬ lwA s b := Nat.not_le.mpr hbl
  obtain ⟨hh, hr, oo, o1, o2, o3, aN, aT, aS, aH, ks, ka, kp, kn, kt, N, T, S, Hs, old, sze, ft, fG, rG, len, pos, bad, hasS, stN, stE, m_s, m_aside, m_past, m_pasts, m_snapshot, m_isKept, m_text, m_length, m_hasStop, m_stopAt, m_stopWhy, m_spot, m_isWrong, m_kind, m_first, m_second, m_third, m_fourth, hP, hD, hN, hH, hKX, hT, hZ⟩ := hI
  have v1 : vp_in (nI i + 1) L := k_vin (i := i + 1) (by omega) (by omega) (nJ_add i 1)
  have v2 : vp_in (nI i + 2) L := k_vin (i := i + 2) (by omega) (by omega) (nJ_add i 2)
  have v3 : vp_in (nI i + 3) L := k_vin (i := i + 3) (by omega) (by omega) (nJ_add i 3)
  have v4 : vp_in (nI i + 4) L := k_vin (i := i + 4) (by omega) (by omega) (nJ_add i 4)
  refine lv_aload_n hx hb dL_law_567 rfl (lv_at hl 1 rfl) ?_
  refine lv_aload_n hx hb dL_law_568 rfl (lv_at hl 0 rfl) ?_
  refine lv_iload_n hx hb dL_law_569 rfl (lv_at hl 3 rfl) ?_
  refine lv_iconst (v := 1) hx hb dL_law_570 (by decide) ?_
  refine lv_iadd hx hb dL_law_571 ?_
  refine va_sld hx hb hX hbl hbA hS v1 dL_law_572 ?_
  refine lv_aload_n hx hb dL_law_573 rfl (lv_at hl 0 rfl) ?_
  refine lv_iload_n hx hb dL_law_574 rfl (lv_at hl 3 rfl) ?_
  refine lv_iconst (v := 2) hx hb dL_law_575 (by decide) ?_
  refine lv_iadd hx hb dL_law_576 ?_
  refine va_sld hx hb hX hbl hbA hS v2 dL_law_577 ?_
  obtain ⟨r, g1, g2⟩ := w_weigh hN (xs (nI i + 1).toNatClampNeg) (xs (nI i + 2).toNatClampNeg)
  refine kbi (ci := 5) (q := (RX5, TX5, 8)) (bs := [trW h0 hh oo aN aT aS hasS stN stE, exW cI aN N, exW cI aT T, exW cI aS S, w_X1_stateAt cI cC cE hh hr aH old sze, exW cI (aH 0) (Hs 0), exW cI (aH 1) (Hs 1), exW cI (aH 2) (Hs 2), exW cI (aH 3) (Hs 3), ofW cI cC oo o1 o2 o3 ft fG rG len pos bad, moW cI cC k0 ks ka kp kn kt m_s m_aside m_past m_pasts m_snapshot m_isKept m_text m_length m_hasStop m_stopAt m_stopWhy m_spot m_isWrong m_kind m_first m_second m_third m_fourth]) (cs := [trW h0 hh oo aN aT aS hasS stN stE, exW cI aN N]) (cs' := [trW h0 hh oo aN aT aS hasS stN stE, exW cI aN N]) (bs1 := [trW h0 hh oo aN aT aS hasS stN stE, exW cI aN N, exW cI aT T, exW cI aS S, w_X1_stateAt cI cC cE hh hr aH old sze, exW cI (aH 0) (Hs 0), exW cI (aH 1) (Hs 1), exW cI (aH 2) (Hs 2), exW cI (aH 3) (Hs 3), ofW cI cC oo o1 o2 o3 ft fG rG len pos bad, moW cI cC k0 ks ka kp kn kt m_s m_aside m_past m_pasts m_snapshot m_isKept m_text m_length m_hasStop m_stopAt m_stopWhy m_spot m_isWrong m_kind m_first m_second m_third m_fourth]) ⟨hx, hb, hml, hown, hts⟩ [0, 1] [2, 3, 4, 5, 6, 7, 8, 9, 10] (c_X5_weigh l D cI cC cE h0 hh oo aN aT aS _ N hasS stN stE (xs (nI i + 1).toNatClampNeg) (xs (nI i + 2).toNatClampNeg) r g1) (cwV 2 hts gL_law_X5_weigh rfl rfl rfl (by decide +kernel) ⟨Nat.le_of_ble_eq_true rfl, Nat.le_of_ble_eq_true rfl⟩) hK hP hD hS hA rfl rfl rfl rfl rfl rfl rfl rfl rfl hl.1 rfl (Nat.le_of_ble_eq_true rfl) dL_law_578 ⟨Nat.le_of_ble_eq_true rfl, Nat.le_of_ble_eq_true rfl⟩ (fun H locs hP hD hS => ?_)
  refine lv_aload_n hx hb dL_law_581 rfl (lv_at hl 2 rfl) ?_
  refine lv_aload_n hx hb dL_law_582 rfl (lv_at hl 0 rfl) ?_
  refine lv_iload_n hx hb dL_law_583 rfl (lv_at hl 3 rfl) ?_
  refine lv_iconst (v := 1) hx hb dL_law_584 (by decide) ?_
  refine lv_iadd hx hb dL_law_585 ?_
  refine va_sld hx hb hX hbl hbA hS v1 dL_law_586 ?_
  refine lv_aload_n hx hb dL_law_587 rfl (lv_at hl 0 rfl) ?_
  refine lv_iload_n hx hb dL_law_588 rfl (lv_at hl 3 rfl) ?_
  refine lv_iconst (v := 2) hx hb dL_law_589 (by decide) ?_
  refine lv_iadd hx hb dL_law_590 ?_
  refine va_sld hx hb hX hbl hbA hS v2 dL_law_591 ?_
  refine kbi (ci := 6) (q := (RX6, TX6, 18)) (bs := [trW h0 hh oo aN aT aS hasS stN stE, exW cI aN N, exW cI aT T, exW cI aS S, w_X1_stateAt cI cC cE hh hr aH old sze, exW cI (aH 0) (Hs 0), exW cI (aH 1) (Hs 1), exW cI (aH 2) (Hs 2), exW cI (aH 3) (Hs 3), ofW cI cC oo o1 o2 o3 ft fG rG len pos bad, moW cI cC k0 ks ka kp kn kt m_s m_aside m_past m_pasts m_snapshot m_isKept m_text m_length m_hasStop m_stopAt m_stopWhy m_spot m_isWrong m_kind m_first m_second m_third m_fourth]) (cs := [moW cI cC k0 ks ka kp kn kt m_s m_aside m_past m_pasts m_snapshot m_isKept m_text m_length m_hasStop m_stopAt m_stopWhy m_spot m_isWrong m_kind m_first m_second m_third m_fourth]) (cs' := [moW cI cC k0 ks ka kp kn kt m_s m_aside m_past m_pasts m_snapshot m_isKept m_text m_length m_hasStop m_stopAt m_stopWhy m_spot m_isWrong m_kind m_first m_second m_third m_fourth]) (bs1 := [trW h0 hh oo aN aT aS hasS stN stE, exW cI aN N, exW cI aT T, exW cI aS S, w_X1_stateAt cI cC cE hh hr aH old sze, exW cI (aH 0) (Hs 0), exW cI (aH 1) (Hs 1), exW cI (aH 2) (Hs 2), exW cI (aH 3) (Hs 3), ofW cI cC oo o1 o2 o3 ft fG rG len pos bad, moW cI cC k0 ks ka kp kn kt m_s m_aside m_past m_pasts m_snapshot m_isKept m_text m_length m_hasStop m_stopAt m_stopWhy m_spot m_isWrong m_kind m_first m_second m_third m_fourth]) ⟨hx, hb, hml, hown, hts⟩ [10] [0, 1, 2, 3, 4, 5, 6, 7, 8, 9] (ce_X6_weigh l D cI cC cE k0 ks ka kp kn kt _ m_s m_aside m_past m_pasts m_snapshot m_isKept m_text m_length m_hasStop m_stopAt m_stopWhy m_spot m_isWrong m_kind m_first m_second m_third m_fourth (xs (nI i + 1).toNatClampNeg) (xs (nI i + 2).toNatClampNeg) r g2) (cwV 2 hts gL_law_X6_weigh rfl rfl rfl (by decide +kernel) ⟨Nat.le_of_ble_eq_true rfl, Nat.le_of_ble_eq_true rfl⟩) hK hP hD hS hA rfl rfl rfl rfl rfl rfl rfl rfl rfl hl.1 rfl (Nat.le_of_ble_eq_true rfl) dL_law_592 ⟨Nat.le_of_ble_eq_true rfl, Nat.le_of_ble_eq_true rfl⟩ (fun H locs hP hD hS => ?_)
  refine lv_icmp_eq (tgt := 754) hx hb dL_law_595 (by decide) (fun _ => ?_) (fun c => absurd rfl c)
  exact kk _ _ _ ⟨_, _, _, _, _, _, _, _, _, _, _, _, _, _, _, _, _, _, _, _, _, _, _, _, _, _, _, _, _, _, _, _, _, _, _, _, _, _, _, _, _, _, _, _, _, _, _, _, hP, hD, hN, hH, hKX, hT, hZ⟩ hS hl
