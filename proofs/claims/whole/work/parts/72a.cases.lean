/-! part 72a: the law's cases -/
set_option maxHeartbeats 4000000 in
set_option maxRecDepth 100000 in
theorem law_c0 {p : Program} {l : Launch} {e : Env} {s : State} {m : MethodId} {below : List Frame} {meth : Method} {c : Code} {D : va_G} {cI cC cE : ClassId} {b L h0 k0 i : Nat} {xs : Nat → Int32} {Q : State → Prop} (C0 : LCtx p s m c b L xs D cI cC cE) (hi : i + 5 ≤ L) (hL : L ≤ 2560)
    (kk : ∀ (H : Heap) (locs : List Loc) (ls : Array Slot), LInv D cI cC cE (lwA s) h0 k0 H → va_S (lwA s) s.heap H locs → lv_has ls 4 [(0, .ref b), (1, .ref h0), (2, .ref k0), (3, .int (nI i))] → W p l e room_1 s m #[Value.ref b] below meth c H locs 600000 7302250 Q (F0 m 754 ls []))
    (H : Heap) (locs : List Loc) (ls : Array Slot) (hI : LInv D cI cC cE (lwA s) h0 k0 H) (hS : va_S (lwA s) s.heap H locs) (hl : lv_has ls 4 [(0, .ref b), (1, .ref h0), (2, .ref k0), (3, .int (nI i))]) : W p l e room_1 s m #[Value.ref b] below meth c H locs 600000 7302250 Q (F0 m 144 ls []) := by
  obtain ⟨hx, hb, hml, hown, hts, hX, hbl, hK⟩ := C0
  have hA : ∀ q : Nat, s.heap.size ≤ q → lwA s q := fun _ h => h
  have hbA : ¬ lwA s b := Nat.not_le.mpr hbl
  obtain ⟨hh, hr, oo, o1, o2, o3, aN, aT, aS, aH, ks, ka, kp, kn, kt, N, T, S, Hs, old, sze, ft, fG, rG, len, pos, bad, hasS, stN, stE, m_s, m_aside, m_past, m_pasts, m_snapshot, m_isKept, m_text, m_length, m_hasStop, m_stopAt, m_stopWhy, m_spot, m_isWrong, m_kind, m_first, m_second, m_third, m_fourth, hP, hD, hN, hH, hKX, hT, hZ⟩ := hI
  have v1 : vp_in (nI i + 1) L := k_vin (i := i + 1) (by omega) (by omega) (nJ_add i 1)
  have v2 : vp_in (nI i + 2) L := k_vin (i := i + 2) (by omega) (by omega) (nJ_add i 2)
  have v3 : vp_in (nI i + 3) L := k_vin (i := i + 3) (by omega) (by omega) (nJ_add i 3)
  have v4 : vp_in (nI i + 4) L := k_vin (i := i + 4) (by omega) (by omega) (nJ_add i 4)
  refine lv_aload_n hx hb dL_law_144 rfl (lv_at hl 1 rfl) ?_
  refine lv_aload_n hx hb dL_law_145 rfl (lv_at hl 0 rfl) ?_
  refine lv_iload_n hx hb dL_law_146 rfl (lv_at hl 3 rfl) ?_
  refine lv_iconst (v := 1) hx hb dL_law_147 (by decide) ?_
  refine lv_iadd hx hb dL_law_148 ?_
  refine va_sld hx hb hX hbl hbA hS v1 dL_law_149 ?_
  refine lv_aload_n hx hb dL_law_150 rfl (lv_at hl 0 rfl) ?_
  refine lv_iload_n hx hb dL_law_151 rfl (lv_at hl 3 rfl) ?_
  refine lv_iconst (v := 2) hx hb dL_law_152 (by decide) ?_
  refine lv_iadd hx hb dL_law_153 ?_
  refine va_sld hx hb hX hbl hbA hS v2 dL_law_154 ?_
  refine lv_aload_n hx hb dL_law_155 rfl (lv_at hl 0 rfl) ?_
  refine lv_iload_n hx hb dL_law_156 rfl (lv_at hl 3 rfl) ?_
  refine lv_iconst (v := 3) hx hb dL_law_157 (by decide) ?_
  refine lv_iadd hx hb dL_law_158 ?_
  refine va_sld hx hb hX hbl hbA hS v3 dL_law_159 ?_
  obtain ⟨r, N', T', Hs', old', sze', s', past', pasts', g1, g2, hN, hH⟩ := w_ask (T := T) hN hH (xs (nI i + 1).toNatClampNeg) (xs (nI i + 2).toNatClampNeg) (xs (nI i + 3).toNatClampNeg)
  refine kbi (ci := 5) (q := (RX5, TX5, 8)) (bs := [trW h0 hh oo aN aT aS hasS stN stE, exW cI aN N, exW cI aT T, exW cI aS S, w_X1_stateAt cI cC cE hh hr aH old sze, exW cI (aH 0) (Hs 0), exW cI (aH 1) (Hs 1), exW cI (aH 2) (Hs 2), exW cI (aH 3) (Hs 3), ofW cI cC oo o1 o2 o3 ft fG rG len pos bad, moW cI cC k0 ks ka kp kn kt m_s m_aside m_past m_pasts m_snapshot m_isKept m_text m_length m_hasStop m_stopAt m_stopWhy m_spot m_isWrong m_kind m_first m_second m_third m_fourth]) (cs := [trW h0 hh oo aN aT aS hasS stN stE, exW cI aN N, exW cI aT T, w_X1_stateAt cI cC cE hh hr aH old sze, exW cI (aH 0) (Hs 0), exW cI (aH 1) (Hs 1), exW cI (aH 2) (Hs 2), exW cI (aH 3) (Hs 3)]) (cs' := [trW h0 hh oo aN aT aS hasS stN stE, exW cI aN N', exW cI aT T', w_X1_stateAt cI cC cE hh hr aH old' sze', exW cI (aH 0) (Hs' 0), exW cI (aH 1) (Hs' 1), exW cI (aH 2) (Hs' 2), exW cI (aH 3) (Hs' 3)]) (bs1 := [trW h0 hh oo aN aT aS hasS stN stE, exW cI aN N', exW cI aT T', exW cI aS S, w_X1_stateAt cI cC cE hh hr aH old' sze', exW cI (aH 0) (Hs' 0), exW cI (aH 1) (Hs' 1), exW cI (aH 2) (Hs' 2), exW cI (aH 3) (Hs' 3), ofW cI cC oo o1 o2 o3 ft fG rG len pos bad, moW cI cC k0 ks ka kp kn kt m_s m_aside m_past m_pasts m_snapshot m_isKept m_text m_length m_hasStop m_stopAt m_stopWhy m_spot m_isWrong m_kind m_first m_second m_third m_fourth]) ⟨hx, hb, hml, hown, hts⟩ [0, 1, 2, 4, 5, 6, 7, 8] [3, 9, 10] (c_X5_ask l D cI cC cE h0 hh oo hr aN aT aS aH _ N T Hs old sze hasS stN stE (xs (nI i + 1).toNatClampNeg) (xs (nI i + 2).toNatClampNeg) (xs (nI i + 3).toNatClampNeg) r N' T' Hs' old' sze' g1) (cwV 3 hts gL_law_X5_ask rfl rfl rfl (by decide +kernel) ⟨Nat.le_of_ble_eq_true rfl, Nat.le_of_ble_eq_true rfl⟩) hK hP hD hS hA rfl rfl rfl rfl rfl rfl rfl rfl rfl hl.1 rfl (Nat.le_of_ble_eq_true rfl) dL_law_160 ⟨Nat.le_of_ble_eq_true rfl, Nat.le_of_ble_eq_true rfl⟩ (fun H locs hP hD hS => ?_)
  refine lv_aload_n hx hb dL_law_163 rfl (lv_at hl 2 rfl) ?_
  refine lv_aload_n hx hb dL_law_164 rfl (lv_at hl 0 rfl) ?_
  refine lv_iload_n hx hb dL_law_165 rfl (lv_at hl 3 rfl) ?_
  refine lv_iconst (v := 1) hx hb dL_law_166 (by decide) ?_
  refine lv_iadd hx hb dL_law_167 ?_
  refine va_sld hx hb hX hbl hbA hS v1 dL_law_168 ?_
  refine lv_aload_n hx hb dL_law_169 rfl (lv_at hl 0 rfl) ?_
  refine lv_iload_n hx hb dL_law_170 rfl (lv_at hl 3 rfl) ?_
  refine lv_iconst (v := 2) hx hb dL_law_171 (by decide) ?_
  refine lv_iadd hx hb dL_law_172 ?_
  refine va_sld hx hb hX hbl hbA hS v2 dL_law_173 ?_
  refine lv_aload_n hx hb dL_law_174 rfl (lv_at hl 0 rfl) ?_
  refine lv_iload_n hx hb dL_law_175 rfl (lv_at hl 3 rfl) ?_
  refine lv_iconst (v := 3) hx hb dL_law_176 (by decide) ?_
  refine lv_iadd hx hb dL_law_177 ?_
  refine va_sld hx hb hX hbl hbA hS v3 dL_law_178 ?_
  refine kbi (ci := 6) (q := (RX6, TX6, 18)) (bs := [trW h0 hh oo aN aT aS hasS stN stE, exW cI aN N', exW cI aT T', exW cI aS S, w_X1_stateAt cI cC cE hh hr aH old' sze', exW cI (aH 0) (Hs' 0), exW cI (aH 1) (Hs' 1), exW cI (aH 2) (Hs' 2), exW cI (aH 3) (Hs' 3), ofW cI cC oo o1 o2 o3 ft fG rG len pos bad, moW cI cC k0 ks ka kp kn kt m_s m_aside m_past m_pasts m_snapshot m_isKept m_text m_length m_hasStop m_stopAt m_stopWhy m_spot m_isWrong m_kind m_first m_second m_third m_fourth]) (cs := [moW cI cC k0 ks ka kp kn kt m_s m_aside m_past m_pasts m_snapshot m_isKept m_text m_length m_hasStop m_stopAt m_stopWhy m_spot m_isWrong m_kind m_first m_second m_third m_fourth]) (cs' := [moW cI cC k0 ks ka kp kn kt s' m_aside past' pasts' m_snapshot m_isKept m_text m_length m_hasStop m_stopAt m_stopWhy m_spot m_isWrong m_kind m_first m_second m_third m_fourth]) (bs1 := [trW h0 hh oo aN aT aS hasS stN stE, exW cI aN N', exW cI aT T', exW cI aS S, w_X1_stateAt cI cC cE hh hr aH old' sze', exW cI (aH 0) (Hs' 0), exW cI (aH 1) (Hs' 1), exW cI (aH 2) (Hs' 2), exW cI (aH 3) (Hs' 3), ofW cI cC oo o1 o2 o3 ft fG rG len pos bad, moW cI cC k0 ks ka kp kn kt s' m_aside past' pasts' m_snapshot m_isKept m_text m_length m_hasStop m_stopAt m_stopWhy m_spot m_isWrong m_kind m_first m_second m_third m_fourth]) ⟨hx, hb, hml, hown, hts⟩ [10] [0, 1, 2, 3, 4, 5, 6, 7, 8, 9] (ce_X6_ask l D cI cC cE k0 ks ka kp kn kt _ m_s m_aside m_past m_pasts m_snapshot m_isKept m_text m_length m_hasStop m_stopAt m_stopWhy m_spot m_isWrong m_kind m_first m_second m_third m_fourth (xs (nI i + 1).toNatClampNeg) (xs (nI i + 2).toNatClampNeg) (xs (nI i + 3).toNatClampNeg) r s' past' pasts' g2) (cwV 3 hts gL_law_X6_ask rfl rfl rfl (by decide +kernel) ⟨Nat.le_of_ble_eq_true rfl, Nat.le_of_ble_eq_true rfl⟩) hK hP hD hS hA rfl rfl rfl rfl rfl rfl rfl rfl rfl hl.1 rfl (Nat.le_of_ble_eq_true rfl) dL_law_179 ⟨Nat.le_of_ble_eq_true rfl, Nat.le_of_ble_eq_true rfl⟩ (fun H locs hP hD hS => ?_)
  refine lv_icmp_eq (tgt := 754) hx hb dL_law_182 (by decide) (fun _ => ?_) (fun c => absurd rfl c)
  exact kk _ _ _ ⟨_, _, _, _, _, _, _, _, _, _, _, _, _, _, _, _, _, _, _, _, _, _, _, _, _, _, _, _, _, _, _, _, _, _, _, _, _, _, _, _, _, _, _, _, _, _, _, _, hP, hD, hN, hH, hKX, hT, hZ⟩ hS hl
set_option maxHeartbeats 4000000 in
set_option maxRecDepth 100000 in
theorem law_c1 {p : Program} {l : Launch} {e : Env} {s : State} {m : MethodId} {below : List Frame} {meth : Method} {c : Code} {D : va_G} {cI cC cE : ClassId} {b L h0 k0 i : Nat} {xs : Nat → Int32} {Q : State → Prop} (C0 : LCtx p s m c b L xs D cI cC cE) (hi : i + 5 ≤ L) (hL : L ≤ 2560)
    (kk : ∀ (H : Heap) (locs : List Loc) (ls : Array Slot), LInv D cI cC cE (lwA s) h0 k0 H → va_S (lwA s) s.heap H locs → lv_has ls 4 [(0, .ref b), (1, .ref h0), (2, .ref k0), (3, .int (nI i))] → W p l e room_1 s m #[Value.ref b] below meth c H locs 600000 7302250 Q (F0 m 754 ls []))
    (H : Heap) (locs : List Loc) (ls : Array Slot) (hI : LInv D cI cC cE (lwA s) h0 k0 H) (hS : va_S (lwA s) s.heap H locs) (hl : lv_has ls 4 [(0, .ref b), (1, .ref h0), (2, .ref k0), (3, .int (nI i))]) : W p l e room_1 s m #[Value.ref b] below meth c H locs 600000 7302250 Q (F0 m 187 ls []) := by
  obtain ⟨hx, hb, hml, hown, hts, hX, hbl, hK⟩ := C0
  have hA : ∀ q : Nat, s.heap.size ≤ q → lwA s q := fun _ h => h
  have hbA : ¬ lwA s b := Nat.not_le.mpr hbl
  obtain ⟨hh, hr, oo, o1, o2, o3, aN, aT, aS, aH, ks, ka, kp, kn, kt, N, T, S, Hs, old, sze, ft, fG, rG, len, pos, bad, hasS, stN, stE, m_s, m_aside, m_past, m_pasts, m_snapshot, m_isKept, m_text, m_length, m_hasStop, m_stopAt, m_stopWhy, m_spot, m_isWrong, m_kind, m_first, m_second, m_third, m_fourth, hP, hD, hN, hH, hKX, hT, hZ⟩ := hI
  have v1 : vp_in (nI i + 1) L := k_vin (i := i + 1) (by omega) (by omega) (nJ_add i 1)
  have v2 : vp_in (nI i + 2) L := k_vin (i := i + 2) (by omega) (by omega) (nJ_add i 2)
  have v3 : vp_in (nI i + 3) L := k_vin (i := i + 3) (by omega) (by omega) (nJ_add i 3)
  have v4 : vp_in (nI i + 4) L := k_vin (i := i + 4) (by omega) (by omega) (nJ_add i 4)
  refine lv_aload_n hx hb dL_law_187 rfl (lv_at hl 1 rfl) ?_
  refine lv_aload_n hx hb dL_law_188 rfl (lv_at hl 0 rfl) ?_
  refine lv_iload_n hx hb dL_law_189 rfl (lv_at hl 3 rfl) ?_
  refine lv_iconst (v := 1) hx hb dL_law_190 (by decide) ?_
  refine lv_iadd hx hb dL_law_191 ?_
  refine va_sld hx hb hX hbl hbA hS v1 dL_law_192 ?_
  obtain ⟨r, N', T', Hs', old', sze', s', past', pasts', g1, g2, hN, hH⟩ := w_withdraw (T := T) hN hH (xs (nI i + 1).toNatClampNeg)
  refine kbi (ci := 5) (q := (RX5, TX5, 8)) (bs := [trW h0 hh oo aN aT aS hasS stN stE, exW cI aN N, exW cI aT T, exW cI aS S, w_X1_stateAt cI cC cE hh hr aH old sze, exW cI (aH 0) (Hs 0), exW cI (aH 1) (Hs 1), exW cI (aH 2) (Hs 2), exW cI (aH 3) (Hs 3), ofW cI cC oo o1 o2 o3 ft fG rG len pos bad, moW cI cC k0 ks ka kp kn kt m_s m_aside m_past m_pasts m_snapshot m_isKept m_text m_length m_hasStop m_stopAt m_stopWhy m_spot m_isWrong m_kind m_first m_second m_third m_fourth]) (cs := [trW h0 hh oo aN aT aS hasS stN stE, exW cI aN N, exW cI aT T, w_X1_stateAt cI cC cE hh hr aH old sze, exW cI (aH 0) (Hs 0), exW cI (aH 1) (Hs 1), exW cI (aH 2) (Hs 2), exW cI (aH 3) (Hs 3)]) (cs' := [trW h0 hh oo aN aT aS hasS stN stE, exW cI aN N', exW cI aT T', w_X1_stateAt cI cC cE hh hr aH old' sze', exW cI (aH 0) (Hs' 0), exW cI (aH 1) (Hs' 1), exW cI (aH 2) (Hs' 2), exW cI (aH 3) (Hs' 3)]) (bs1 := [trW h0 hh oo aN aT aS hasS stN stE, exW cI aN N', exW cI aT T', exW cI aS S, w_X1_stateAt cI cC cE hh hr aH old' sze', exW cI (aH 0) (Hs' 0), exW cI (aH 1) (Hs' 1), exW cI (aH 2) (Hs' 2), exW cI (aH 3) (Hs' 3), ofW cI cC oo o1 o2 o3 ft fG rG len pos bad, moW cI cC k0 ks ka kp kn kt m_s m_aside m_past m_pasts m_snapshot m_isKept m_text m_length m_hasStop m_stopAt m_stopWhy m_spot m_isWrong m_kind m_first m_second m_third m_fourth]) ⟨hx, hb, hml, hown, hts⟩ [0, 1, 2, 4, 5, 6, 7, 8] [3, 9, 10] (c_X5_withdraw l D cI cC cE h0 hh oo hr aN aT aS aH _ N T Hs old sze hasS stN stE (xs (nI i + 1).toNatClampNeg) r N' T' Hs' old' sze' g1) (cwV 1 hts gL_law_X5_withdraw rfl rfl rfl (by decide +kernel) ⟨Nat.le_of_ble_eq_true rfl, Nat.le_of_ble_eq_true rfl⟩) hK hP hD hS hA rfl rfl rfl rfl rfl rfl rfl rfl rfl hl.1 rfl (Nat.le_of_ble_eq_true rfl) dL_law_193 ⟨Nat.le_of_ble_eq_true rfl, Nat.le_of_ble_eq_true rfl⟩ (fun H locs hP hD hS => ?_)
  refine lv_aload_n hx hb dL_law_196 rfl (lv_at hl 2 rfl) ?_
  refine lv_aload_n hx hb dL_law_197 rfl (lv_at hl 0 rfl) ?_
  refine lv_iload_n hx hb dL_law_198 rfl (lv_at hl 3 rfl) ?_
  refine lv_iconst (v := 1) hx hb dL_law_199 (by decide) ?_
  refine lv_iadd hx hb dL_law_200 ?_
  refine va_sld hx hb hX hbl hbA hS v1 dL_law_201 ?_
  refine kbi (ci := 6) (q := (RX6, TX6, 18)) (bs := [trW h0 hh oo aN aT aS hasS stN stE, exW cI aN N', exW cI aT T', exW cI aS S, w_X1_stateAt cI cC cE hh hr aH old' sze', exW cI (aH 0) (Hs' 0), exW cI (aH 1) (Hs' 1), exW cI (aH 2) (Hs' 2), exW cI (aH 3) (Hs' 3), ofW cI cC oo o1 o2 o3 ft fG rG len pos bad, moW cI cC k0 ks ka kp kn kt m_s m_aside m_past m_pasts m_snapshot m_isKept m_text m_length m_hasStop m_stopAt m_stopWhy m_spot m_isWrong m_kind m_first m_second m_third m_fourth]) (cs := [moW cI cC k0 ks ka kp kn kt m_s m_aside m_past m_pasts m_snapshot m_isKept m_text m_length m_hasStop m_stopAt m_stopWhy m_spot m_isWrong m_kind m_first m_second m_third m_fourth]) (cs' := [moW cI cC k0 ks ka kp kn kt s' m_aside past' pasts' m_snapshot m_isKept m_text m_length m_hasStop m_stopAt m_stopWhy m_spot m_isWrong m_kind m_first m_second m_third m_fourth]) (bs1 := [trW h0 hh oo aN aT aS hasS stN stE, exW cI aN N', exW cI aT T', exW cI aS S, w_X1_stateAt cI cC cE hh hr aH old' sze', exW cI (aH 0) (Hs' 0), exW cI (aH 1) (Hs' 1), exW cI (aH 2) (Hs' 2), exW cI (aH 3) (Hs' 3), ofW cI cC oo o1 o2 o3 ft fG rG len pos bad, moW cI cC k0 ks ka kp kn kt s' m_aside past' pasts' m_snapshot m_isKept m_text m_length m_hasStop m_stopAt m_stopWhy m_spot m_isWrong m_kind m_first m_second m_third m_fourth]) ⟨hx, hb, hml, hown, hts⟩ [10] [0, 1, 2, 3, 4, 5, 6, 7, 8, 9] (ce_X6_withdraw l D cI cC cE k0 ks ka kp kn kt _ m_s m_aside m_past m_pasts m_snapshot m_isKept m_text m_length m_hasStop m_stopAt m_stopWhy m_spot m_isWrong m_kind m_first m_second m_third m_fourth (xs (nI i + 1).toNatClampNeg) r s' past' pasts' g2) (cwV 1 hts gL_law_X6_withdraw rfl rfl rfl (by decide +kernel) ⟨Nat.le_of_ble_eq_true rfl, Nat.le_of_ble_eq_true rfl⟩) hK hP hD hS hA rfl rfl rfl rfl rfl rfl rfl rfl rfl hl.1 rfl (Nat.le_of_ble_eq_true rfl) dL_law_202 ⟨Nat.le_of_ble_eq_true rfl, Nat.le_of_ble_eq_true rfl⟩ (fun H locs hP hD hS => ?_)
  refine lv_icmp_eq (tgt := 754) hx hb dL_law_205 (by decide) (fun _ => ?_) (fun c => absurd rfl c)
  exact kk _ _ _ ⟨_, _, _, _, _, _, _, _, _, _, _, _, _, _, _, _, _, _, _, _, _, _, _, _, _, _, _, _, _, _, _, _, _, _, _, _, _, _, _, _, _, _, _, _, _, _, _, _, hP, hD, hN, hH, hKX, hT, hZ⟩ hS hl
set_option maxHeartbeats 4000000 in
set_option maxRecDepth 100000 in
theorem law_c2 {p : Program} {l : Launch} {e : Env} {s : State} {m : MethodId} {below : List Frame} {meth : Method} {c : Code} {D : va_G} {cI cC cE : ClassId} {b L h0 k0 i : Nat} {xs : Nat → Int32} {Q : State → Prop} (C0 : LCtx p s m c b L xs D cI cC cE) (hi : i + 5 ≤ L) (hL : L ≤ 2560)
    (kk : ∀ (H : Heap) (locs : List Loc) (ls : Array Slot), LInv D cI cC cE (lwA s) h0 k0 H → va_S (lwA s) s.heap H locs → lv_has ls 4 [(0, .ref b), (1, .ref h0), (2, .ref k0), (3, .int (nI i))] → W p l e room_1 s m #[Value.ref b] below meth c H locs 600000 7302250 Q (F0 m 754 ls []))
    (H : Heap) (locs : List Loc) (ls : Array Slot) (hI : LInv D cI cC cE (lwA s) h0 k0 H) (hS : va_S (lwA s) s.heap H locs) (hl : lv_has ls 4 [(0, .ref b), (1, .ref h0), (2, .ref k0), (3, .int (nI i))]) : W p l e room_1 s m #[Value.ref b] below meth c H locs 600000 7302250 Q (F0 m 210 ls []) := by
  obtain ⟨hx, hb, hml, hown, hts, hX, hbl, hK⟩ := C0
  have hA : ∀ q : Nat, s.heap.size ≤ q → lwA s q := fun _ h => h
  have hbA : ¬ lwA s b := Nat.not_le.mpr hbl
  obtain ⟨hh, hr, oo, o1, o2, o3, aN, aT, aS, aH, ks, ka, kp, kn, kt, N, T, S, Hs, old, sze, ft, fG, rG, len, pos, bad, hasS, stN, stE, m_s, m_aside, m_past, m_pasts, m_snapshot, m_isKept, m_text, m_length, m_hasStop, m_stopAt, m_stopWhy, m_spot, m_isWrong, m_kind, m_first, m_second, m_third, m_fourth, hP, hD, hN, hH, hKX, hT, hZ⟩ := hI
  have v1 : vp_in (nI i + 1) L := k_vin (i := i + 1) (by omega) (by omega) (nJ_add i 1)
  have v2 : vp_in (nI i + 2) L := k_vin (i := i + 2) (by omega) (by omega) (nJ_add i 2)
  have v3 : vp_in (nI i + 3) L := k_vin (i := i + 3) (by omega) (by omega) (nJ_add i 3)
  have v4 : vp_in (nI i + 4) L := k_vin (i := i + 4) (by omega) (by omega) (nJ_add i 4)
  refine lv_aload_n hx hb dL_law_210 rfl (lv_at hl 1 rfl) ?_
  refine lv_aload_n hx hb dL_law_211 rfl (lv_at hl 0 rfl) ?_
  refine lv_iload_n hx hb dL_law_212 rfl (lv_at hl 3 rfl) ?_
  refine lv_iconst (v := 1) hx hb dL_law_213 (by decide) ?_
  refine lv_iadd hx hb dL_law_214 ?_
  refine va_sld hx hb hX hbl hbA hS v1 dL_law_215 ?_
  refine lv_aload_n hx hb dL_law_216 rfl (lv_at hl 0 rfl) ?_
  refine lv_iload_n hx hb dL_law_217 rfl (lv_at hl 3 rfl) ?_
  refine lv_iconst (v := 2) hx hb dL_law_218 (by decide) ?_
  refine lv_iadd hx hb dL_law_219 ?_
  refine va_sld hx hb hX hbl hbA hS v2 dL_law_220 ?_
  refine lv_aload_n hx hb dL_law_221 rfl (lv_at hl 0 rfl) ?_
  refine lv_iload_n hx hb dL_law_222 rfl (lv_at hl 3 rfl) ?_
  refine lv_iconst (v := 3) hx hb dL_law_223 (by decide) ?_
  refine lv_iadd hx hb dL_law_224 ?_
  refine va_sld hx hb hX hbl hbA hS v3 dL_law_225 ?_
  refine lv_aload_n hx hb dL_law_226 rfl (lv_at hl 0 rfl) ?_
  refine lv_iload_n hx hb dL_law_227 rfl (lv_at hl 3 rfl) ?_
  refine lv_iconst (v := 4) hx hb dL_law_228 (by decide) ?_
  refine lv_iadd hx hb dL_law_229 ?_
  refine va_sld hx hb hX hbl hbA hS v4 dL_law_230 ?_
  obtain ⟨r, N', T', Hs', old', sze', s', past', pasts', g1, g2, hN, hH⟩ := w_deliver (T := T) hN hH (xs (nI i + 1).toNatClampNeg) (xs (nI i + 2).toNatClampNeg) (xs (nI i + 3).toNatClampNeg) (xs (nI i + 4).toNatClampNeg)
  refine kbi (ci := 5) (q := (RX5, TX5, 8)) (bs := [trW h0 hh oo aN aT aS hasS stN stE, exW cI aN N, exW cI aT T, exW cI aS S, w_X1_stateAt cI cC cE hh hr aH old sze, exW cI (aH 0) (Hs 0), exW cI (aH 1) (Hs 1), exW cI (aH 2) (Hs 2), exW cI (aH 3) (Hs 3), ofW cI cC oo o1 o2 o3 ft fG rG len pos bad, moW cI cC k0 ks ka kp kn kt m_s m_aside m_past m_pasts m_snapshot m_isKept m_text m_length m_hasStop m_stopAt m_stopWhy m_spot m_isWrong m_kind m_first m_second m_third m_fourth]) (cs := [trW h0 hh oo aN aT aS hasS stN stE, exW cI aN N, exW cI aT T, w_X1_stateAt cI cC cE hh hr aH old sze, exW cI (aH 0) (Hs 0), exW cI (aH 1) (Hs 1), exW cI (aH 2) (Hs 2), exW cI (aH 3) (Hs 3)]) (cs' := [trW h0 hh oo aN aT aS hasS stN stE, exW cI aN N', exW cI aT T', w_X1_stateAt cI cC cE hh hr aH old' sze', exW cI (aH 0) (Hs' 0), exW cI (aH 1) (Hs' 1), exW cI (aH 2) (Hs' 2), exW cI (aH 3) (Hs' 3)]) (bs1 := [trW h0 hh oo aN aT aS hasS stN stE, exW cI aN N', exW cI aT T', exW cI aS S, w_X1_stateAt cI cC cE hh hr aH old' sze', exW cI (aH 0) (Hs' 0), exW cI (aH 1) (Hs' 1), exW cI (aH 2) (Hs' 2), exW cI (aH 3) (Hs' 3), ofW cI cC oo o1 o2 o3 ft fG rG len pos bad, moW cI cC k0 ks ka kp kn kt m_s m_aside m_past m_pasts m_snapshot m_isKept m_text m_length m_hasStop m_stopAt m_stopWhy m_spot m_isWrong m_kind m_first m_second m_third m_fourth]) ⟨hx, hb, hml, hown, hts⟩ [0, 1, 2, 4, 5, 6, 7, 8] [3, 9, 10] (c_X5_deliver l D cI cC cE h0 hh oo hr aN aT aS aH _ N T Hs old sze hasS stN stE (xs (nI i + 1).toNatClampNeg) (xs (nI i + 2).toNatClampNeg) (xs (nI i + 3).toNatClampNeg) (xs (nI i + 4).toNatClampNeg) r N' T' Hs' old' sze' g1) (cwV 4 hts gL_law_X5_deliver rfl rfl rfl (by decide +kernel) ⟨Nat.le_of_ble_eq_true rfl, Nat.le_of_ble_eq_true rfl⟩) hK hP hD hS hA rfl rfl rfl rfl rfl rfl rfl rfl rfl hl.1 rfl (Nat.le_of_ble_eq_true rfl) dL_law_231 ⟨Nat.le_of_ble_eq_true rfl, Nat.le_of_ble_eq_true rfl⟩ (fun H locs hP hD hS => ?_)
  refine lv_aload_n hx hb dL_law_234 rfl (lv_at hl 2 rfl) ?_
  refine lv_aload_n hx hb dL_law_235 rfl (lv_at hl 0 rfl) ?_
  refine lv_iload_n hx hb dL_law_236 rfl (lv_at hl 3 rfl) ?_
  refine lv_iconst (v := 1) hx hb dL_law_237 (by decide) ?_
  refine lv_iadd hx hb dL_law_238 ?_
  refine va_sld hx hb hX hbl hbA hS v1 dL_law_239 ?_
  refine lv_aload_n hx hb dL_law_240 rfl (lv_at hl 0 rfl) ?_
  refine lv_iload_n hx hb dL_law_241 rfl (lv_at hl 3 rfl) ?_
  refine lv_iconst (v := 2) hx hb dL_law_242 (by decide) ?_
  refine lv_iadd hx hb dL_law_243 ?_
  refine va_sld hx hb hX hbl hbA hS v2 dL_law_244 ?_
  refine lv_aload_n hx hb dL_law_245 rfl (lv_at hl 0 rfl) ?_
  refine lv_iload_n hx hb dL_law_246 rfl (lv_at hl 3 rfl) ?_
  refine lv_iconst (v := 3) hx hb dL_law_247 (by decide) ?_
  refine lv_iadd hx hb dL_law_248 ?_
  refine va_sld hx hb hX hbl hbA hS v3 dL_law_249 ?_
  refine lv_aload_n hx hb dL_law_250 rfl (lv_at hl 0 rfl) ?_
  refine lv_iload_n hx hb dL_law_251 rfl (lv_at hl 3 rfl) ?_
  refine lv_iconst (v := 4) hx hb dL_law_252 (by decide) ?_
  refine lv_iadd hx hb dL_law_253 ?_
  refine va_sld hx hb hX hbl hbA hS v4 dL_law_254 ?_
  refine kbi (ci := 6) (q := (RX6, TX6, 18)) (bs := [trW h0 hh oo aN aT aS hasS stN stE, exW cI aN N', exW cI aT T', exW cI aS S, w_X1_stateAt cI cC cE hh hr aH old' sze', exW cI (aH 0) (Hs' 0), exW cI (aH 1) (Hs' 1), exW cI (aH 2) (Hs' 2), exW cI (aH 3) (Hs' 3), ofW cI cC oo o1 o2 o3 ft fG rG len pos bad, moW cI cC k0 ks ka kp kn kt m_s m_aside m_past m_pasts m_snapshot m_isKept m_text m_length m_hasStop m_stopAt m_stopWhy m_spot m_isWrong m_kind m_first m_second m_third m_fourth]) (cs := [moW cI cC k0 ks ka kp kn kt m_s m_aside m_past m_pasts m_snapshot m_isKept m_text m_length m_hasStop m_stopAt m_stopWhy m_spot m_isWrong m_kind m_first m_second m_third m_fourth]) (cs' := [moW cI cC k0 ks ka kp kn kt s' m_aside past' pasts' m_snapshot m_isKept m_text m_length m_hasStop m_stopAt m_stopWhy m_spot m_isWrong m_kind m_first m_second m_third m_fourth]) (bs1 := [trW h0 hh oo aN aT aS hasS stN stE, exW cI aN N', exW cI aT T', exW cI aS S, w_X1_stateAt cI cC cE hh hr aH old' sze', exW cI (aH 0) (Hs' 0), exW cI (aH 1) (Hs' 1), exW cI (aH 2) (Hs' 2), exW cI (aH 3) (Hs' 3), ofW cI cC oo o1 o2 o3 ft fG rG len pos bad, moW cI cC k0 ks ka kp kn kt s' m_aside past' pasts' m_snapshot m_isKept m_text m_length m_hasStop m_stopAt m_stopWhy m_spot m_isWrong m_kind m_first m_second m_third m_fourth]) ⟨hx, hb, hml, hown, hts⟩ [10] [0, 1, 2, 3, 4, 5, 6, 7, 8, 9] (ce_X6_deliver l D cI cC cE k0 ks ka kp kn kt _ m_s m_aside m_past m_pasts m_snapshot m_isKept m_text m_length m_hasStop m_stopAt m_stopWhy m_spot m_isWrong m_kind m_first m_second m_third m_fourth (xs (nI i + 1).toNatClampNeg) (xs (nI i + 2).toNatClampNeg) (xs (nI i + 3).toNatClampNeg) (xs (nI i + 4).toNatClampNeg) r s' past' pasts' g2) (cwV 4 hts gL_law_X6_deliver rfl rfl rfl (by decide +kernel) ⟨Nat.le_of_ble_eq_true rfl, Nat.le_of_ble_eq_true rfl⟩) hK hP hD hS hA rfl rfl rfl rfl rfl rfl rfl rfl rfl hl.1 rfl (Nat.le_of_ble_eq_true rfl) dL_law_255 ⟨Nat.le_of_ble_eq_true rfl, Nat.le_of_ble_eq_true rfl⟩ (fun H locs hP hD hS => ?_)
  refine lv_icmp_eq (tgt := 754) hx hb dL_law_258 (by decide) (fun _ => ?_) (fun c => absurd rfl c)
  exact kk _ _ _ ⟨_, _, _, _, _, _, _, _, _, _, _, _, _, _, _, _, _, _, _, _, _, _, _, _, _, _, _, _, _, _, _, _, _, _, _, _, _, _, _, _, _, _, _, _, _, _, _, _, hP, hD, hN, hH, hKX, hT, hZ⟩ hS hl
set_option maxHeartbeats 4000000 in
set_option maxRecDepth 100000 in
theorem law_c3 {p : Program} {l : Launch} {e : Env} {s : State} {m : MethodId} {below : List Frame} {meth : Method} {c : Code} {D : va_G} {cI cC cE : ClassId} {b L h0 k0 i : Nat} {xs : Nat → Int32} {Q : State → Prop} (C0 : LCtx p s m c b L xs D cI cC cE) (hi : i + 5 ≤ L) (hL : L ≤ 2560)
    (kk : ∀ (H : Heap) (locs : List Loc) (ls : Array Slot), LInv D cI cC cE (lwA s) h0 k0 H → va_S (lwA s) s.heap H locs → lv_has ls 4 [(0, .ref b), (1, .ref h0), (2, .ref k0), (3, .int (nI i))] → W p l e room_1 s m #[Value.ref b] below meth c H locs 600000 7302250 Q (F0 m 754 ls []))
    (H : Heap) (locs : List Loc) (ls : Array Slot) (hI : LInv D cI cC cE (lwA s) h0 k0 H) (hS : va_S (lwA s) s.heap H locs) (hl : lv_has ls 4 [(0, .ref b), (1, .ref h0), (2, .ref k0), (3, .int (nI i))]) : W p l e room_1 s m #[Value.ref b] below meth c H locs 600000 7302250 Q (F0 m 263 ls []) := by
  obtain ⟨hx, hb, hml, hown, hts, hX, hbl, hK⟩ := C0
  have hA : ∀ q : Nat, s.heap.size ≤ q → lwA s q := fun _ h => h
  have hbA : ¬ lwA s b := Nat.not_le.mpr hbl
  obtain ⟨hh, hr, oo, o1, o2, o3, aN, aT, aS, aH, ks, ka, kp, kn, kt, N, T, S, Hs, old, sze, ft, fG, rG, len, pos, bad, hasS, stN, stE, m_s, m_aside, m_past, m_pasts, m_snapshot, m_isKept, m_text, m_length, m_hasStop, m_stopAt, m_stopWhy, m_spot, m_isWrong, m_kind, m_first, m_second, m_third, m_fourth, hP, hD, hN, hH, hKX, hT, hZ⟩ := hI
  have v1 : vp_in (nI i + 1) L := k_vin (i := i + 1) (by omega) (by omega) (nJ_add i 1)
  have v2 : vp_in (nI i + 2) L := k_vin (i := i + 2) (by omega) (by omega) (nJ_add i 2)
  have v3 : vp_in (nI i + 3) L := k_vin (i := i + 3) (by omega) (by omega) (nJ_add i 3)
  have v4 : vp_in (nI i + 4) L := k_vin (i := i + 4) (by omega) (by omega) (nJ_add i 4)
  refine lv_aload_n hx hb dL_law_263 rfl (lv_at hl 1 rfl) ?_
  obtain ⟨r, N', T', Hs', old', sze', s', past', pasts', g1, g2, hN, hH⟩ := w_adjust (T := T) hN hH 
  refine kbi (ci := 5) (q := (RX5, TX5, 8)) (bs := [trW h0 hh oo aN aT aS hasS stN stE, exW cI aN N, exW cI aT T, exW cI aS S, w_X1_stateAt cI cC cE hh hr aH old sze, exW cI (aH 0) (Hs 0), exW cI (aH 1) (Hs 1), exW cI (aH 2) (Hs 2), exW cI (aH 3) (Hs 3), ofW cI cC oo o1 o2 o3 ft fG rG len pos bad, moW cI cC k0 ks ka kp kn kt m_s m_aside m_past m_pasts m_snapshot m_isKept m_text m_length m_hasStop m_stopAt m_stopWhy m_spot m_isWrong m_kind m_first m_second m_third m_fourth]) (cs := [trW h0 hh oo aN aT aS hasS stN stE, exW cI aN N, exW cI aT T, w_X1_stateAt cI cC cE hh hr aH old sze, exW cI (aH 0) (Hs 0), exW cI (aH 1) (Hs 1), exW cI (aH 2) (Hs 2), exW cI (aH 3) (Hs 3)]) (cs' := [trW h0 hh oo aN aT aS hasS stN stE, exW cI aN N', exW cI aT T', w_X1_stateAt cI cC cE hh hr aH old' sze', exW cI (aH 0) (Hs' 0), exW cI (aH 1) (Hs' 1), exW cI (aH 2) (Hs' 2), exW cI (aH 3) (Hs' 3)]) (bs1 := [trW h0 hh oo aN aT aS hasS stN stE, exW cI aN N', exW cI aT T', exW cI aS S, w_X1_stateAt cI cC cE hh hr aH old' sze', exW cI (aH 0) (Hs' 0), exW cI (aH 1) (Hs' 1), exW cI (aH 2) (Hs' 2), exW cI (aH 3) (Hs' 3), ofW cI cC oo o1 o2 o3 ft fG rG len pos bad, moW cI cC k0 ks ka kp kn kt m_s m_aside m_past m_pasts m_snapshot m_isKept m_text m_length m_hasStop m_stopAt m_stopWhy m_spot m_isWrong m_kind m_first m_second m_third m_fourth]) ⟨hx, hb, hml, hown, hts⟩ [0, 1, 2, 4, 5, 6, 7, 8] [3, 9, 10] (c_X5_adjust l D cI cC cE h0 hh oo hr aN aT aS aH _ N T Hs old sze hasS stN stE  r N' T' Hs' old' sze' g1) (cwV 0 hts gL_law_X5_adjust rfl rfl rfl (by decide +kernel) ⟨Nat.le_of_ble_eq_true rfl, Nat.le_of_ble_eq_true rfl⟩) hK hP hD hS hA rfl rfl rfl rfl rfl rfl rfl rfl rfl hl.1 rfl (Nat.le_of_ble_eq_true rfl) dL_law_264 ⟨Nat.le_of_ble_eq_true rfl, Nat.le_of_ble_eq_true rfl⟩ (fun H locs hP hD hS => ?_)
  refine lv_aload_n hx hb dL_law_267 rfl (lv_at hl 2 rfl) ?_
  refine kbi (ci := 6) (q := (RX6, TX6, 18)) (bs := [trW h0 hh oo aN aT aS hasS stN stE, exW cI aN N', exW cI aT T', exW cI aS S, w_X1_stateAt cI cC cE hh hr aH old' sze', exW cI (aH 0) (Hs' 0), exW cI (aH 1) (Hs' 1), exW cI (aH 2) (Hs' 2), exW cI (aH 3) (Hs' 3), ofW cI cC oo o1 o2 o3 ft fG rG len pos bad, moW cI cC k0 ks ka kp kn kt m_s m_aside m_past m_pasts m_snapshot m_isKept m_text m_length m_hasStop m_stopAt m_stopWhy m_spot m_isWrong m_kind m_first m_second m_third m_fourth]) (cs := [moW cI cC k0 ks ka kp kn kt m_s m_aside m_past m_pasts m_snapshot m_isKept m_text m_length m_hasStop m_stopAt m_stopWhy m_spot m_isWrong m_kind m_first m_second m_third m_fourth]) (cs' := [moW cI cC k0 ks ka kp kn kt s' m_aside past' pasts' m_snapshot m_isKept m_text m_length m_hasStop m_stopAt m_stopWhy m_spot m_isWrong m_kind m_first m_second m_third m_fourth]) (bs1 := [trW h0 hh oo aN aT aS hasS stN stE, exW cI aN N', exW cI aT T', exW cI aS S, w_X1_stateAt cI cC cE hh hr aH old' sze', exW cI (aH 0) (Hs' 0), exW cI (aH 1) (Hs' 1), exW cI (aH 2) (Hs' 2), exW cI (aH 3) (Hs' 3), ofW cI cC oo o1 o2 o3 ft fG rG len pos bad, moW cI cC k0 ks ka kp kn kt s' m_aside past' pasts' m_snapshot m_isKept m_text m_length m_hasStop m_stopAt m_stopWhy m_spot m_isWrong m_kind m_first m_second m_third m_fourth]) ⟨hx, hb, hml, hown, hts⟩ [10] [0, 1, 2, 3, 4, 5, 6, 7, 8, 9] (ce_X6_adjust l D cI cC cE k0 ks ka kp kn kt _ m_s m_aside m_past m_pasts m_snapshot m_isKept m_text m_length m_hasStop m_stopAt m_stopWhy m_spot m_isWrong m_kind m_first m_second m_third m_fourth  r s' past' pasts' g2) (cwV 0 hts gL_law_X6_adjust rfl rfl rfl (by decide +kernel) ⟨Nat.le_of_ble_eq_true rfl, Nat.le_of_ble_eq_true rfl⟩) hK hP hD hS hA rfl rfl rfl rfl rfl rfl rfl rfl rfl hl.1 rfl (Nat.le_of_ble_eq_true rfl) dL_law_268 ⟨Nat.le_of_ble_eq_true rfl, Nat.le_of_ble_eq_true rfl⟩ (fun H locs hP hD hS => ?_)
  refine lv_icmp_eq (tgt := 754) hx hb dL_law_271 (by decide) (fun _ => ?_) (fun c => absurd rfl c)
  exact kk _ _ _ ⟨_, _, _, _, _, _, _, _, _, _, _, _, _, _, _, _, _, _, _, _, _, _, _, _, _, _, _, _, _, _, _, _, _, _, _, _, _, _, _, _, _, _, _, _, _, _, _, _, hP, hD, hN, hH, hKX, hT, hZ⟩ hS hl
set_option maxHeartbeats 4000000 in
set_option maxRecDepth 100000 in
theorem law_c4 {p : Program} {l : Launch} {e : Env} {s : State} {m : MethodId} {below : List Frame} {meth : Method} {c : Code} {D : va_G} {cI cC cE : ClassId} {b L h0 k0 i : Nat} {xs : Nat → Int32} {Q : State → Prop} (C0 : LCtx p s m c b L xs D cI cC cE) (hi : i + 5 ≤ L) (hL : L ≤ 2560)
    (kk : ∀ (H : Heap) (locs : List Loc) (ls : Array Slot), LInv D cI cC cE (lwA s) h0 k0 H → va_S (lwA s) s.heap H locs → lv_has ls 4 [(0, .ref b), (1, .ref h0), (2, .ref k0), (3, .int (nI i))] → W p l e room_1 s m #[Value.ref b] below meth c H locs 600000 7302250 Q (F0 m 754 ls []))
    (H : Heap) (locs : List Loc) (ls : Array Slot) (hI : LInv D cI cC cE (lwA s) h0 k0 H) (hS : va_S (lwA s) s.heap H locs) (hl : lv_has ls 4 [(0, .ref b), (1, .ref h0), (2, .ref k0), (3, .int (nI i))]) : W p l e room_1 s m #[Value.ref b] below meth c H locs 600000 7302250 Q (F0 m 276 ls []) := by
  obtain ⟨hx, hb, hml, hown, hts, hX, hbl, hK⟩ := C0
  have hA : ∀ q : Nat, s.heap.size ≤ q → lwA s q := fun _ h => h
  have hbA : ¬ lwA s b := Nat.not_le.mpr hbl
  obtain ⟨hh, hr, oo, o1, o2, o3, aN, aT, aS, aH, ks, ka, kp, kn, kt, N, T, S, Hs, old, sze, ft, fG, rG, len, pos, bad, hasS, stN, stE, m_s, m_aside, m_past, m_pasts, m_snapshot, m_isKept, m_text, m_length, m_hasStop, m_stopAt, m_stopWhy, m_spot, m_isWrong, m_kind, m_first, m_second, m_third, m_fourth, hP, hD, hN, hH, hKX, hT, hZ⟩ := hI
  have v1 : vp_in (nI i + 1) L := k_vin (i := i + 1) (by omega) (by omega) (nJ_add i 1)
  have v2 : vp_in (nI i + 2) L := k_vin (i := i + 2) (by omega) (by omega) (nJ_add i 2)
  have v3 : vp_in (nI i + 3) L := k_vin (i := i + 3) (by omega) (by omega) (nJ_add i 3)
  have v4 : vp_in (nI i + 4) L := k_vin (i := i + 4) (by omega) (by omega) (nJ_add i 4)
  refine lv_aload_n hx hb dL_law_276 rfl (lv_at hl 1 rfl) ?_
  refine lv_aload_n hx hb dL_law_277 rfl (lv_at hl 0 rfl) ?_
  refine lv_iload_n hx hb dL_law_278 rfl (lv_at hl 3 rfl) ?_
  refine lv_iconst (v := 1) hx hb dL_law_279 (by decide) ?_
  refine lv_iadd hx hb dL_law_280 ?_
  refine va_sld hx hb hX hbl hbA hS v1 dL_law_281 ?_
  refine lv_aload_n hx hb dL_law_282 rfl (lv_at hl 0 rfl) ?_
  refine lv_iload_n hx hb dL_law_283 rfl (lv_at hl 3 rfl) ?_
  refine lv_iconst (v := 2) hx hb dL_law_284 (by decide) ?_
  refine lv_iadd hx hb dL_law_285 ?_
  refine va_sld hx hb hX hbl hbA hS v2 dL_law_286 ?_
  obtain ⟨r, N', T', Hs', old', sze', s', past', pasts', g1, g2, hN, hH⟩ := w_set (T := T) hN hH (xs (nI i + 1).toNatClampNeg) (xs (nI i + 2).toNatClampNeg)
  refine kbi (ci := 5) (q := (RX5, TX5, 8)) (bs := [trW h0 hh oo aN aT aS hasS stN stE, exW cI aN N, exW cI aT T, exW cI aS S, w_X1_stateAt cI cC cE hh hr aH old sze, exW cI (aH 0) (Hs 0), exW cI (aH 1) (Hs 1), exW cI (aH 2) (Hs 2), exW cI (aH 3) (Hs 3), ofW cI cC oo o1 o2 o3 ft fG rG len pos bad, moW cI cC k0 ks ka kp kn kt m_s m_aside m_past m_pasts m_snapshot m_isKept m_text m_length m_hasStop m_stopAt m_stopWhy m_spot m_isWrong m_kind m_first m_second m_third m_fourth]) (cs := [trW h0 hh oo aN aT aS hasS stN stE, exW cI aN N, exW cI aT T, w_X1_stateAt cI cC cE hh hr aH old sze, exW cI (aH 0) (Hs 0), exW cI (aH 1) (Hs 1), exW cI (aH 2) (Hs 2), exW cI (aH 3) (Hs 3)]) (cs' := [trW h0 hh oo aN aT aS hasS stN stE, exW cI aN N', exW cI aT T', w_X1_stateAt cI cC cE hh hr aH old' sze', exW cI (aH 0) (Hs' 0), exW cI (aH 1) (Hs' 1), exW cI (aH 2) (Hs' 2), exW cI (aH 3) (Hs' 3)]) (bs1 := [trW h0 hh oo aN aT aS hasS stN stE, exW cI aN N', exW cI aT T', exW cI aS S, w_X1_stateAt cI cC cE hh hr aH old' sze', exW cI (aH 0) (Hs' 0), exW cI (aH 1) (Hs' 1), exW cI (aH 2) (Hs' 2), exW cI (aH 3) (Hs' 3), ofW cI cC oo o1 o2 o3 ft fG rG len pos bad, moW cI cC k0 ks ka kp kn kt m_s m_aside m_past m_pasts m_snapshot m_isKept m_text m_length m_hasStop m_stopAt m_stopWhy m_spot m_isWrong m_kind m_first m_second m_third m_fourth]) ⟨hx, hb, hml, hown, hts⟩ [0, 1, 2, 4, 5, 6, 7, 8] [3, 9, 10] (c_X5_set l D cI cC cE h0 hh oo hr aN aT aS aH _ N T Hs old sze hasS stN stE (xs (nI i + 1).toNatClampNeg) (xs (nI i + 2).toNatClampNeg) r N' T' Hs' old' sze' g1) (cwV 2 hts gL_law_X5_set rfl rfl rfl (by decide +kernel) ⟨Nat.le_of_ble_eq_true rfl, Nat.le_of_ble_eq_true rfl⟩) hK hP hD hS hA rfl rfl rfl rfl rfl rfl rfl rfl rfl hl.1 rfl (Nat.le_of_ble_eq_true rfl) dL_law_287 ⟨Nat.le_of_ble_eq_true rfl, Nat.le_of_ble_eq_true rfl⟩ (fun H locs hP hD hS => ?_)
  refine lv_aload_n hx hb dL_law_290 rfl (lv_at hl 2 rfl) ?_
  refine lv_aload_n hx hb dL_law_291 rfl (lv_at hl 0 rfl) ?_
  refine lv_iload_n hx hb dL_law_292 rfl (lv_at hl 3 rfl) ?_
  refine lv_iconst (v := 1) hx hb dL_law_293 (by decide) ?_
  refine lv_iadd hx hb dL_law_294 ?_
  refine va_sld hx hb hX hbl hbA hS v1 dL_law_295 ?_
  refine lv_aload_n hx hb dL_law_296 rfl (lv_at hl 0 rfl) ?_
  refine lv_iload_n hx hb dL_law_297 rfl (lv_at hl 3 rfl) ?_
  refine lv_iconst (v := 2) hx hb dL_law_298 (by decide) ?_
  refine lv_iadd hx hb dL_law_299 ?_
  refine va_sld hx hb hX hbl hbA hS v2 dL_law_300 ?_
  refine kbi (ci := 6) (q := (RX6, TX6, 18)) (bs := [trW h0 hh oo aN aT aS hasS stN stE, exW cI aN N', exW cI aT T', exW cI aS S, w_X1_stateAt cI cC cE hh hr aH old' sze', exW cI (aH 0) (Hs' 0), exW cI (aH 1) (Hs' 1), exW cI (aH 2) (Hs' 2), exW cI (aH 3) (Hs' 3), ofW cI cC oo o1 o2 o3 ft fG rG len pos bad, moW cI cC k0 ks ka kp kn kt m_s m_aside m_past m_pasts m_snapshot m_isKept m_text m_length m_hasStop m_stopAt m_stopWhy m_spot m_isWrong m_kind m_first m_second m_third m_fourth]) (cs := [moW cI cC k0 ks ka kp kn kt m_s m_aside m_past m_pasts m_snapshot m_isKept m_text m_length m_hasStop m_stopAt m_stopWhy m_spot m_isWrong m_kind m_first m_second m_third m_fourth]) (cs' := [moW cI cC k0 ks ka kp kn kt s' m_aside past' pasts' m_snapshot m_isKept m_text m_length m_hasStop m_stopAt m_stopWhy m_spot m_isWrong m_kind m_first m_second m_third m_fourth]) (bs1 := [trW h0 hh oo aN aT aS hasS stN stE, exW cI aN N', exW cI aT T', exW cI aS S, w_X1_stateAt cI cC cE hh hr aH old' sze', exW cI (aH 0) (Hs' 0), exW cI (aH 1) (Hs' 1), exW cI (aH 2) (Hs' 2), exW cI (aH 3) (Hs' 3), ofW cI cC oo o1 o2 o3 ft fG rG len pos bad, moW cI cC k0 ks ka kp kn kt s' m_aside past' pasts' m_snapshot m_isKept m_text m_length m_hasStop m_stopAt m_stopWhy m_spot m_isWrong m_kind m_first m_second m_third m_fourth]) ⟨hx, hb, hml, hown, hts⟩ [10] [0, 1, 2, 3, 4, 5, 6, 7, 8, 9] (ce_X6_set l D cI cC cE k0 ks ka kp kn kt _ m_s m_aside m_past m_pasts m_snapshot m_isKept m_text m_length m_hasStop m_stopAt m_stopWhy m_spot m_isWrong m_kind m_first m_second m_third m_fourth (xs (nI i + 1).toNatClampNeg) (xs (nI i + 2).toNatClampNeg) r s' past' pasts' g2) (cwV 2 hts gL_law_X6_set rfl rfl rfl (by decide +kernel) ⟨Nat.le_of_ble_eq_true rfl, Nat.le_of_ble_eq_true rfl⟩) hK hP hD hS hA rfl rfl rfl rfl rfl rfl rfl rfl rfl hl.1 rfl (Nat.le_of_ble_eq_true rfl) dL_law_301 ⟨Nat.le_of_ble_eq_true rfl, Nat.le_of_ble_eq_true rfl⟩ (fun H locs hP hD hS => ?_)
  refine lv_icmp_eq (tgt := 754) hx hb dL_law_304 (by decide) (fun _ => ?_) (fun c => absurd rfl c)
  exact kk _ _ _ ⟨_, _, _, _, _, _, _, _, _, _, _, _, _, _, _, _, _, _, _, _, _, _, _, _, _, _, _, _, _, _, _, _, _, _, _, _, _, _, _, _, _, _, _, _, _, _, _, _, hP, hD, hN, hH, hKX, hT, hZ⟩ hS hl
set_option maxHeartbeats 4000000 in
set_option maxRecDepth 100000 in
theorem law_c5 {p : Program} {l : Launch} {e : Env} {s : State} {m : MethodId} {below : List Frame} {meth : Method} {c : Code} {D : va_G} {cI cC cE : ClassId} {b L h0 k0 i : Nat} {xs : Nat → Int32} {Q : State → Prop} (C0 : LCtx p s m c b L xs D cI cC cE) (hi : i + 5 ≤ L) (hL : L ≤ 2560)
    (kk : ∀ (H : Heap) (locs : List Loc) (ls : Array Slot), LInv D cI cC cE (lwA s) h0 k0 H → va_S (lwA s) s.heap H locs → lv_has ls 4 [(0, .ref b), (1, .ref h0), (2, .ref k0), (3, .int (nI i))] → W p l e room_1 s m #[Value.ref b] below meth c H locs 600000 7302250 Q (F0 m 754 ls []))
    (H : Heap) (locs : List Loc) (ls : Array Slot) (hI : LInv D cI cC cE (lwA s) h0 k0 H) (hS : va_S (lwA s) s.heap H locs) (hl : lv_has ls 4 [(0, .ref b), (1, .ref h0), (2, .ref k0), (3, .int (nI i))]) : W p l e room_1 s m #[Value.ref b] below meth c H locs 600000 7302250 Q (F0 m 309 ls []) := by
  obtain ⟨hx, hb, hml, hown, hts, hX, hbl, hK⟩ := C0
  have hA : ∀ q : Nat, s.heap.size ≤ q → lwA s q := fun _ h => h
  have hbA : ¬ lwA s b := Nat.not_le.mpr hbl
  obtain ⟨hh, hr, oo, o1, o2, o3, aN, aT, aS, aH, ks, ka, kp, kn, kt, N, T, S, Hs, old, sze, ft, fG, rG, len, pos, bad, hasS, stN, stE, m_s, m_aside, m_past, m_pasts, m_snapshot, m_isKept, m_text, m_length, m_hasStop, m_stopAt, m_stopWhy, m_spot, m_isWrong, m_kind, m_first, m_second, m_third, m_fourth, hP, hD, hN, hH, hKX, hT, hZ⟩ := hI
  have v1 : vp_in (nI i + 1) L := k_vin (i := i + 1) (by omega) (by omega) (nJ_add i 1)
  have v2 : vp_in (nI i + 2) L := k_vin (i := i + 2) (by omega) (by omega) (nJ_add i 2)
  have v3 : vp_in (nI i + 3) L := k_vin (i := i + 3) (by omega) (by omega) (nJ_add i 3)
  have v4 : vp_in (nI i + 4) L := k_vin (i := i + 4) (by omega) (by omega) (nJ_add i 4)
  refine lv_aload_n hx hb dL_law_309 rfl (lv_at hl 1 rfl) ?_
  refine lv_aload_n hx hb dL_law_310 rfl (lv_at hl 0 rfl) ?_
  refine lv_iload_n hx hb dL_law_311 rfl (lv_at hl 3 rfl) ?_
  refine lv_iconst (v := 1) hx hb dL_law_312 (by decide) ?_
  refine lv_iadd hx hb dL_law_313 ?_
  refine va_sld hx hb hX hbl hbA hS v1 dL_law_314 ?_
  obtain ⟨r, N', T', Hs', old', sze', s', past', pasts', g1, g2, hN, hH⟩ := w_pass (T := T) hN hH (xs (nI i + 1).toNatClampNeg)
  refine kbi (ci := 5) (q := (RX5, TX5, 8)) (bs := [trW h0 hh oo aN aT aS hasS stN stE, exW cI aN N, exW cI aT T, exW cI aS S, w_X1_stateAt cI cC cE hh hr aH old sze, exW cI (aH 0) (Hs 0), exW cI (aH 1) (Hs 1), exW cI (aH 2) (Hs 2), exW cI (aH 3) (Hs 3), ofW cI cC oo o1 o2 o3 ft fG rG len pos bad, moW cI cC k0 ks ka kp kn kt m_s m_aside m_past m_pasts m_snapshot m_isKept m_text m_length m_hasStop m_stopAt m_stopWhy m_spot m_isWrong m_kind m_first m_second m_third m_fourth]) (cs := [trW h0 hh oo aN aT aS hasS stN stE, exW cI aN N, exW cI aT T, w_X1_stateAt cI cC cE hh hr aH old sze, exW cI (aH 0) (Hs 0), exW cI (aH 1) (Hs 1), exW cI (aH 2) (Hs 2), exW cI (aH 3) (Hs 3)]) (cs' := [trW h0 hh oo aN aT aS hasS stN stE, exW cI aN N', exW cI aT T', w_X1_stateAt cI cC cE hh hr aH old' sze', exW cI (aH 0) (Hs' 0), exW cI (aH 1) (Hs' 1), exW cI (aH 2) (Hs' 2), exW cI (aH 3) (Hs' 3)]) (bs1 := [trW h0 hh oo aN aT aS hasS stN stE, exW cI aN N', exW cI aT T', exW cI aS S, w_X1_stateAt cI cC cE hh hr aH old' sze', exW cI (aH 0) (Hs' 0), exW cI (aH 1) (Hs' 1), exW cI (aH 2) (Hs' 2), exW cI (aH 3) (Hs' 3), ofW cI cC oo o1 o2 o3 ft fG rG len pos bad, moW cI cC k0 ks ka kp kn kt m_s m_aside m_past m_pasts m_snapshot m_isKept m_text m_length m_hasStop m_stopAt m_stopWhy m_spot m_isWrong m_kind m_first m_second m_third m_fourth]) ⟨hx, hb, hml, hown, hts⟩ [0, 1, 2, 4, 5, 6, 7, 8] [3, 9, 10] (c_X5_pass l D cI cC cE h0 hh oo hr aN aT aS aH _ N T Hs old sze hasS stN stE (xs (nI i + 1).toNatClampNeg) r N' T' Hs' old' sze' g1) (cwV 1 hts gL_law_X5_pass rfl rfl rfl (by decide +kernel) ⟨Nat.le_of_ble_eq_true rfl, Nat.le_of_ble_eq_true rfl⟩) hK hP hD hS hA rfl rfl rfl rfl rfl rfl rfl rfl rfl hl.1 rfl (Nat.le_of_ble_eq_true rfl) dL_law_315 ⟨Nat.le_of_ble_eq_true rfl, Nat.le_of_ble_eq_true rfl⟩ (fun H locs hP hD hS => ?_)
  refine lv_aload_n hx hb dL_law_318 rfl (lv_at hl 2 rfl) ?_
  refine lv_aload_n hx hb dL_law_319 rfl (lv_at hl 0 rfl) ?_
  refine lv_iload_n hx hb dL_law_320 rfl (lv_at hl 3 rfl) ?_
  refine lv_iconst (v := 1) hx hb dL_law_321 (by decide) ?_
  refine lv_iadd hx hb dL_law_322 ?_
  refine va_sld hx hb hX hbl hbA hS v1 dL_law_323 ?_
  refine kbi (ci := 6) (q := (RX6, TX6, 18)) (bs := [trW h0 hh oo aN aT aS hasS stN stE, exW cI aN N', exW cI aT T', exW cI aS S, w_X1_stateAt cI cC cE hh hr aH old' sze', exW cI (aH 0) (Hs' 0), exW cI (aH 1) (Hs' 1), exW cI (aH 2) (Hs' 2), exW cI (aH 3) (Hs' 3), ofW cI cC oo o1 o2 o3 ft fG rG len pos bad, moW cI cC k0 ks ka kp kn kt m_s m_aside m_past m_pasts m_snapshot m_isKept m_text m_length m_hasStop m_stopAt m_stopWhy m_spot m_isWrong m_kind m_first m_second m_third m_fourth]) (cs := [moW cI cC k0 ks ka kp kn kt m_s m_aside m_past m_pasts m_snapshot m_isKept m_text m_length m_hasStop m_stopAt m_stopWhy m_spot m_isWrong m_kind m_first m_second m_third m_fourth]) (cs' := [moW cI cC k0 ks ka kp kn kt s' m_aside past' pasts' m_snapshot m_isKept m_text m_length m_hasStop m_stopAt m_stopWhy m_spot m_isWrong m_kind m_first m_second m_third m_fourth]) (bs1 := [trW h0 hh oo aN aT aS hasS stN stE, exW cI aN N', exW cI aT T', exW cI aS S, w_X1_stateAt cI cC cE hh hr aH old' sze', exW cI (aH 0) (Hs' 0), exW cI (aH 1) (Hs' 1), exW cI (aH 2) (Hs' 2), exW cI (aH 3) (Hs' 3), ofW cI cC oo o1 o2 o3 ft fG rG len pos bad, moW cI cC k0 ks ka kp kn kt s' m_aside past' pasts' m_snapshot m_isKept m_text m_length m_hasStop m_stopAt m_stopWhy m_spot m_isWrong m_kind m_first m_second m_third m_fourth]) ⟨hx, hb, hml, hown, hts⟩ [10] [0, 1, 2, 3, 4, 5, 6, 7, 8, 9] (ce_X6_pass l D cI cC cE k0 ks ka kp kn kt _ m_s m_aside m_past m_pasts m_snapshot m_isKept m_text m_length m_hasStop m_stopAt m_stopWhy m_spot m_isWrong m_kind m_first m_second m_third m_fourth (xs (nI i + 1).toNatClampNeg) r s' past' pasts' g2) (cwV 1 hts gL_law_X6_pass rfl rfl rfl (by decide +kernel) ⟨Nat.le_of_ble_eq_true rfl, Nat.le_of_ble_eq_true rfl⟩) hK hP hD hS hA rfl rfl rfl rfl rfl rfl rfl rfl rfl hl.1 rfl (Nat.le_of_ble_eq_true rfl) dL_law_324 ⟨Nat.le_of_ble_eq_true rfl, Nat.le_of_ble_eq_true rfl⟩ (fun H locs hP hD hS => ?_)
  refine lv_icmp_eq (tgt := 754) hx hb dL_law_327 (by decide) (fun _ => ?_) (fun c => absurd rfl c)
  exact kk _ _ _ ⟨_, _, _, _, _, _, _, _, _, _, _, _, _, _, _, _, _, _, _, _, _, _, _, _, _, _, _, _, _, _, _, _, _, _, _, _, _, _, _, _, _, _, _, _, _, _, _, _, hP, hD, hN, hH, hKX, hT, hZ⟩ hS hl
