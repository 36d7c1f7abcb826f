abbrev w_X6_account (cI cC : ClassId) (h0 h_s h_aside h_past h_snapshot h_text : Nat) (m_s : Nat → Int32) (m_pasts : Int32) (m_isKept : Int32) (m_length : Int32) (m_hasStop : Int32) (m_stopAt : Int32) (m_stopWhy : Int32) (m_spot : Int32) (m_isWrong : Int32) (m_kind : Int32) (m_first : Int32) (m_second : Int32) (m_third : Int32) (m_fourth : Int32) : va_W := [(h0, .inr (6, [.ref h_s, .ref h_aside, .ref h_past, .int m_pasts, .ref h_snapshot, .int m_isKept, .ref h_text, .int m_length, .int m_hasStop, .int m_stopAt, .int m_stopWhy, .int m_spot, .int m_isWrong, .int m_kind, .int m_first, .int m_second, .int m_third, .int m_fourth])), (h_s, .inl (cI, 490, .inl m_s))]
def j_X6_account_68 (LP24 : Int32 → Int32 → Option (Int32)) (m_s : Nat → Int32) (p1 : Int32) (x2 : Int32) (x3 : Int32) : Option (Int32) :=
    ob1 (rd 490 m_s (d_X6_ofA x3 1)) fun v7 =>
    ob1 (rd 490 m_s (d_X6_ofR v7 0)) fun v8 =>
    if v8 = p1 then (ob1 (rd 490 m_s (d_X6_ofA x3 7)) fun v10 =>
    LP24 (x2 - v10) (x3 + 1))
    else (LP24 (x2 - 0) (x3 + 1))
def lp_X6_account_24 (m_s : Nat → Int32) (p1 : Int32) : Nat → Int32 → Int32 → Option (Int32)
  | 0 => fun _ _ => none
  | k + 1 => fun x2 x3 =>
    ob1 (rd 490 m_s 484) fun v3 =>
    if v3 ≤ x3 then (some x2)
    else (ob1 (rd 490 m_s (d_X6_ofA x3 0)) fun v5 =>
    if v5 = p1 then (ob1 (rd 490 m_s (d_X6_ofA x3 7)) fun v11 =>
    j_X6_account_68 (lp_X6_account_24  m_s p1 k) m_s p1 (x2 + v11) x3)
    else (j_X6_account_68 (lp_X6_account_24  m_s p1 k) m_s p1 (x2 + 0) x3))
def d_X6_account (p1 : Int32) (m_s : Nat → Int32) : Option (Int32) :=
    if (d_X6_isTrader p1) = 0 then (some (-1))
    else (ob1 (rd 490 m_s (8 + p1)) fun v2 =>
    lp_X6_account_24  m_s p1 fuel (100100 - v2) 0)
set_option maxHeartbeats 4000000 in
set_option maxRecDepth 100000 in
theorem c_X6_account (l : Launch) (D : va_G) (cI cC cE : ClassId) (h0 h_s h_aside h_past h_snapshot h_text : Nat) (sz : Nat) (m_s : Nat → Int32) (m_pasts : Int32) (m_isKept : Int32) (m_length : Int32) (m_hasStop : Int32) (m_stopAt : Int32) (m_stopWhy : Int32) (m_spot : Int32) (m_isWrong : Int32) (m_kind : Int32) (m_first : Int32) (m_second : Int32) (m_third : Int32) (m_fourth : Int32) (p1 : Int32) (r0 : Int32) (h : d_X6_account p1 m_s = some r0) : Met l yX6_account wsX6_account ({ frames := 2, cells := 0, slots := 0, locals := 42 } : Room) (kP D (kT cI cC cE) [.ref h0, .int p1] (w_X6_account cI cC h0 h_s h_aside h_past h_snapshot h_text m_s m_pasts m_isKept m_length m_hasStop m_stopAt m_stopWhy m_spot m_isWrong m_kind m_first m_second m_third m_fourth) sz) (kQi D (kT cI cC cE) (w_X6_account cI cC h0 h_s h_aside h_past h_snapshot h_text m_s m_pasts m_isKept m_length m_hasStop m_stopAt m_stopWhy m_spot m_isWrong m_kind m_first m_second m_third m_fourth) (w_X6_account cI cC h0 h_s h_aside h_past h_snapshot h_text m_s m_pasts m_isKept m_length m_hasStop m_stopAt m_stopWhy m_spot m_isWrong m_kind m_first m_second m_third m_fourth) sz r0) 0 0 (va_A (w_X6_account cI cC h0 h_s h_aside h_past h_snapshot h_text m_s m_pasts m_isKept m_length m_hasStop m_stopAt m_stopWhy m_spot m_isWrong m_kind m_first m_second m_third m_fourth) sz) := by
  refine kMetI (cc := cX6_account) (maxL := 4) (own := RX6) (by decide) rfl (Nat.le_of_ble_eq_true rfl) rfl ?_
  intro p e s m below meth c A Q hx hb hml hown hts hP hK hD hA hS hname fin ls hl
  have hl : lv_has ls 4 [(0, .ref h0), (1, .int p1)] := hl
  have hiX6 : ∀ w ∈ u_ws RX6 TX6 18, w ∈ wsX6_account := by decide +kernel
  have hJ68 : ∀ (LP24 : Int32 → Int32 → Option (Int32)), (∀ (x2 : Int32) (x3 : Int32) (H : Heap) (locs : List Loc), va_P D vwCl (w_X6_account cI cC h0 h_s h_aside h_past h_snapshot h_text m_s m_pasts m_isKept m_length m_hasStop m_stopAt m_stopWhy m_spot m_isWrong m_kind m_first m_second m_third m_fourth) H → va_D A (w_X6_account cI cC h0 h_s h_aside h_past h_snapshot h_text m_s m_pasts m_isKept m_length m_hasStop m_stopAt m_stopWhy m_spot m_isWrong m_kind m_first m_second m_third m_fourth) → va_S A s.heap H locs → ∀ (ls : Array Slot), lv_has ls 4 [(0, .ref h0), (1, .int p1), (2, .int x2), (3, .int x3)] → LP24 x2 x3 = some r0 → W p l e ({ frames := 2, cells := 0, slots := 0, locals := 42 } : Room) s m [.ref h0, .int p1].toArray below meth c H locs 0 0 Q (F0 m 24 ls [])) → ∀ (x2 : Int32) (x3 : Int32) (H : Heap) (locs : List Loc), va_P D vwCl (w_X6_account cI cC h0 h_s h_aside h_past h_snapshot h_text m_s m_pasts m_isKept m_length m_hasStop m_stopAt m_stopWhy m_spot m_isWrong m_kind m_first m_second m_third m_fourth) H → va_D A (w_X6_account cI cC h0 h_s h_aside h_past h_snapshot h_text m_s m_pasts m_isKept m_length m_hasStop m_stopAt m_stopWhy m_spot m_isWrong m_kind m_first m_second m_third m_fourth) → va_S A s.heap H locs → ∀ (ls : Array Slot), lv_has ls 4 [(0, .ref h0), (1, .int p1), (2, .int x2), (3, .int x3)] → j_X6_account_68 LP24 m_s p1 x2 x3 = some r0 → W p l e ({ frames := 2, cells := 0, slots := 0, locals := 42 } : Room) s m [.ref h0, .int p1].toArray below meth c H locs 0 0 Q (F0 m 68 ls []) := by
    intro LP24 hLP24
    intro x2 x3 H locs hP hD hS ls hl h
    dsimp only [j_X6_account_68] at h
    refine lv_iload_n hx hb dX6_account_68 rfl (lv_at hl 2 rfl) ?_
    refine lv_aload_n hx hb dX6_account_69 rfl (lv_at hl 0 rfl) ?_
    refine va_get (ci := 6) (C := RX6) (T := TX6) (N := 18) hx hb hts hiX6 hown hK hP 0 rfl rfl 0 (by decide) (hts (.fieldLink RX6 7 "RiddleTradeModel" "s" "[I") (List.mem_of_getElem? (i := 2) rfl)) (fun _ h9 => h9) rfl dX6_account_70 ?_
    refine lv_aload_n hx hb dX6_account_73 rfl (lv_at hl 0 rfl) ?_
    refine va_get (ci := 6) (C := RX6) (T := TX6) (N := 18) hx hb hts hiX6 hown hK hP 0 rfl rfl 0 (by decide) (hts (.fieldLink RX6 7 "RiddleTradeModel" "s" "[I") (List.mem_of_getElem? (i := 2) rfl)) (fun _ h9 => h9) rfl dX6_account_74 ?_
    refine lv_iload_n hx hb dX6_account_77 rfl (lv_at hl 3 rfl) ?_
    refine lv_iconst (v := 1) hx hb dX6_account_78 (by decide) ?_
    refine kcSi (ws1 := (w_X6_account cI cC h0 h_s h_aside h_past h_snapshot h_text m_s m_pasts m_isKept m_length m_hasStop m_stopAt m_stopWhy m_spot m_isWrong m_kind m_first m_second m_third m_fourth)) ⟨hx, hb, hml, hown, hts⟩ [] [0, 1] (c_X6_ofA l D cI cC cE _ x3 1 (d_X6_ofA x3 1) rfl) (va_cwS 2 hts gX6_account_X6_ofA rfl rfl rfl (by decide +kernel) ⟨Nat.le_of_ble_eq_true rfl, Nat.le_of_ble_eq_true rfl⟩) hK hP hD hS hA rfl rfl rfl rfl rfl rfl rfl hl.1 rfl (Nat.le_of_ble_eq_true rfl) dX6_account_79 ⟨Nat.le_refl 0, Nat.le_refl 0⟩ (fun H locs hP hD hS => ?_)
    refine k_iald hx hb hK hP 1 0 rfl rfl h dX6_account_82 (fun v7 h => ?_)
    refine lv_iconst (v := 0) hx hb dX6_account_83 (by decide) ?_
    refine kcSi (ws1 := (w_X6_account cI cC h0 h_s h_aside h_past h_snapshot h_text m_s m_pasts m_isKept m_length m_hasStop m_stopAt m_stopWhy m_spot m_isWrong m_kind m_first m_second m_third m_fourth)) ⟨hx, hb, hml, hown, hts⟩ [] [0, 1] (c_X6_ofR l D cI cC cE _ v7 0 (d_X6_ofR v7 0) rfl) (va_cwS 2 hts gX6_account_X6_ofR rfl rfl rfl (by decide +kernel) ⟨Nat.le_of_ble_eq_true rfl, Nat.le_of_ble_eq_true rfl⟩) hK hP hD hS hA rfl rfl rfl rfl rfl rfl rfl hl.1 rfl (Nat.le_of_ble_eq_true rfl) dX6_account_84 ⟨Nat.le_refl 0, Nat.le_refl 0⟩ (fun H locs hP hD hS => ?_)
    refine k_iald hx hb hK hP 1 0 rfl rfl h dX6_account_87 (fun v8 h => ?_)
    refine lv_iload_n hx hb dX6_account_88 rfl (lv_at hl 1 rfl) ?_
    refine lv_icmp_ne (tgt := 106) hx hb dX6_account_89 (by decide) (fun c9 => ?_) (fun c9 => ?_)
    · have h := (k_iB h).2 c9
      refine lv_iconst (v := 0) hx hb dX6_account_106 (by decide) ?_
      refine lv_isub hx hb dX6_account_107 ?_
      refine lv_istore_n (lv' := [(2, .int (x2 - 0)), (0, .ref h0), (1, .int p1), (3, .int x3)]) hx hb dX6_account_108 rfl hl (by decide) rfl (fun ls hl => ?_)
      refine lv_iinc (v := (x3 + 1)) (lv' := [(3, .int (x3 + 1)), (2, .int (x2 - 0)), (0, .ref h0), (1, .int p1)]) hx hb dX6_account_109 hl (k := 3) rfl rfl (by decide) rfl (fun ls hl => ?_)
      refine lv_goto (tgt := 24) hx hb dX6_account_112 (by decide) ?_
      exact hLP24 (x2 - 0) (x3 + 1) _ _ hP hD hS _ (lv_sub hl [2, 3, 1, 0] rfl) h
    · have h := (k_iB h).1 c9
      refine lv_aload_n hx hb dX6_account_92 rfl (lv_at hl 0 rfl) ?_
      refine va_get (ci := 6) (C := RX6) (T := TX6) (N := 18) hx hb hts hiX6 hown hK hP 0 rfl rfl 0 (by decide) (hts (.fieldLink RX6 7 "RiddleTradeModel" "s" "[I") (List.mem_of_getElem? (i := 2) rfl)) (fun _ h9 => h9) rfl dX6_account_93 ?_
      refine lv_iload_n hx hb dX6_account_96 rfl (lv_at hl 3 rfl) ?_
      refine lv_bipush (v := 7) hx hb dX6_account_97 (by decide) ?_
      refine kcSi (ws1 := (w_X6_account cI cC h0 h_s h_aside h_past h_snapshot h_text m_s m_pasts m_isKept m_length m_hasStop m_stopAt m_stopWhy m_spot m_isWrong m_kind m_first m_second m_third m_fourth)) ⟨hx, hb, hml, hown, hts⟩ [] [0, 1] (c_X6_ofA l D cI cC cE _ x3 7 (d_X6_ofA x3 7) rfl) (va_cwS 2 hts gX6_account_X6_ofA rfl rfl rfl (by decide +kernel) ⟨Nat.le_of_ble_eq_true rfl, Nat.le_of_ble_eq_true rfl⟩) hK hP hD hS hA rfl rfl rfl rfl rfl rfl rfl hl.1 rfl (Nat.le_of_ble_eq_true rfl) dX6_account_99 ⟨Nat.le_refl 0, Nat.le_refl 0⟩ (fun H locs hP hD hS => ?_)
      refine k_iald hx hb hK hP 1 0 rfl rfl h dX6_account_102 (fun v10 h => ?_)
      refine lv_goto (tgt := 107) hx hb dX6_account_103 (by decide) ?_
      refine lv_isub hx hb dX6_account_107 ?_
      refine lv_istore_n (lv' := [(2, .int (x2 - v10)), (0, .ref h0), (1, .int p1), (3, .int x3)]) hx hb dX6_account_108 rfl hl (by decide) rfl (fun ls hl => ?_)
      refine lv_iinc (v := (x3 + 1)) (lv' := [(3, .int (x3 + 1)), (2, .int (x2 - v10)), (0, .ref h0), (1, .int p1)]) hx hb dX6_account_109 hl (k := 3) rfl rfl (by decide) rfl (fun ls hl => ?_)
      refine lv_goto (tgt := 24) hx hb dX6_account_112 (by decide) ?_
      exact hLP24 (x2 - v10) (x3 + 1) _ _ hP hD hS _ (lv_sub hl [2, 3, 1, 0] rfl) h
  have hL24 : ∀ (k : Nat), ∀ (x2 : Int32) (x3 : Int32) (H : Heap) (locs : List Loc), va_P D vwCl (w_X6_account cI cC h0 h_s h_aside h_past h_snapshot h_text m_s m_pasts m_isKept m_length m_hasStop m_stopAt m_stopWhy m_spot m_isWrong m_kind m_first m_second m_third m_fourth) H → va_D A (w_X6_account cI cC h0 h_s h_aside h_past h_snapshot h_text m_s m_pasts m_isKept m_length m_hasStop m_stopAt m_stopWhy m_spot m_isWrong m_kind m_first m_second m_third m_fourth) → va_S A s.heap H locs → ∀ (ls : Array Slot), lv_has ls 4 [(0, .ref h0), (1, .int p1), (2, .int x2), (3, .int x3)] → lp_X6_account_24  m_s p1 k x2 x3 = some r0 → W p l e ({ frames := 2, cells := 0, slots := 0, locals := 42 } : Room) s m [.ref h0, .int p1].toArray below meth c H locs 0 0 Q (F0 m 24 ls []) := by
    intro k
    induction k with
    | zero =>
      intro x2 x3 H locs hP hD hS ls hl h
      exact k_none h
    | succ k ih =>
      intro x2 x3 H locs hP hD hS ls hl h
      dsimp only [lp_X6_account_24] at h
      refine lv_iload_n hx hb dX6_account_24 rfl (lv_at hl 3 rfl) ?_
      refine lv_aload_n hx hb dX6_account_25 rfl (lv_at hl 0 rfl) ?_
      refine va_get (ci := 6) (C := RX6) (T := TX6) (N := 18) hx hb hts hiX6 hown hK hP 0 rfl rfl 0 (by decide) (hts (.fieldLink RX6 7 "RiddleTradeModel" "s" "[I") (List.mem_of_getElem? (i := 2) rfl)) (fun _ h9 => h9) rfl dX6_account_26 ?_
      refine lv_sipush (v := 484) hx hb dX6_account_29 (by decide) ?_
      refine k_iald hx hb hK hP 1 0 rfl rfl h dX6_account_32 (fun v3 h => ?_)
      refine lv_icmp_ge (tgt := 115) hx hb dX6_account_33 (by decide) (fun c4 => ?_) (fun c4 => ?_)
      · have h := (k_iB h).1 c4
        refine lv_iload_n hx hb dX6_account_115 rfl (lv_at hl 2 rfl) ?_
        obtain rfl := Option.some.inj h
        exact fin _ _ _ _ dX6_account_116 hP hD hS
      · have h := (k_iB h).2 c4
        refine lv_iload_n hx hb dX6_account_36 rfl (lv_at hl 2 rfl) ?_
        refine lv_aload_n hx hb dX6_account_37 rfl (lv_at hl 0 rfl) ?_
        refine va_get (ci := 6) (C := RX6) (T := TX6) (N := 18) hx hb hts hiX6 hown hK hP 0 rfl rfl 0 (by decide) (hts (.fieldLink RX6 7 "RiddleTradeModel" "s" "[I") (List.mem_of_getElem? (i := 2) rfl)) (fun _ h9 => h9) rfl dX6_account_38 ?_
        refine lv_iload_n hx hb dX6_account_41 rfl (lv_at hl 3 rfl) ?_
        refine lv_iconst (v := 0) hx hb dX6_account_42 (by decide) ?_
        refine kcSi (ws1 := (w_X6_account cI cC h0 h_s h_aside h_past h_snapshot h_text m_s m_pasts m_isKept m_length m_hasStop m_stopAt m_stopWhy m_spot m_isWrong m_kind m_first m_second m_third m_fourth)) ⟨hx, hb, hml, hown, hts⟩ [] [0, 1] (c_X6_ofA l D cI cC cE _ x3 0 (d_X6_ofA x3 0) rfl) (va_cwS 2 hts gX6_account_X6_ofA rfl rfl rfl (by decide +kernel) ⟨Nat.le_of_ble_eq_true rfl, Nat.le_of_ble_eq_true rfl⟩) hK hP hD hS hA rfl rfl rfl rfl rfl rfl rfl hl.1 rfl (Nat.le_of_ble_eq_true rfl) dX6_account_43 ⟨Nat.le_refl 0, Nat.le_refl 0⟩ (fun H locs hP hD hS => ?_)
        refine k_iald hx hb hK hP 1 0 rfl rfl h dX6_account_46 (fun v5 h => ?_)
        refine lv_iload_n hx hb dX6_account_47 rfl (lv_at hl 1 rfl) ?_
        refine lv_icmp_ne (tgt := 65) hx hb dX6_account_48 (by decide) (fun c6 => ?_) (fun c6 => ?_)
        · have h := (k_iB h).2 c6
          refine lv_iconst (v := 0) hx hb dX6_account_65 (by decide) ?_
          refine lv_iadd hx hb dX6_account_66 ?_
          refine lv_istore_n (lv' := [(2, .int (x2 + 0)), (0, .ref h0), (1, .int p1), (3, .int x3)]) hx hb dX6_account_67 rfl hl (by decide) rfl (fun ls hl => ?_)
          exact hJ68 (lp_X6_account_24  m_s p1 k) ih (x2 + 0) x3 _ _ hP hD hS _ (lv_sub hl [1, 2, 0, 3] rfl) h
        · have h := (k_iB h).1 c6
          refine lv_aload_n hx hb dX6_account_51 rfl (lv_at hl 0 rfl) ?_
          refine va_get (ci := 6) (C := RX6) (T := TX6) (N := 18) hx hb hts hiX6 hown hK hP 0 rfl rfl 0 (by decide) (hts (.fieldLink RX6 7 "RiddleTradeModel" "s" "[I") (List.mem_of_getElem? (i := 2) rfl)) (fun _ h9 => h9) rfl dX6_account_52 ?_
          refine lv_iload_n hx hb dX6_account_55 rfl (lv_at hl 3 rfl) ?_
          refine lv_bipush (v := 7) hx hb dX6_account_56 (by decide) ?_
          refine kcSi (ws1 := (w_X6_account cI cC h0 h_s h_aside h_past h_snapshot h_text m_s m_pasts m_isKept m_length m_hasStop m_stopAt m_stopWhy m_spot m_isWrong m_kind m_first m_second m_third m_fourth)) ⟨hx, hb, hml, hown, hts⟩ [] [0, 1] (c_X6_ofA l D cI cC cE _ x3 7 (d_X6_ofA x3 7) rfl) (va_cwS 2 hts gX6_account_X6_ofA rfl rfl rfl (by decide +kernel) ⟨Nat.le_of_ble_eq_true rfl, Nat.le_of_ble_eq_true rfl⟩) hK hP hD hS hA rfl rfl rfl rfl rfl rfl rfl hl.1 rfl (Nat.le_of_ble_eq_true rfl) dX6_account_58 ⟨Nat.le_refl 0, Nat.le_refl 0⟩ (fun H locs hP hD hS => ?_)
          refine k_iald hx hb hK hP 1 0 rfl rfl h dX6_account_61 (fun v11 h => ?_)
          refine lv_goto (tgt := 66) hx hb dX6_account_62 (by decide) ?_
          refine lv_iadd hx hb dX6_account_66 ?_
          refine lv_istore_n (lv' := [(2, .int (x2 + v11)), (0, .ref h0), (1, .int p1), (3, .int x3)]) hx hb dX6_account_67 rfl hl (by decide) rfl (fun ls hl => ?_)
          exact hJ68 (lp_X6_account_24  m_s p1 k) ih (x2 + v11) x3 _ _ hP hD hS _ (lv_sub hl [1, 2, 0, 3] rfl) h
  dsimp only [d_X6_account] at h
  refine lv_iload_n hx hb dX6_account_0 rfl (lv_at hl 1 rfl) ?_
  refine kcSi (ws1 := (w_X6_account cI cC h0 h_s h_aside h_past h_snapshot h_text m_s m_pasts m_isKept m_length m_hasStop m_stopAt m_stopWhy m_spot m_isWrong m_kind m_first m_second m_third m_fourth)) ⟨hx, hb, hml, hown, hts⟩ [] [0, 1] (c_X6_isTrader l D cI cC cE _ p1 (d_X6_isTrader p1) rfl) (va_cwS 1 hts gX6_account_X6_isTrader rfl rfl rfl (by decide +kernel) ⟨Nat.le_of_ble_eq_true rfl, Nat.le_of_ble_eq_true rfl⟩) hK hP hD hS hA rfl rfl rfl rfl rfl rfl rfl hl.1 rfl (Nat.le_of_ble_eq_true rfl) dX6_account_1 ⟨Nat.le_refl 0, Nat.le_refl 0⟩ (fun H locs hP hD hS => ?_)
  refine lv_if_ne (tgt := 9) hx hb dX6_account_4 (by decide) (fun c1 => ?_) (fun c1 => ?_)
  · have h := (k_iB h).2 c1
    refine lv_ldc (v := 100100) hx hb hown (hts (.constant RX6 185 (100100)) (List.mem_of_getElem? (i := 1) rfl)) dX6_account_9 ?_
    refine lv_aload_n hx hb dX6_account_11 rfl (lv_at hl 0 rfl) ?_
    refine va_get (ci := 6) (C := RX6) (T := TX6) (N := 18) hx hb hts hiX6 hown hK hP 0 rfl rfl 0 (by decide) (hts (.fieldLink RX6 7 "RiddleTradeModel" "s" "[I") (List.mem_of_getElem? (i := 2) rfl)) (fun _ h9 => h9) rfl dX6_account_12 ?_
    refine lv_bipush (v := 8) hx hb dX6_account_15 (by decide) ?_
    refine lv_iload_n hx hb dX6_account_17 rfl (lv_at hl 1 rfl) ?_
    refine lv_iadd hx hb dX6_account_18 ?_
    refine k_iald hx hb hK hP 1 0 rfl rfl h dX6_account_19 (fun v2 h => ?_)
    refine lv_isub hx hb dX6_account_20 ?_
    refine lv_istore_n (lv' := [(2, .int (100100 - v2)), (0, .ref h0), (1, .int p1)]) hx hb dX6_account_21 rfl hl (by decide) rfl (fun ls hl => ?_)
    refine lv_iconst (v := 0) hx hb dX6_account_22 (by decide) ?_
    refine lv_istore_n (lv' := [(3, .int 0), (2, .int (100100 - v2)), (0, .ref h0), (1, .int p1)]) hx hb dX6_account_23 rfl hl (by decide) rfl (fun ls hl => ?_)
    exact hL24   fuel (100100 - v2) 0 _ _ hP hD hS _ (lv_sub hl [2, 3, 1, 0] rfl) h
  · have h := (k_iB h).1 c1
    refine lv_iconst (v := (-1)) hx hb dX6_account_7 (by decide) ?_
    obtain rfl := Option.some.inj h
    exact fin _ _ _ _ dX6_account_8 hP hD hS
abbrev w_X6_open (cI cC : ClassId) (h0 h_s h_aside h_past h_snapshot h_text : Nat) (m_s : Nat → Int32) (m_pasts : Int32) (m_isKept : Int32) (m_length : Int32) (m_hasStop : Int32) (m_stopAt : Int32) (m_stopWhy : Int32) (m_spot : Int32) (m_isWrong : Int32) (m_kind : Int32) (m_first : Int32) (m_second : Int32) (m_third : Int32) (m_fourth : Int32) : va_W := [(h0, .inr (6, [.ref h_s, .ref h_aside, .ref h_past, .int m_pasts, .ref h_snapshot, .int m_isKept, .ref h_text, .int m_length, .int m_hasStop, .int m_stopAt, .int m_stopWhy, .int m_spot, .int m_isWrong, .int m_kind, .int m_first, .int m_second, .int m_third, .int m_fourth])), (h_s, .inl (cI, 490, .inl m_s))]
def lp_X6_open_4 (m_s : Nat → Int32) : Nat → Int32 → Int32 → Option (Int32)
  | 0 => fun _ _ => none
  | k + 1 => fun x1 x2 =>
    ob1 (rd 490 m_s 483) fun v1 =>
    if v1 ≤ x2 then (some x1)
    else (ob1 (rd 490 m_s (d_X6_ofR x2 3)) fun v3 =>
    if v3 = 0 then ((lp_X6_open_4  m_s k) (x1 + 1) (x2 + 1))
    else ((lp_X6_open_4  m_s k) (x1 + 0) (x2 + 1)))
def d_X6_open (m_s : Nat → Int32) : Option (Int32) :=
    lp_X6_open_4  m_s fuel 0 0
set_option maxHeartbeats 4000000 in
set_option maxRecDepth 100000 in
theorem c_X6_open (l : Launch) (D : va_G) (cI cC cE : ClassId) (h0 h_s h_aside h_past h_snapshot h_text : Nat) (sz : Nat) (m_s : Nat → Int32) (m_pasts : Int32) (m_isKept : Int32) (m_length : Int32) (m_hasStop : Int32) (m_stopAt : Int32) (m_stopWhy : Int32) (m_spot : Int32) (m_isWrong : Int32) (m_kind : Int32) (m_first : Int32) (m_second : Int32) (m_third : Int32) (m_fourth : Int32) (r0 : Int32) (h : d_X6_open m_s = some r0) : Met l yX6_open wsX6_open ({ frames := 1, cells := 0, slots := 0, locals := 21 } : Room) (kP D (kT cI cC cE) [.ref h0] (w_X6_open cI cC h0 h_s h_aside h_past h_snapshot h_text m_s m_pasts m_isKept m_length m_hasStop m_stopAt m_stopWhy m_spot m_isWrong m_kind m_first m_second m_third m_fourth) sz) (kQi D (kT cI cC cE) (w_X6_open cI cC h0 h_s h_aside h_past h_snapshot h_text m_s m_pasts m_isKept m_length m_hasStop m_stopAt m_stopWhy m_spot m_isWrong m_kind m_first m_second m_third m_fourth) (w_X6_open cI cC h0 h_s h_aside h_past h_snapshot h_text m_s m_pasts m_isKept m_length m_hasStop m_stopAt m_stopWhy m_spot m_isWrong m_kind m_first m_second m_third m_fourth) sz r0) 0 0 (va_A (w_X6_open cI cC h0 h_s h_aside h_past h_snapshot h_text m_s m_pasts m_isKept m_length m_hasStop m_stopAt m_stopWhy m_spot m_isWrong m_kind m_first m_second m_third m_fourth) sz) := by
  refine kMetI (cc := cX6_open) (maxL := 3) (own := RX6) (by decide) rfl (Nat.le_of_ble_eq_true rfl) rfl ?_
  intro p e s m below meth c A Q hx hb hml hown hts hP hK hD hA hS hname fin ls hl
  have hl : lv_has ls 3 [(0, .ref h0)] := hl
  have hiX6 : ∀ w ∈ u_ws RX6 TX6 18, w ∈ wsX6_open := by decide +kernel
  have hL4 : ∀ (k : Nat), ∀ (x1 : Int32) (x2 : Int32) (H : Heap) (locs : List Loc), va_P D vwCl (w_X6_open cI cC h0 h_s h_aside h_past h_snapshot h_text m_s m_pasts m_isKept m_length m_hasStop m_stopAt m_stopWhy m_spot m_isWrong m_kind m_first m_second m_third m_fourth) H → va_D A (w_X6_open cI cC h0 h_s h_aside h_past h_snapshot h_text m_s m_pasts m_isKept m_length m_hasStop m_stopAt m_stopWhy m_spot m_isWrong m_kind m_first m_second m_third m_fourth) → va_S A s.heap H locs → ∀ (ls : Array Slot), lv_has ls 3 [(0, .ref h0), (1, .int x1), (2, .int x2)] → lp_X6_open_4  m_s k x1 x2 = some r0 → W p l e ({ frames := 1, cells := 0, slots := 0, locals := 21 } : Room) s m [.ref h0].toArray below meth c H locs 0 0 Q (F0 m 4 ls []) := by
    intro k
    induction k with
    | zero =>
      intro x1 x2 H locs hP hD hS ls hl h
      exact k_none h
    | succ k ih =>
      intro x1 x2 H locs hP hD hS ls hl h
      dsimp only [lp_X6_open_4] at h
      refine lv_iload_n hx hb dX6_open_4 rfl (lv_at hl 2 rfl) ?_
      refine lv_aload_n hx hb dX6_open_5 rfl (lv_at hl 0 rfl) ?_
      refine va_get (ci := 6) (C := RX6) (T := TX6) (N := 18) hx hb hts hiX6 hown hK hP 0 rfl rfl 0 (by decide) (hts (.fieldLink RX6 7 "RiddleTradeModel" "s" "[I") (List.mem_of_getElem? (i := 1) rfl)) (fun _ h9 => h9) rfl dX6_open_6 ?_
      refine lv_sipush (v := 483) hx hb dX6_open_9 (by decide) ?_
      refine k_iald hx hb hK hP 1 0 rfl rfl h dX6_open_12 (fun v1 h => ?_)
      refine lv_icmp_ge (tgt := 43) hx hb dX6_open_13 (by decide) (fun c2 => ?_) (fun c2 => ?_)
      · have h := (k_iB h).1 c2
        refine lv_iload_n hx hb dX6_open_43 rfl (lv_at hl 1 rfl) ?_
        obtain rfl := Option.some.inj h
        exact fin _ _ _ _ dX6_open_44 hP hD hS
      · have h := (k_iB h).2 c2
        refine lv_iload_n hx hb dX6_open_16 rfl (lv_at hl 1 rfl) ?_
        refine lv_aload_n hx hb dX6_open_17 rfl (lv_at hl 0 rfl) ?_
        refine va_get (ci := 6) (C := RX6) (T := TX6) (N := 18) hx hb hts hiX6 hown hK hP 0 rfl rfl 0 (by decide) (hts (.fieldLink RX6 7 "RiddleTradeModel" "s" "[I") (List.mem_of_getElem? (i := 1) rfl)) (fun _ h9 => h9) rfl dX6_open_18 ?_
        refine lv_iload_n hx hb dX6_open_21 rfl (lv_at hl 2 rfl) ?_
        refine lv_iconst (v := 3) hx hb dX6_open_22 (by decide) ?_
        refine kcSi (ws1 := (w_X6_open cI cC h0 h_s h_aside h_past h_snapshot h_text m_s m_pasts m_isKept m_length m_hasStop m_stopAt m_stopWhy m_spot m_isWrong m_kind m_first m_second m_third m_fourth)) ⟨hx, hb, hml, hown, hts⟩ [] [0, 1] (c_X6_ofR l D cI cC cE _ x2 3 (d_X6_ofR x2 3) rfl) (va_cwS 2 hts gX6_open_X6_ofR rfl rfl rfl (by decide +kernel) ⟨Nat.le_of_ble_eq_true rfl, Nat.le_of_ble_eq_true rfl⟩) hK hP hD hS hA rfl rfl rfl rfl rfl rfl rfl hl.1 rfl (Nat.le_of_ble_eq_true rfl) dX6_open_23 ⟨Nat.le_refl 0, Nat.le_refl 0⟩ (fun H locs hP hD hS => ?_)
        refine k_iald hx hb hK hP 1 0 rfl rfl h dX6_open_26 (fun v3 h => ?_)
        refine lv_if_ne (tgt := 34) hx hb dX6_open_27 (by decide) (fun c4 => ?_) (fun c4 => ?_)
        · have h := (k_iB h).2 c4
          refine lv_iconst (v := 0) hx hb dX6_open_34 (by decide) ?_
          refine lv_iadd hx hb dX6_open_35 ?_
          refine lv_istore_n (lv' := [(1, .int (x1 + 0)), (0, .ref h0), (2, .int x2)]) hx hb dX6_open_36 rfl hl (by decide) rfl (fun ls hl => ?_)
          refine lv_iinc (v := (x2 + 1)) (lv' := [(2, .int (x2 + 1)), (1, .int (x1 + 0)), (0, .ref h0)]) hx hb dX6_open_37 hl (k := 2) rfl rfl (by decide) rfl (fun ls hl => ?_)
          refine lv_goto (tgt := 4) hx hb dX6_open_40 (by decide) ?_
          exact ih (x1 + 0) (x2 + 1) _ _ hP hD hS _ (lv_sub hl [2, 1, 0] rfl) h
        · have h := (k_iB h).1 c4
          refine lv_iconst (v := 1) hx hb dX6_open_30 (by decide) ?_
          refine lv_goto (tgt := 35) hx hb dX6_open_31 (by decide) ?_
          refine lv_iadd hx hb dX6_open_35 ?_
          refine lv_istore_n (lv' := [(1, .int (x1 + 1)), (0, .ref h0), (2, .int x2)]) hx hb dX6_open_36 rfl hl (by decide) rfl (fun ls hl => ?_)
          refine lv_iinc (v := (x2 + 1)) (lv' := [(2, .int (x2 + 1)), (1, .int (x1 + 1)), (0, .ref h0)]) hx hb dX6_open_37 hl (k := 2) rfl rfl (by decide) rfl (fun ls hl => ?_)
          refine lv_goto (tgt := 4) hx hb dX6_open_40 (by decide) ?_
          exact ih (x1 + 1) (x2 + 1) _ _ hP hD hS _ (lv_sub hl [2, 1, 0] rfl) h
  dsimp only [d_X6_open] at h
  refine lv_iconst (v := 0) hx hb dX6_open_0 (by decide) ?_
  refine lv_istore_n (lv' := [(1, .int 0), (0, .ref h0)]) hx hb dX6_open_1 rfl hl (by decide) rfl (fun ls hl => ?_)
  refine lv_iconst (v := 0) hx hb dX6_open_2 (by decide) ?_
  refine lv_istore_n (lv' := [(2, .int 0), (1, .int 0), (0, .ref h0)]) hx hb dX6_open_3 rfl hl (by decide) rfl (fun ls hl => ?_)
  exact hL4   fuel 0 0 _ _ hP hD hS _ (lv_sub hl [2, 1, 0] rfl) h
abbrev w_X6_debtors (cI cC : ClassId) (h0 h_s h_aside h_past h_snapshot h_text : Nat) (m_s : Nat → Int32) (m_pasts : Int32) (m_isKept : Int32) (m_length : Int32) (m_hasStop : Int32) (m_stopAt : Int32) (m_stopWhy : Int32) (m_spot : Int32) (m_isWrong : Int32) (m_kind : Int32) (m_first : Int32) (m_second : Int32) (m_third : Int32) (m_fourth : Int32) : va_W := [(h0, .inr (6, [.ref h_s, .ref h_aside, .ref h_past, .int m_pasts, .ref h_snapshot, .int m_isKept, .ref h_text, .int m_length, .int m_hasStop, .int m_stopAt, .int m_stopWhy, .int m_spot, .int m_isWrong, .int m_kind, .int m_first, .int m_second, .int m_third, .int m_fourth])), (h_s, .inl (cI, 490, .inl m_s))]
def lp_X6_debtors_4 (m_s : Nat → Int32) : Nat → Int32 → Int32 → Option (Int32)
  | 0 => fun _ _ => none
  | k + 1 => fun x1 x2 =>
    if 8 ≤ x2 then (some x1)
    else (ob1 (rd 490 m_s (0 + x2)) fun v2 =>
    if 0 ≤ v2 then ((lp_X6_debtors_4  m_s k) (x1 + 0) (x2 + 1))
    else ((lp_X6_debtors_4  m_s k) (x1 + 1) (x2 + 1)))
def d_X6_debtors (m_s : Nat → Int32) : Option (Int32) :=
    lp_X6_debtors_4  m_s fuel 0 0
set_option maxHeartbeats 4000000 in
set_option maxRecDepth 100000 in
theorem c_X6_debtors (l : Launch) (D : va_G) (cI cC cE : ClassId) (h0 h_s h_aside h_past h_snapshot h_text : Nat) (sz : Nat) (m_s : Nat → Int32) (m_pasts : Int32) (m_isKept : Int32) (m_length : Int32) (m_hasStop : Int32) (m_stopAt : Int32) (m_stopWhy : Int32) (m_spot : Int32) (m_isWrong : Int32) (m_kind : Int32) (m_first : Int32) (m_second : Int32) (m_third : Int32) (m_fourth : Int32) (r0 : Int32) (h : d_X6_debtors m_s = some r0) : Met l yX6_debtors wsX6_debtors ({ frames := 0, cells := 0, slots := 0, locals := 0 } : Room) (kP D (kT cI cC cE) [.ref h0] (w_X6_debtors cI cC h0 h_s h_aside h_past h_snapshot h_text m_s m_pasts m_isKept m_length m_hasStop m_stopAt m_stopWhy m_spot m_isWrong m_kind m_first m_second m_third m_fourth) sz) (kQi D (kT cI cC cE) (w_X6_debtors cI cC h0 h_s h_aside h_past h_snapshot h_text m_s m_pasts m_isKept m_length m_hasStop m_stopAt m_stopWhy m_spot m_isWrong m_kind m_first m_second m_third m_fourth) (w_X6_debtors cI cC h0 h_s h_aside h_past h_snapshot h_text m_s m_pasts m_isKept m_length m_hasStop m_stopAt m_stopWhy m_spot m_isWrong m_kind m_first m_second m_third m_fourth) sz r0) 0 0 (va_A (w_X6_debtors cI cC h0 h_s h_aside h_past h_snapshot h_text m_s m_pasts m_isKept m_length m_hasStop m_stopAt m_stopWhy m_spot m_isWrong m_kind m_first m_second m_third m_fourth) sz) := by
  refine kMetI (cc := cX6_debtors) (maxL := 3) (own := RX6) (by decide) rfl (Nat.le_of_ble_eq_true rfl) rfl ?_
  intro p e s m below meth c A Q hx hb hml hown hts hP hK hD hA hS hname fin ls hl
  have hl : lv_has ls 3 [(0, .ref h0)] := hl
  have hiX6 : ∀ w ∈ u_ws RX6 TX6 18, w ∈ wsX6_debtors := by decide +kernel
  have hL4 : ∀ (k : Nat), ∀ (x1 : Int32) (x2 : Int32) (H : Heap) (locs : List Loc), va_P D vwCl (w_X6_debtors cI cC h0 h_s h_aside h_past h_snapshot h_text m_s m_pasts m_isKept m_length m_hasStop m_stopAt m_stopWhy m_spot m_isWrong m_kind m_first m_second m_third m_fourth) H → va_D A (w_X6_debtors cI cC h0 h_s h_aside h_past h_snapshot h_text m_s m_pasts m_isKept m_length m_hasStop m_stopAt m_stopWhy m_spot m_isWrong m_kind m_first m_second m_third m_fourth) → va_S A s.heap H locs → ∀ (ls : Array Slot), lv_has ls 3 [(0, .ref h0), (1, .int x1), (2, .int x2)] → lp_X6_debtors_4  m_s k x1 x2 = some r0 → W p l e ({ frames := 0, cells := 0, slots := 0, locals := 0 } : Room) s m [.ref h0].toArray below meth c H locs 0 0 Q (F0 m 4 ls []) := by
    intro k
    induction k with
    | zero =>
      intro x1 x2 H locs hP hD hS ls hl h
      exact k_none h
    | succ k ih =>
      intro x1 x2 H locs hP hD hS ls hl h
      dsimp only [lp_X6_debtors_4] at h
      refine lv_iload_n hx hb dX6_debtors_4 rfl (lv_at hl 2 rfl) ?_
      refine lv_bipush (v := 8) hx hb dX6_debtors_5 (by decide) ?_
      refine lv_icmp_ge (tgt := 35) hx hb dX6_debtors_7 (by decide) (fun c1 => ?_) (fun c1 => ?_)
      · have h := (k_iB h).1 c1
        refine lv_iload_n hx hb dX6_debtors_35 rfl (lv_at hl 1 rfl) ?_
        obtain rfl := Option.some.inj h
        exact fin _ _ _ _ dX6_debtors_36 hP hD hS
      · have h := (k_iB h).2 c1
        refine lv_iload_n hx hb dX6_debtors_10 rfl (lv_at hl 1 rfl) ?_
        refine lv_aload_n hx hb dX6_debtors_11 rfl (lv_at hl 0 rfl) ?_
        refine va_get (ci := 6) (C := RX6) (T := TX6) (N := 18) hx hb hts hiX6 hown hK hP 0 rfl rfl 0 (by decide) (hts (.fieldLink RX6 7 "RiddleTradeModel" "s" "[I") (List.mem_of_getElem? (i := 1) rfl)) (fun _ h9 => h9) rfl dX6_debtors_12 ?_
        refine lv_iconst (v := 0) hx hb dX6_debtors_15 (by decide) ?_
        refine lv_iload_n hx hb dX6_debtors_16 rfl (lv_at hl 2 rfl) ?_
        refine lv_iadd hx hb dX6_debtors_17 ?_
        refine k_iald hx hb hK hP 1 0 rfl rfl h dX6_debtors_18 (fun v2 h => ?_)
        refine lv_if_ge (tgt := 26) hx hb dX6_debtors_19 (by decide) (fun c3 => ?_) (fun c3 => ?_)
        · have h := (k_iB h).1 c3
          refine lv_iconst (v := 0) hx hb dX6_debtors_26 (by decide) ?_
          refine lv_iadd hx hb dX6_debtors_27 ?_
          refine lv_istore_n (lv' := [(1, .int (x1 + 0)), (0, .ref h0), (2, .int x2)]) hx hb dX6_debtors_28 rfl hl (by decide) rfl (fun ls hl => ?_)
          refine lv_iinc (v := (x2 + 1)) (lv' := [(2, .int (x2 + 1)), (1, .int (x1 + 0)), (0, .ref h0)]) hx hb dX6_debtors_29 hl (k := 2) rfl rfl (by decide) rfl (fun ls hl => ?_)
          refine lv_goto (tgt := 4) hx hb dX6_debtors_32 (by decide) ?_
          exact ih (x1 + 0) (x2 + 1) _ _ hP hD hS _ (lv_sub hl [2, 1, 0] rfl) h
        · have h := (k_iB h).2 c3
          refine lv_iconst (v := 1) hx hb dX6_debtors_22 (by decide) ?_
          refine lv_goto (tgt := 27) hx hb dX6_debtors_23 (by decide) ?_
          refine lv_iadd hx hb dX6_debtors_27 ?_
          refine lv_istore_n (lv' := [(1, .int (x1 + 1)), (0, .ref h0), (2, .int x2)]) hx hb dX6_debtors_28 rfl hl (by decide) rfl (fun ls hl => ?_)
          refine lv_iinc (v := (x2 + 1)) (lv' := [(2, .int (x2 + 1)), (1, .int (x1 + 1)), (0, .ref h0)]) hx hb dX6_debtors_29 hl (k := 2) rfl rfl (by decide) rfl (fun ls hl => ?_)
          refine lv_goto (tgt := 4) hx hb dX6_debtors_32 (by decide) ?_
          exact ih (x1 + 1) (x2 + 1) _ _ hP hD hS _ (lv_sub hl [2, 1, 0] rfl) h
  dsimp only [d_X6_debtors] at h
  refine lv_iconst (v := 0) hx hb dX6_debtors_0 (by decide) ?_
  refine lv_istore_n (lv' := [(1, .int 0), (0, .ref h0)]) hx hb dX6_debtors_1 rfl hl (by decide) rfl (fun ls hl => ?_)
  refine lv_iconst (v := 0) hx hb dX6_debtors_2 (by decide) ?_
  refine lv_istore_n (lv' := [(2, .int 0), (1, .int 0), (0, .ref h0)]) hx hb dX6_debtors_3 rfl hl (by decide) rfl (fun ls hl => ?_)
  exact hL4   fuel 0 0 _ _ hP hD hS _ (lv_sub hl [2, 1, 0] rfl) h
abbrev w_X6_count (cI cC : ClassId) (h0 h_s h_aside h_past h_snapshot h_text : Nat) (m_s : Nat → Int32) (m_pasts : Int32) (m_isKept : Int32) (m_length : Int32) (m_hasStop : Int32) (m_stopAt : Int32) (m_stopWhy : Int32) (m_spot : Int32) (m_isWrong : Int32) (m_kind : Int32) (m_first : Int32) (m_second : Int32) (m_third : Int32) (m_fourth : Int32) : va_W := [(h0, .inr (6, [.ref h_s, .ref h_aside, .ref h_past, .int m_pasts, .ref h_snapshot, .int m_isKept, .ref h_text, .int m_length, .int m_hasStop, .int m_stopAt, .int m_stopWhy, .int m_spot, .int m_isWrong, .int m_kind, .int m_first, .int m_second, .int m_third, .int m_fourth])), (h_s, .inl (cI, 490, .inl m_s))]
def d_X6_count (p1 : Int32) (m_s : Nat → Int32) (m_pasts : Int32) (m_length : Int32) : Option (Int32) :=
    if p1 = 0 then (ob1 (rd 490 m_s 485) fun v3 =>
    some v3)
    else (if p1 = 1 then (ob1 (rd 490 m_s 483) fun v5 =>
    some v5)
    else (if p1 = 2 then (ob1 (d_X6_open m_s) fun r7 =>
    some r7)
    else (if p1 = 3 then (ob1 (rd 490 m_s 484) fun v10 =>
    some v10)
    else (if p1 = 4 then (ob1 (rd 490 m_s 476) fun v12 =>
    some v12)
    else (if p1 = 5 then (ob1 (d_X6_inState 1 m_s) fun r14 =>
    some r14)
    else (if p1 = 6 then (ob1 (d_X6_inState 2 m_s) fun r17 =>
    some r17)
    else (if p1 = 7 then (ob1 (rd 490 m_s 487) fun v20 =>
    some v20)
    else (if p1 = 8 then (ob1 (rd 490 m_s 488) fun v22 =>
    some v22)
    else (if p1 = 9 then (ob1 (rd 490 m_s 486) fun v24 =>
    some v24)
    else (if p1 = 10 then (ob1 (d_X6_debtors m_s) fun r26 =>
    some r26)
    else (if p1 = 11 then (ob1 (rd 490 m_s 489) fun v29 =>
    some v29)
    else (if p1 = 12 then (ob1 (rd 490 m_s ((477 + p1) - 12)) fun v31 =>
    some (v31 + 9))
    else (if p1 = 13 then (ob1 (rd 490 m_s ((477 + p1) - 12)) fun v33 =>
    some (v33 + 9))
    else (if p1 = 14 then (ob1 (rd 490 m_s ((479 + p1) - 14)) fun v35 =>
    some v35)
    else (if p1 = 15 then (ob1 (rd 490 m_s ((479 + p1) - 14)) fun v37 =>
    some v37)
    else (if p1 = 16 then (ob1 (rd 490 m_s ((479 + p1) - 14)) fun v39 =>
    some v39)
    else (if p1 = 17 then (ob1 (rd 490 m_s ((479 + p1) - 14)) fun v41 =>
    some v41)
    else (if p1 = 18 then (some m_pasts)
    else (if p1 = 19 then (some m_length)
    else (some (-2)))))))))))))))))))))
set_option maxHeartbeats 4000000 in
set_option maxRecDepth 100000 in
theorem c_X6_count (l : Launch) (D : va_G) (cI cC cE : ClassId) (h0 h_s h_aside h_past h_snapshot h_text : Nat) (sz : Nat) (m_s : Nat → Int32) (m_pasts : Int32) (m_isKept : Int32) (m_length : Int32) (m_hasStop : Int32) (m_stopAt : Int32) (m_stopWhy : Int32) (m_spot : Int32) (m_isWrong : Int32) (m_kind : Int32) (m_first : Int32) (m_second : Int32) (m_third : Int32) (m_fourth : Int32) (p1 : Int32) (r0 : Int32) (h : d_X6_count p1 m_s m_pasts m_length = some r0) : Met l yX6_count wsX6_count ({ frames := 2, cells := 0, slots := 0, locals := 44 } : Room) (kP D (kT cI cC cE) [.ref h0, .int p1] (w_X6_count cI cC h0 h_s h_aside h_past h_snapshot h_text m_s m_pasts m_isKept m_length m_hasStop m_stopAt m_stopWhy m_spot m_isWrong m_kind m_first m_second m_third m_fourth) sz) (kQi D (kT cI cC cE) (w_X6_count cI cC h0 h_s h_aside h_past h_snapshot h_text m_s m_pasts m_isKept m_length m_hasStop m_stopAt m_stopWhy m_spot m_isWrong m_kind m_first m_second m_third m_fourth) (w_X6_count cI cC h0 h_s h_aside h_past h_snapshot h_text m_s m_pasts m_isKept m_length m_hasStop m_stopAt m_stopWhy m_spot m_isWrong m_kind m_first m_second m_third m_fourth) sz r0) 0 0 (va_A (w_X6_count cI cC h0 h_s h_aside h_past h_snapshot h_text m_s m_pasts m_isKept m_length m_hasStop m_stopAt m_stopWhy m_spot m_isWrong m_kind m_first m_second m_third m_fourth) sz) := by
  refine kMetI (cc := cX6_count) (maxL := 2) (own := RX6) (by decide) rfl (Nat.le_of_ble_eq_true rfl) rfl ?_
  intro p e s m below meth c A Q hx hb hml hown hts hP hK hD hA hS hname fin ls hl
  have hl : lv_has ls 2 [(0, .ref h0), (1, .int p1)] := hl
  have hiX6 : ∀ w ∈ u_ws RX6 TX6 18, w ∈ wsX6_count := by decide +kernel
  dsimp only [d_X6_count] at h
  refine lv_iload_n hx hb dX6_count_0 rfl (lv_at hl 1 rfl) ?_
  by_cases c2 : p1 = 0
  · have h := (k_iB h).1 c2
    refine lv_tableIn (off := 95) (tgt := 96) hx hb dX6_count_1 (by rw [c2]; decide) (by rw [c2]; decide) (by rw [c2]; rfl) (by decide) ?_
    refine lv_aload_n hx hb dX6_count_96 rfl (lv_at hl 0 rfl) ?_
    refine va_get (ci := 6) (C := RX6) (T := TX6) (N := 18) hx hb hts hiX6 hown hK hP 0 rfl rfl 0 (by decide) (hts (.fieldLink RX6 7 "RiddleTradeModel" "s" "[I") (List.mem_of_getElem? (i := 1) rfl)) (fun _ h9 => h9) rfl dX6_count_97 ?_
    refine lv_sipush (v := 485) hx hb dX6_count_100 (by decide) ?_
    refine k_iald hx hb hK hP 1 0 rfl rfl h dX6_count_103 (fun v3 h => ?_)
    obtain rfl := Option.some.inj h
    exact fin _ _ _ _ dX6_count_104 hP hD hS
  · have h := (k_iB h).2 c2
    by_cases c4 : p1 = 1
    · have h := (k_iB h).1 c4
      refine lv_tableIn (off := 104) (tgt := 105) hx hb dX6_count_1 (by rw [c4]; decide) (by rw [c4]; decide) (by rw [c4]; rfl) (by decide) ?_
      refine lv_aload_n hx hb dX6_count_105 rfl (lv_at hl 0 rfl) ?_
      refine va_get (ci := 6) (C := RX6) (T := TX6) (N := 18) hx hb hts hiX6 hown hK hP 0 rfl rfl 0 (by decide) (hts (.fieldLink RX6 7 "RiddleTradeModel" "s" "[I") (List.mem_of_getElem? (i := 1) rfl)) (fun _ h9 => h9) rfl dX6_count_106 ?_
      refine lv_sipush (v := 483) hx hb dX6_count_109 (by decide) ?_
      refine k_iald hx hb hK hP 1 0 rfl rfl h dX6_count_112 (fun v5 h => ?_)
      obtain rfl := Option.some.inj h
      exact fin _ _ _ _ dX6_count_113 hP hD hS
    · have h := (k_iB h).2 c4
      by_cases c6 : p1 = 2
      · have h := (k_iB h).1 c6
        refine lv_tableIn (off := 113) (tgt := 114) hx hb dX6_count_1 (by rw [c6]; decide) (by rw [c6]; decide) (by rw [c6]; rfl) (by decide) ?_
        refine lv_aload_n hx hb dX6_count_114 rfl (lv_at hl 0 rfl) ?_
        obtain ⟨r7, hu8, h⟩ := ob1_el h
        refine kcVi (ci := 6) (q := (RX6, TX6, 18)) (ws1 := (w_X6_count cI cC h0 h_s h_aside h_past h_snapshot h_text m_s m_pasts m_isKept m_length m_hasStop m_stopAt m_stopWhy m_spot m_isWrong m_kind m_first m_second m_third m_fourth)) ⟨hx, hb, hml, hown, hts⟩ [0, 1] [] (c_X6_open l D cI cC cE h0 h_s h_aside h_past h_snapshot h_text _ m_s m_pasts m_isKept m_length m_hasStop m_stopAt m_stopWhy m_spot m_isWrong m_kind m_first m_second m_third m_fourth r7 hu8) (cwV 0 hts gX6_count_X6_open rfl rfl rfl (by decide +kernel) ⟨Nat.le_of_ble_eq_true rfl, Nat.le_of_ble_eq_true rfl⟩) hK hP hD hS hA rfl rfl rfl rfl rfl rfl rfl rfl rfl hl.1 rfl (Nat.le_of_ble_eq_true rfl) dX6_count_115 ⟨Nat.le_refl 0, Nat.le_refl 0⟩ (fun H locs hP hD hS => ?_)
        obtain rfl := Option.some.inj h
        exact fin _ _ _ _ dX6_count_118 hP hD hS
      · have h := (k_iB h).2 c6
        by_cases c9 : p1 = 3
        · have h := (k_iB h).1 c9
          refine lv_tableIn (off := 118) (tgt := 119) hx hb dX6_count_1 (by rw [c9]; decide) (by rw [c9]; decide) (by rw [c9]; rfl) (by decide) ?_
          refine lv_aload_n hx hb dX6_count_119 rfl (lv_at hl 0 rfl) ?_
          refine va_get (ci := 6) (C := RX6) (T := TX6) (N := 18) hx hb hts hiX6 hown hK hP 0 rfl rfl 0 (by decide) (hts (.fieldLink RX6 7 "RiddleTradeModel" "s" "[I") (List.mem_of_getElem? (i := 1) rfl)) (fun _ h9 => h9) rfl dX6_count_120 ?_
          refine lv_sipush (v := 484) hx hb dX6_count_123 (by decide) ?_
          refine k_iald hx hb hK hP 1 0 rfl rfl h dX6_count_126 (fun v10 h => ?_)
          obtain rfl := Option.some.inj h
          exact fin _ _ _ _ dX6_count_127 hP hD hS
        · have h := (k_iB h).2 c9
          by_cases c11 : p1 = 4
          · have h := (k_iB h).1 c11
            refine lv_tableIn (off := 127) (tgt := 128) hx hb dX6_count_1 (by rw [c11]; decide) (by rw [c11]; decide) (by rw [c11]; rfl) (by decide) ?_
            refine lv_aload_n hx hb dX6_count_128 rfl (lv_at hl 0 rfl) ?_
            refine va_get (ci := 6) (C := RX6) (T := TX6) (N := 18) hx hb hts hiX6 hown hK hP 0 rfl rfl 0 (by decide) (hts (.fieldLink RX6 7 "RiddleTradeModel" "s" "[I") (List.mem_of_getElem? (i := 1) rfl)) (fun _ h9 => h9) rfl dX6_count_129 ?_
            refine lv_sipush (v := 476) hx hb dX6_count_132 (by decide) ?_
            refine k_iald hx hb hK hP 1 0 rfl rfl h dX6_count_135 (fun v12 h => ?_)
            obtain rfl := Option.some.inj h
            exact fin _ _ _ _ dX6_count_136 hP hD hS
          · have h := (k_iB h).2 c11
            by_cases c13 : p1 = 5
            · have h := (k_iB h).1 c13
              refine lv_tableIn (off := 136) (tgt := 137) hx hb dX6_count_1 (by rw [c13]; decide) (by rw [c13]; decide) (by rw [c13]; rfl) (by decide) ?_
              refine lv_aload_n hx hb dX6_count_137 rfl (lv_at hl 0 rfl) ?_
              refine lv_iconst (v := 1) hx hb dX6_count_138 (by decide) ?_
              obtain ⟨r14, hu15, h⟩ := ob1_el h
              refine kcVi (ci := 6) (q := (RX6, TX6, 18)) (ws1 := (w_X6_count cI cC h0 h_s h_aside h_past h_snapshot h_text m_s m_pasts m_isKept m_length m_hasStop m_stopAt m_stopWhy m_spot m_isWrong m_kind m_first m_second m_third m_fourth)) ⟨hx, hb, hml, hown, hts⟩ [0, 1] [] (c_X6_inState l D cI cC cE h0 h_s h_aside h_past h_snapshot h_text _ m_s m_pasts m_isKept m_length m_hasStop m_stopAt m_stopWhy m_spot m_isWrong m_kind m_first m_second m_third m_fourth 1 r14 hu15) (cwV 1 hts gX6_count_X6_inState rfl rfl rfl (by decide +kernel) ⟨Nat.le_of_ble_eq_true rfl, Nat.le_of_ble_eq_true rfl⟩) hK hP hD hS hA rfl rfl rfl rfl rfl rfl rfl rfl rfl hl.1 rfl (Nat.le_of_ble_eq_true rfl) dX6_count_139 ⟨Nat.le_refl 0, Nat.le_refl 0⟩ (fun H locs hP hD hS => ?_)
              obtain rfl := Option.some.inj h
              exact fin _ _ _ _ dX6_count_142 hP hD hS
            · have h := (k_iB h).2 c13
              by_cases c16 : p1 = 6
              · have h := (k_iB h).1 c16
                refine lv_tableIn (off := 142) (tgt := 143) hx hb dX6_count_1 (by rw [c16]; decide) (by rw [c16]; decide) (by rw [c16]; rfl) (by decide) ?_
                refine lv_aload_n hx hb dX6_count_143 rfl (lv_at hl 0 rfl) ?_
                refine lv_iconst (v := 2) hx hb dX6_count_144 (by decide) ?_
                obtain ⟨r17, hu18, h⟩ := ob1_el h
                refine kcVi (ci := 6) (q := (RX6, TX6, 18)) (ws1 := (w_X6_count cI cC h0 h_s h_aside h_past h_snapshot h_text m_s m_pasts m_isKept m_length m_hasStop m_stopAt m_stopWhy m_spot m_isWrong m_kind m_first m_second m_third m_fourth)) ⟨hx, hb, hml, hown, hts⟩ [0, 1] [] (c_X6_inState l D cI cC cE h0 h_s h_aside h_past h_snapshot h_text _ m_s m_pasts m_isKept m_length m_hasStop m_stopAt m_stopWhy m_spot m_isWrong m_kind m_first m_second m_third m_fourth 2 r17 hu18) (cwV 1 hts gX6_count_X6_inState rfl rfl rfl (by decide +kernel) ⟨Nat.le_of_ble_eq_true rfl, Nat.le_of_ble_eq_true rfl⟩) hK hP hD hS hA rfl rfl rfl rfl rfl rfl rfl rfl rfl hl.1 rfl (Nat.le_of_ble_eq_true rfl) dX6_count_145 ⟨Nat.le_refl 0, Nat.le_refl 0⟩ (fun H locs hP hD hS => ?_)
                obtain rfl := Option.some.inj h
                exact fin _ _ _ _ dX6_count_148 hP hD hS
              · have h := (k_iB h).2 c16
                by_cases c19 : p1 = 7
                · have h := (k_iB h).1 c19
                  refine lv_tableIn (off := 148) (tgt := 149) hx hb dX6_count_1 (by rw [c19]; decide) (by rw [c19]; decide) (by rw [c19]; rfl) (by decide) ?_
                  refine lv_aload_n hx hb dX6_count_149 rfl (lv_at hl 0 rfl) ?_
                  refine va_get (ci := 6) (C := RX6) (T := TX6) (N := 18) hx hb hts hiX6 hown hK hP 0 rfl rfl 0 (by decide) (hts (.fieldLink RX6 7 "RiddleTradeModel" "s" "[I") (List.mem_of_getElem? (i := 1) rfl)) (fun _ h9 => h9) rfl dX6_count_150 ?_
                  refine lv_sipush (v := 487) hx hb dX6_count_153 (by decide) ?_
                  refine k_iald hx hb hK hP 1 0 rfl rfl h dX6_count_156 (fun v20 h => ?_)
                  obtain rfl := Option.some.inj h
                  exact fin _ _ _ _ dX6_count_157 hP hD hS
                · have h := (k_iB h).2 c19
                  by_cases c21 : p1 = 8
                  · have h := (k_iB h).1 c21
                    refine lv_tableIn (off := 157) (tgt := 158) hx hb dX6_count_1 (by rw [c21]; decide) (by rw [c21]; decide) (by rw [c21]; rfl) (by decide) ?_
                    refine lv_aload_n hx hb dX6_count_158 rfl (lv_at hl 0 rfl) ?_
                    refine va_get (ci := 6) (C := RX6) (T := TX6) (N := 18) hx hb hts hiX6 hown hK hP 0 rfl rfl 0 (by decide) (hts (.fieldLink RX6 7 "RiddleTradeModel" "s" "[I") (List.mem_of_getElem? (i := 1) rfl)) (fun _ h9 => h9) rfl dX6_count_159 ?_
                    refine lv_sipush (v := 488) hx hb dX6_count_162 (by decide) ?_
                    refine k_iald hx hb hK hP 1 0 rfl rfl h dX6_count_165 (fun v22 h => ?_)
                    obtain rfl := Option.some.inj h
                    exact fin _ _ _ _ dX6_count_166 hP hD hS
                  · have h := (k_iB h).2 c21
                    by_cases c23 : p1 = 9
                    · have h := (k_iB h).1 c23
                      refine lv_tableIn (off := 166) (tgt := 167) hx hb dX6_count_1 (by rw [c23]; decide) (by rw [c23]; decide) (by rw [c23]; rfl) (by decide) ?_
                      refine lv_aload_n hx hb dX6_count_167 rfl (lv_at hl 0 rfl) ?_
                      refine va_get (ci := 6) (C := RX6) (T := TX6) (N := 18) hx hb hts hiX6 hown hK hP 0 rfl rfl 0 (by decide) (hts (.fieldLink RX6 7 "RiddleTradeModel" "s" "[I") (List.mem_of_getElem? (i := 1) rfl)) (fun _ h9 => h9) rfl dX6_count_168 ?_
                      refine lv_sipush (v := 486) hx hb dX6_count_171 (by decide) ?_
                      refine k_iald hx hb hK hP 1 0 rfl rfl h dX6_count_174 (fun v24 h => ?_)
                      obtain rfl := Option.some.inj h
                      exact fin _ _ _ _ dX6_count_175 hP hD hS
                    · have h := (k_iB h).2 c23
                      by_cases c25 : p1 = 10
                      · have h := (k_iB h).1 c25
                        refine lv_tableIn (off := 175) (tgt := 176) hx hb dX6_count_1 (by rw [c25]; decide) (by rw [c25]; decide) (by rw [c25]; rfl) (by decide) ?_
                        refine lv_aload_n hx hb dX6_count_176 rfl (lv_at hl 0 rfl) ?_
                        obtain ⟨r26, hu27, h⟩ := ob1_el h
                        refine kcVi (ci := 6) (q := (RX6, TX6, 18)) (ws1 := (w_X6_count cI cC h0 h_s h_aside h_past h_snapshot h_text m_s m_pasts m_isKept m_length m_hasStop m_stopAt m_stopWhy m_spot m_isWrong m_kind m_first m_second m_third m_fourth)) ⟨hx, hb, hml, hown, hts⟩ [0, 1] [] (c_X6_debtors l D cI cC cE h0 h_s h_aside h_past h_snapshot h_text _ m_s m_pasts m_isKept m_length m_hasStop m_stopAt m_stopWhy m_spot m_isWrong m_kind m_first m_second m_third m_fourth r26 hu27) (cwV 0 hts gX6_count_X6_debtors rfl rfl rfl (by decide +kernel) ⟨Nat.le_of_ble_eq_true rfl, Nat.le_of_ble_eq_true rfl⟩) hK hP hD hS hA rfl rfl rfl rfl rfl rfl rfl rfl rfl hl.1 rfl (Nat.le_of_ble_eq_true rfl) dX6_count_177 ⟨Nat.le_refl 0, Nat.le_refl 0⟩ (fun H locs hP hD hS => ?_)
                        obtain rfl := Option.some.inj h
                        exact fin _ _ _ _ dX6_count_180 hP hD hS
                      · have h := (k_iB h).2 c25
                        by_cases c28 : p1 = 11
                        · have h := (k_iB h).1 c28
                          refine lv_tableIn (off := 180) (tgt := 181) hx hb dX6_count_1 (by rw [c28]; decide) (by rw [c28]; decide) (by rw [c28]; rfl) (by decide) ?_
                          refine lv_aload_n hx hb dX6_count_181 rfl (lv_at hl 0 rfl) ?_
                          refine va_get (ci := 6) (C := RX6) (T := TX6) (N := 18) hx hb hts hiX6 hown hK hP 0 rfl rfl 0 (by decide) (hts (.fieldLink RX6 7 "RiddleTradeModel" "s" "[I") (List.mem_of_getElem? (i := 1) rfl)) (fun _ h9 => h9) rfl dX6_count_182 ?_
                          refine lv_sipush (v := 489) hx hb dX6_count_185 (by decide) ?_
                          refine k_iald hx hb hK hP 1 0 rfl rfl h dX6_count_188 (fun v29 h => ?_)
                          obtain rfl := Option.some.inj h
                          exact fin _ _ _ _ dX6_count_189 hP hD hS
                        · have h := (k_iB h).2 c28
                          by_cases c30 : p1 = 12
                          · have h := (k_iB h).1 c30
                            refine lv_tableIn (off := 189) (tgt := 190) hx hb dX6_count_1 (by rw [c30]; decide) (by rw [c30]; decide) (by rw [c30]; rfl) (by decide) ?_
                            refine lv_aload_n hx hb dX6_count_190 rfl (lv_at hl 0 rfl) ?_
                            refine va_get (ci := 6) (C := RX6) (T := TX6) (N := 18) hx hb hts hiX6 hown hK hP 0 rfl rfl 0 (by decide) (hts (.fieldLink RX6 7 "RiddleTradeModel" "s" "[I") (List.mem_of_getElem? (i := 1) rfl)) (fun _ h9 => h9) rfl dX6_count_191 ?_
                            refine lv_sipush (v := 477) hx hb dX6_count_194 (by decide) ?_
                            refine lv_iload_n hx hb dX6_count_197 rfl (lv_at hl 1 rfl) ?_
                            refine lv_iadd hx hb dX6_count_198 ?_
                            refine lv_bipush (v := 12) hx hb dX6_count_199 (by decide) ?_
                            refine lv_isub hx hb dX6_count_201 ?_
                            refine k_iald hx hb hK hP 1 0 rfl rfl h dX6_count_202 (fun v31 h => ?_)
                            refine lv_bipush (v := 9) hx hb dX6_count_203 (by decide) ?_
                            refine lv_iadd hx hb dX6_count_205 ?_
                            obtain rfl := Option.some.inj h
                            exact fin _ _ _ _ dX6_count_206 hP hD hS
                          · have h := (k_iB h).2 c30
                            by_cases c32 : p1 = 13
                            · have h := (k_iB h).1 c32
                              refine lv_tableIn (off := 189) (tgt := 190) hx hb dX6_count_1 (by rw [c32]; decide) (by rw [c32]; decide) (by rw [c32]; rfl) (by decide) ?_
                              refine lv_aload_n hx hb dX6_count_190 rfl (lv_at hl 0 rfl) ?_
                              refine va_get (ci := 6) (C := RX6) (T := TX6) (N := 18) hx hb hts hiX6 hown hK hP 0 rfl rfl 0 (by decide) (hts (.fieldLink RX6 7 "RiddleTradeModel" "s" "[I") (List.mem_of_getElem? (i := 1) rfl)) (fun _ h9 => h9) rfl dX6_count_191 ?_
                              refine lv_sipush (v := 477) hx hb dX6_count_194 (by decide) ?_
                              refine lv_iload_n hx hb dX6_count_197 rfl (lv_at hl 1 rfl) ?_
                              refine lv_iadd hx hb dX6_count_198 ?_
                              refine lv_bipush (v := 12) hx hb dX6_count_199 (by decide) ?_
                              refine lv_isub hx hb dX6_count_201 ?_
                              refine k_iald hx hb hK hP 1 0 rfl rfl h dX6_count_202 (fun v33 h => ?_)
                              refine lv_bipush (v := 9) hx hb dX6_count_203 (by decide) ?_
                              refine lv_iadd hx hb dX6_count_205 ?_
                              obtain rfl := Option.some.inj h
                              exact fin _ _ _ _ dX6_count_206 hP hD hS
                            · have h := (k_iB h).2 c32
                              by_cases c34 : p1 = 14
                              · have h := (k_iB h).1 c34
                                refine lv_tableIn (off := 206) (tgt := 207) hx hb dX6_count_1 (by rw [c34]; decide) (by rw [c34]; decide) (by rw [c34]; rfl) (by decide) ?_
                                refine lv_aload_n hx hb dX6_count_207 rfl (lv_at hl 0 rfl) ?_
                                refine va_get (ci := 6) (C := RX6) (T := TX6) (N := 18) hx hb hts hiX6 hown hK hP 0 rfl rfl 0 (by decide) (hts (.fieldLink RX6 7 "RiddleTradeModel" "s" "[I") (List.mem_of_getElem? (i := 1) rfl)) (fun _ h9 => h9) rfl dX6_count_208 ?_
                                refine lv_sipush (v := 479) hx hb dX6_count_211 (by decide) ?_
                                refine lv_iload_n hx hb dX6_count_214 rfl (lv_at hl 1 rfl) ?_
                                refine lv_iadd hx hb dX6_count_215 ?_
                                refine lv_bipush (v := 14) hx hb dX6_count_216 (by decide) ?_
                                refine lv_isub hx hb dX6_count_218 ?_
                                refine k_iald hx hb hK hP 1 0 rfl rfl h dX6_count_219 (fun v35 h => ?_)
                                obtain rfl := Option.some.inj h
                                exact fin _ _ _ _ dX6_count_220 hP hD hS
                              · have h := (k_iB h).2 c34
                                by_cases c36 : p1 = 15
                                · have h := (k_iB h).1 c36
                                  refine lv_tableIn (off := 206) (tgt := 207) hx hb dX6_count_1 (by rw [c36]; decide) (by rw [c36]; decide) (by rw [c36]; rfl) (by decide) ?_
                                  refine lv_aload_n hx hb dX6_count_207 rfl (lv_at hl 0 rfl) ?_
                                  refine va_get (ci := 6) (C := RX6) (T := TX6) (N := 18) hx hb hts hiX6 hown hK hP 0 rfl rfl 0 (by decide) (hts (.fieldLink RX6 7 "RiddleTradeModel" "s" "[I") (List.mem_of_getElem? (i := 1) rfl)) (fun _ h9 => h9) rfl dX6_count_208 ?_
                                  refine lv_sipush (v := 479) hx hb dX6_count_211 (by decide) ?_
                                  refine lv_iload_n hx hb dX6_count_214 rfl (lv_at hl 1 rfl) ?_
                                  refine lv_iadd hx hb dX6_count_215 ?_
                                  refine lv_bipush (v := 14) hx hb dX6_count_216 (by decide) ?_
                                  refine lv_isub hx hb dX6_count_218 ?_
                                  refine k_iald hx hb hK hP 1 0 rfl rfl h dX6_count_219 (fun v37 h => ?_)
                                  obtain rfl := Option.some.inj h
                                  exact fin _ _ _ _ dX6_count_220 hP hD hS
                                · have h := (k_iB h).2 c36
                                  by_cases c38 : p1 = 16
                                  · have h := (k_iB h).1 c38
                                    refine lv_tableIn (off := 206) (tgt := 207) hx hb dX6_count_1 (by rw [c38]; decide) (by rw [c38]; decide) (by rw [c38]; rfl) (by decide) ?_
                                    refine lv_aload_n hx hb dX6_count_207 rfl (lv_at hl 0 rfl) ?_
                                    refine va_get (ci := 6) (C := RX6) (T := TX6) (N := 18) hx hb hts hiX6 hown hK hP 0 rfl rfl 0 (by decide) (hts (.fieldLink RX6 7 "RiddleTradeModel" "s" "[I") (List.mem_of_getElem? (i := 1) rfl)) (fun _ h9 => h9) rfl dX6_count_208 ?_
                                    refine lv_sipush (v := 479) hx hb dX6_count_211 (by decide) ?_
                                    refine lv_iload_n hx hb dX6_count_214 rfl (lv_at hl 1 rfl) ?_
                                    refine lv_iadd hx hb dX6_count_215 ?_
                                    refine lv_bipush (v := 14) hx hb dX6_count_216 (by decide) ?_
                                    refine lv_isub hx hb dX6_count_218 ?_
                                    refine k_iald hx hb hK hP 1 0 rfl rfl h dX6_count_219 (fun v39 h => ?_)
                                    obtain rfl := Option.some.inj h
                                    exact fin _ _ _ _ dX6_count_220 hP hD hS
                                  · have h := (k_iB h).2 c38
                                    by_cases c40 : p1 = 17
                                    · have h := (k_iB h).1 c40
                                      refine lv_tableIn (off := 206) (tgt := 207) hx hb dX6_count_1 (by rw [c40]; decide) (by rw [c40]; decide) (by rw [c40]; rfl) (by decide) ?_
                                      refine lv_aload_n hx hb dX6_count_207 rfl (lv_at hl 0 rfl) ?_
                                      refine va_get (ci := 6) (C := RX6) (T := TX6) (N := 18) hx hb hts hiX6 hown hK hP 0 rfl rfl 0 (by decide) (hts (.fieldLink RX6 7 "RiddleTradeModel" "s" "[I") (List.mem_of_getElem? (i := 1) rfl)) (fun _ h9 => h9) rfl dX6_count_208 ?_
                                      refine lv_sipush (v := 479) hx hb dX6_count_211 (by decide) ?_
                                      refine lv_iload_n hx hb dX6_count_214 rfl (lv_at hl 1 rfl) ?_
                                      refine lv_iadd hx hb dX6_count_215 ?_
                                      refine lv_bipush (v := 14) hx hb dX6_count_216 (by decide) ?_
                                      refine lv_isub hx hb dX6_count_218 ?_
                                      refine k_iald hx hb hK hP 1 0 rfl rfl h dX6_count_219 (fun v41 h => ?_)
                                      obtain rfl := Option.some.inj h
                                      exact fin _ _ _ _ dX6_count_220 hP hD hS
                                    · have h := (k_iB h).2 c40
                                      by_cases c42 : p1 = 18
                                      · have h := (k_iB h).1 c42
                                        refine lv_tableIn (off := 220) (tgt := 221) hx hb dX6_count_1 (by rw [c42]; decide) (by rw [c42]; decide) (by rw [c42]; rfl) (by decide) ?_
                                        refine lv_aload_n hx hb dX6_count_221 rfl (lv_at hl 0 rfl) ?_
                                        refine va_get (ci := 6) (C := RX6) (T := TX6) (N := 18) hx hb hts hiX6 hown hK hP 0 rfl rfl 3 (by decide) (hts (.fieldLink RX6 30 "RiddleTradeModel" "pasts" "I") (List.mem_of_getElem? (i := 2) rfl)) (fun _ h9 => h9) rfl dX6_count_222 ?_
                                        obtain rfl := Option.some.inj h
                                        exact fin _ _ _ _ dX6_count_225 hP hD hS
                                      · have h := (k_iB h).2 c42
                                        by_cases c43 : p1 = 19
                                        · have h := (k_iB h).1 c43
                                          refine lv_tableIn (off := 225) (tgt := 226) hx hb dX6_count_1 (by rw [c43]; decide) (by rw [c43]; decide) (by rw [c43]; rfl) (by decide) ?_
                                          refine lv_aload_n hx hb dX6_count_226 rfl (lv_at hl 0 rfl) ?_
                                          refine va_get (ci := 6) (C := RX6) (T := TX6) (N := 18) hx hb hts hiX6 hown hK hP 0 rfl rfl 7 (by decide) (hts (.fieldLink RX6 108 "RiddleTradeModel" "length" "I") (List.mem_of_getElem? (i := 3) rfl)) (fun _ h9 => h9) rfl dX6_count_227 ?_
                                          obtain rfl := Option.some.inj h
                                          exact fin _ _ _ _ dX6_count_230 hP hD hS
                                        · have h := (k_iB h).2 c43
                                          refine lv_tableOut (tgt := 231) hx hb dX6_count_1 (by have zc2 := lv_neT c2 (show ((0 : Int32)).toInt = 0 from rfl); have zc4 := lv_neT c4 (show ((1 : Int32)).toInt = 1 from rfl); have zc6 := lv_neT c6 (show ((2 : Int32)).toInt = 2 from rfl); have zc9 := lv_neT c9 (show ((3 : Int32)).toInt = 3 from rfl); have zc11 := lv_neT c11 (show ((4 : Int32)).toInt = 4 from rfl); have zc13 := lv_neT c13 (show ((5 : Int32)).toInt = 5 from rfl); have zc16 := lv_neT c16 (show ((6 : Int32)).toInt = 6 from rfl); have zc19 := lv_neT c19 (show ((7 : Int32)).toInt = 7 from rfl); have zc21 := lv_neT c21 (show ((8 : Int32)).toInt = 8 from rfl); have zc23 := lv_neT c23 (show ((9 : Int32)).toInt = 9 from rfl); have zc25 := lv_neT c25 (show ((10 : Int32)).toInt = 10 from rfl); have zc28 := lv_neT c28 (show ((11 : Int32)).toInt = 11 from rfl); have zc30 := lv_neT c30 (show ((12 : Int32)).toInt = 12 from rfl); have zc32 := lv_neT c32 (show ((13 : Int32)).toInt = 13 from rfl); have zc34 := lv_neT c34 (show ((14 : Int32)).toInt = 14 from rfl); have zc36 := lv_neT c36 (show ((15 : Int32)).toInt = 15 from rfl); have zc38 := lv_neT c38 (show ((16 : Int32)).toInt = 16 from rfl); have zc40 := lv_neT c40 (show ((17 : Int32)).toInt = 17 from rfl); have zc42 := lv_neT c42 (show ((18 : Int32)).toInt = 18 from rfl); have zc43 := lv_neT c43 (show ((19 : Int32)).toInt = 19 from rfl); omega) (by decide) ?_
                                          refine lv_bipush (v := (-2)) hx hb dX6_count_231 (by decide) ?_
                                          obtain rfl := Option.some.inj h
                                          exact fin _ _ _ _ dX6_count_233 hP hD hS
