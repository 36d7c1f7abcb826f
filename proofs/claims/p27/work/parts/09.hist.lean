def d_X1_size (sze : Int32) : Int32 :=
    sze
set_option maxHeartbeats 4000000 in
set_option maxRecDepth 100000 in
theorem c_X1_size (l : Launch) (D : va_G) (cI cC cE : ClassId) (hh hr : Nat) (aH : Nat → Nat → Nat) (sz : Nat) (old : Int32) (sze : Int32) (r0 : Int32) (h : d_X1_size sze = r0) : Met l yX1_size wsX1_size ({ frames := 0, cells := 0, slots := 0, locals := 0 } : Room) (kP D (kT cI cC cE) [.ref hh] (fl [w_X1_stateAt cI cC cE hh hr aH old sze]) sz) (kQi D (kT cI cC cE) (fl [w_X1_stateAt cI cC cE hh hr aH old sze]) (fl [w_X1_stateAt cI cC cE hh hr aH old sze]) sz r0) 0 0 (va_A (fl [w_X1_stateAt cI cC cE hh hr aH old sze]) sz) := by
  refine kMetI (cc := cX1_size) (maxL := 1) (own := RX1) (by decide) rfl (Nat.le_of_ble_eq_true rfl) rfl ?_
  intro p e s m below meth c A Q hx hb hml hown hts hP hK hD hA hS hname fin ls hl
  have hl : lv_has ls 1 [(0, .ref hh)] := hl
  have hiX1 : ∀ w ∈ u_ws RX1 TX1 3, w ∈ wsX1_size := by decide +kernel
  dsimp only [d_X1_size] at h
  refine lv_aload_n hx hb dX1_size_0 rfl (lv_at hl 0 rfl) ?_
  refine va_get (ci := 1) (C := RX1) (T := TX1) (N := 3) hx hb hts hiX1 hown hK hP 0 rfl rfl 2 (by decide) (hts (.fieldLink RX1 18 "RiddleTrade$History" "size" "I") (List.mem_of_getElem? (i := 1) rfl)) (fun _ h9 => h9) rfl dX1_size_1 ?_
  obtain rfl := h
  exact fin _ _ _ _ dX1_size_4 hP hD hS
def j_X1_record_30 (N : Ex) (Hs : Nat → Ex) (old : Int32) (sze : Int32) : (Nat → Ex) × Int32 × Int32 :=
    if ((old + sze) - (old + sze) / 4 * 4) < 0 then ((Hs, old, sze))
    else (if ((old + sze) - (old + sze) / 4 * 4) = 0 then (((updE Hs 0 N), old, (sze + 1)))
    else (if ((old + sze) - (old + sze) / 4 * 4) = 1 then (((updE Hs 1 N), old, (sze + 1)))
    else (if ((old + sze) - (old + sze) / 4 * 4) = 2 then (((updE Hs 2 N), old, (sze + 1)))
    else (if ((old + sze) - (old + sze) / 4 * 4) = 3 then (((updE Hs 3 N), old, (sze + 1)))
    else ((Hs, old, sze))))))
def d_X1_record (N : Ex) (Hs : Nat → Ex) (old : Int32) (sze : Int32) : (Nat → Ex) × Int32 × Int32 :=
    if sze < 4 then (j_X1_record_30  N Hs old sze)
    else (j_X1_record_30  N Hs ((old + 1) - (old + 1) / 4 * 4) (sze - 1))
set_option maxHeartbeats 4000000 in
set_option maxRecDepth 100000 in
theorem c_X1_record (l : Launch) (D : va_G) (cI cC cE : ClassId) (hh hr : Nat) (aH : Nat → Nat → Nat) (aN : Nat → Nat) (sz : Nat) (N : Ex) (Hs : Nat → Ex) (old : Int32) (sze : Int32) (o_Hs : Nat → Ex) (o_old : Int32) (o_sze : Int32) (h : d_X1_record N Hs old sze = (o_Hs, o_old, o_sze)) : Met l yX1_record wsX1_record ({ frames := 3, cells := 0, slots := 0, locals := 68 } : Room) (kP D (kT cI cC cE) [.ref hh, .ref (aN 0)] (fl [w_X1_stateAt cI cC cE hh hr aH old sze, exW cI (aH 0) (Hs 0), exW cI (aH 1) (Hs 1), exW cI (aH 2) (Hs 2), exW cI (aH 3) (Hs 3), exW cI aN N]) sz) (kQv D (kT cI cC cE) (fl [w_X1_stateAt cI cC cE hh hr aH old sze, exW cI (aH 0) (Hs 0), exW cI (aH 1) (Hs 1), exW cI (aH 2) (Hs 2), exW cI (aH 3) (Hs 3), exW cI aN N]) (fl [w_X1_stateAt cI cC cE hh hr aH o_old o_sze, exW cI (aH 0) (o_Hs 0), exW cI (aH 1) (o_Hs 1), exW cI (aH 2) (o_Hs 2), exW cI (aH 3) (o_Hs 3), exW cI aN N]) sz) 0 0 (va_A (fl [w_X1_stateAt cI cC cE hh hr aH old sze, exW cI (aH 0) (Hs 0), exW cI (aH 1) (Hs 1), exW cI (aH 2) (Hs 2), exW cI (aH 3) (Hs 3), exW cI aN N]) sz) := by
  refine kMetV (cc := cX1_record) (maxL := 3) (own := RX1) (by decide) rfl (Nat.le_of_ble_eq_true rfl) rfl ?_
  intro p e s m below meth c A Q hx hb hml hown hts hP hK hD hA hS hname fin ls hl
  have hl : lv_has ls 3 [(0, .ref hh), (1, .ref (aN 0))] := hl
  have hiX1 : ∀ w ∈ u_ws RX1 TX1 3, w ∈ wsX1_record := by decide +kernel
  have hJ30 : ∀ (Hs : Nat → Ex) (old : Int32) (sze : Int32) (H : Heap) (locs : List Loc), va_P D vwCl (fl [w_X1_stateAt cI cC cE hh hr aH old sze, exW cI (aH 0) (Hs 0), exW cI (aH 1) (Hs 1), exW cI (aH 2) (Hs 2), exW cI (aH 3) (Hs 3), exW cI aN N]) H → va_D A (fl [w_X1_stateAt cI cC cE hh hr aH old sze, exW cI (aH 0) (Hs 0), exW cI (aH 1) (Hs 1), exW cI (aH 2) (Hs 2), exW cI (aH 3) (Hs 3), exW cI aN N]) → va_S A s.heap H locs → ∀ (ls : Array Slot), lv_has ls 3 [(0, .ref hh), (1, .ref (aN 0))] → j_X1_record_30  N Hs old sze = (o_Hs, o_old, o_sze) → W p l e ({ frames := 3, cells := 0, slots := 0, locals := 68 } : Room) s m [.ref hh, .ref (aN 0)].toArray below meth c H locs 0 0 Q (F0 m 30 ls []) := by
    intro Hs old sze H locs hP hD hS ls hl h
    dsimp only [j_X1_record_30] at h
    refine lv_aload_n hx hb dX1_record_30 rfl (lv_at hl 0 rfl) ?_
    refine lv_aload_n hx hb dX1_record_31 rfl (lv_at hl 0 rfl) ?_
    refine va_get (ci := 1) (C := RX1) (T := TX1) (N := 3) hx hb hts hiX1 hown hK hP 0 rfl rfl 2 (by decide) (hts (.fieldLink RX1 18 "RiddleTrade$History" "size" "I") (List.mem_of_getElem? (i := 1) rfl)) (fun _ h9 => h9) rfl dX1_record_32 ?_
    by_cases c2 : ((old + sze) - (old + sze) / 4 * 4) < 0
    · have h := (k_iB h).1 c2
      refine kbr (ci := 1) (q := (RX1, TX1, 3)) (bs := [w_X1_stateAt cI cC cE hh hr aH old sze, exW cI (aH 0) (Hs 0), exW cI (aH 1) (Hs 1), exW cI (aH 2) (Hs 2), exW cI (aH 3) (Hs 3), exW cI aN N]) (cs := [w_X1_stateAt cI cC cE hh hr aH old sze]) (cs' := [w_X1_stateAt cI cC cE hh hr aH old sze]) (bs1 := [w_X1_stateAt cI cC cE hh hr aH old sze, exW cI (aH 0) (Hs 0), exW cI (aH 1) (Hs 1), exW cI (aH 2) (Hs 2), exW cI (aH 3) (Hs 3), exW cI aN N]) ⟨hx, hb, hml, hown, hts⟩ [0] [1, 2, 3, 4, 5] (c_X1_stateAt l D cI cC cE hh hr aH _ old sze sze none (st_none (Or.inl c2))) (cwV 1 hts gX1_record_X1_stateAt rfl rfl rfl (by decide +kernel) ⟨Nat.le_of_ble_eq_true rfl, Nat.le_of_ble_eq_true rfl⟩) hK hP hD hS hA rfl rfl rfl rfl rfl rfl rfl rfl rfl hl.1 rfl (Nat.le_of_ble_eq_true rfl) dX1_record_35 ⟨Nat.le_refl 0, Nat.le_refl 0⟩ (fun H locs hP hD hS => ?_)
      show W p l e ({ frames := 3, cells := 0, slots := 0, locals := 68 } : Room) s m [.ref hh, .ref (aN 0)].toArray below meth c H locs 0 0 Q (F0 m 38 ls (.null :: []))
      refine lv_astore_nN (lv' := [(2, .null), (0, .ref hh), (1, .ref (aN 0))]) hx hb dX1_record_38 rfl hl (by decide) rfl (fun ls hl => ?_)
      refine lv_aload_nN hx hb dX1_record_39 rfl (lv_at hl 0 rfl) ?_
      refine lv_ifnullN (tgt := 58) hx hb dX1_record_40 (by decide) ?_
      obtain ⟨rfl, rfl, rfl⟩ := inj3 (h)
      exact fin _ _ _ _ dX1_record_58 hP hD hS
    · have h := (k_iB h).2 c2
      by_cases c3 : ((old + sze) - (old + sze) / 4 * 4) = 0
      · have h := (k_iB h).1 c3
        refine kbr (ci := 1) (q := (RX1, TX1, 3)) (bs := [w_X1_stateAt cI cC cE hh hr aH old sze, exW cI (aH 0) (Hs 0), exW cI (aH 1) (Hs 1), exW cI (aH 2) (Hs 2), exW cI (aH 3) (Hs 3), exW cI aN N]) (cs := [w_X1_stateAt cI cC cE hh hr aH old sze]) (cs' := [w_X1_stateAt cI cC cE hh hr aH old sze]) (bs1 := [w_X1_stateAt cI cC cE hh hr aH old sze, exW cI (aH 0) (Hs 0), exW cI (aH 1) (Hs 1), exW cI (aH 2) (Hs 2), exW cI (aH 3) (Hs 3), exW cI aN N]) ⟨hx, hb, hml, hown, hts⟩ [0] [1, 2, 3, 4, 5] (c_X1_stateAt l D cI cC cE hh hr aH _ old sze sze (some (aH 0 0)) (st_some c3 (by decide))) (cwV 1 hts gX1_record_X1_stateAt rfl rfl rfl (by decide +kernel) ⟨Nat.le_of_ble_eq_true rfl, Nat.le_of_ble_eq_true rfl⟩) hK hP hD hS hA rfl rfl rfl rfl rfl rfl rfl rfl rfl hl.1 rfl (Nat.le_of_ble_eq_true rfl) dX1_record_35 ⟨Nat.le_refl 0, Nat.le_refl 0⟩ (fun H locs hP hD hS => ?_)
        show W p l e ({ frames := 3, cells := 0, slots := 0, locals := 68 } : Room) s m [.ref hh, .ref (aN 0)].toArray below meth c H locs 0 0 Q (F0 m 38 ls (.ref (aH 0 0) :: []))
        refine lv_astore_n (lv' := [(2, .ref (aH 0 0)), (0, .ref hh), (1, .ref (aN 0))]) hx hb dX1_record_38 rfl hl (by decide) rfl (fun ls hl => ?_)
        refine lv_aload_n hx hb dX1_record_39 rfl (lv_at hl 0 rfl) ?_
        refine lv_ifnull hx hb dX1_record_40 ?_
        refine lv_aload_n hx hb dX1_record_43 rfl (lv_at hl 0 rfl) ?_
        refine lv_aload_n hx hb dX1_record_44 rfl (lv_at hl 2 rfl) ?_
        refine kbv (ci := 0) (q := (RX0, TX0, 7)) (bs := [w_X1_stateAt cI cC cE hh hr aH old sze, exW cI (aH 0) (Hs 0), exW cI (aH 1) (Hs 1), exW cI (aH 2) (Hs 2), exW cI (aH 3) (Hs 3), exW cI aN N]) (cs := [exW cI (aH 0) (Hs 0), exW cI aN N]) (cs' := [exW cI (aH 0) N, exW cI aN N]) (bs1 := [w_X1_stateAt cI cC cE hh hr aH old sze, exW cI (aH 0) N, exW cI (aH 1) (Hs 1), exW cI (aH 2) (Hs 2), exW cI (aH 3) (Hs 3), exW cI aN N]) ⟨hx, hb, hml, hown, hts⟩ [1, 5] [0, 2, 3, 4] (ce_X0_copyFrom l D cI cC cE (aH 0) aN _ (Hs 0) N ) (cwV 1 hts gX1_record_X0_copyFrom rfl rfl rfl (by decide +kernel) ⟨Nat.le_of_ble_eq_true rfl, Nat.le_of_ble_eq_true rfl⟩) hK hP hD hS hA rfl rfl rfl rfl rfl rfl rfl rfl rfl hl.1 rfl (Nat.le_of_ble_eq_true rfl) dX1_record_45 ⟨Nat.le_refl 0, Nat.le_refl 0⟩ (fun H locs hP hD hS => ?_)
        refine lv_aload_n hx hb dX1_record_48 rfl (lv_at hl 1 rfl) ?_
        refine lv_dup hx hb dX1_record_49 rfl ?_
        refine va_get (ci := 1) (C := RX1) (T := TX1) (N := 3) hx hb hts hiX1 hown hK hP 0 rfl rfl 2 (by decide) (hts (.fieldLink RX1 18 "RiddleTrade$History" "size" "I") (List.mem_of_getElem? (i := 1) rfl)) (fun _ h9 => h9) rfl dX1_record_50 ?_
        refine lv_iconst (v := 1) hx hb dX1_record_53 (by decide) ?_
        refine lv_iadd hx hb dX1_record_54 ?_
        refine va_put (ci := 1) (ty := .int) (C := RX1) (T := TX1) (N := 3) hx hb hts hiX1 tyX1 tyX1_ok nmX1 hown hK hP hD hS 0 rfl rfl 2 (by decide) (hts (.fieldLink RX1 18 "RiddleTrade$History" "size" "I") (List.mem_of_getElem? (i := 1) rfl)) (fun _ h9 => h9) rfl (by decide +kernel) rfl rfl (Nat.le_of_ble_eq_true rfl) dX1_record_55 (fun H locs hP hD hS => ?_)
        have hP : va_P D vwCl (fl [w_X1_stateAt cI cC cE hh hr aH old (sze + 1), exW cI (aH 0) N, exW cI (aH 1) (Hs 1), exW cI (aH 2) (Hs 2), exW cI (aH 3) (Hs 3), exW cI aN N]) H := hP
        have hD : va_D A (fl [w_X1_stateAt cI cC cE hh hr aH old (sze + 1), exW cI (aH 0) N, exW cI (aH 1) (Hs 1), exW cI (aH 2) (Hs 2), exW cI (aH 3) (Hs 3), exW cI aN N]) := hD
        obtain ⟨rfl, rfl, rfl⟩ := inj3 (h)
        exact fin _ _ _ _ dX1_record_58 hP hD hS
      · have h := (k_iB h).2 c3
        by_cases c4 : ((old + sze) - (old + sze) / 4 * 4) = 1
        · have h := (k_iB h).1 c4
          refine kbr (ci := 1) (q := (RX1, TX1, 3)) (bs := [w_X1_stateAt cI cC cE hh hr aH old sze, exW cI (aH 0) (Hs 0), exW cI (aH 1) (Hs 1), exW cI (aH 2) (Hs 2), exW cI (aH 3) (Hs 3), exW cI aN N]) (cs := [w_X1_stateAt cI cC cE hh hr aH old sze]) (cs' := [w_X1_stateAt cI cC cE hh hr aH old sze]) (bs1 := [w_X1_stateAt cI cC cE hh hr aH old sze, exW cI (aH 0) (Hs 0), exW cI (aH 1) (Hs 1), exW cI (aH 2) (Hs 2), exW cI (aH 3) (Hs 3), exW cI aN N]) ⟨hx, hb, hml, hown, hts⟩ [0] [1, 2, 3, 4, 5] (c_X1_stateAt l D cI cC cE hh hr aH _ old sze sze (some (aH 1 0)) (st_some c4 (by decide))) (cwV 1 hts gX1_record_X1_stateAt rfl rfl rfl (by decide +kernel) ⟨Nat.le_of_ble_eq_true rfl, Nat.le_of_ble_eq_true rfl⟩) hK hP hD hS hA rfl rfl rfl rfl rfl rfl rfl rfl rfl hl.1 rfl (Nat.le_of_ble_eq_true rfl) dX1_record_35 ⟨Nat.le_refl 0, Nat.le_refl 0⟩ (fun H locs hP hD hS => ?_)
          show W p l e ({ frames := 3, cells := 0, slots := 0, locals := 68 } : Room) s m [.ref hh, .ref (aN 0)].toArray below meth c H locs 0 0 Q (F0 m 38 ls (.ref (aH 1 0) :: []))
          refine lv_astore_n (lv' := [(2, .ref (aH 1 0)), (0, .ref hh), (1, .ref (aN 0))]) hx hb dX1_record_38 rfl hl (by decide) rfl (fun ls hl => ?_)
          refine lv_aload_n hx hb dX1_record_39 rfl (lv_at hl 0 rfl) ?_
          refine lv_ifnull hx hb dX1_record_40 ?_
          refine lv_aload_n hx hb dX1_record_43 rfl (lv_at hl 0 rfl) ?_
          refine lv_aload_n hx hb dX1_record_44 rfl (lv_at hl 2 rfl) ?_
          refine kbv (ci := 0) (q := (RX0, TX0, 7)) (bs := [w_X1_stateAt cI cC cE hh hr aH old sze, exW cI (aH 0) (Hs 0), exW cI (aH 1) (Hs 1), exW cI (aH 2) (Hs 2), exW cI (aH 3) (Hs 3), exW cI aN N]) (cs := [exW cI (aH 1) (Hs 1), exW cI aN N]) (cs' := [exW cI (aH 1) N, exW cI aN N]) (bs1 := [w_X1_stateAt cI cC cE hh hr aH old sze, exW cI (aH 0) (Hs 0), exW cI (aH 1) N, exW cI (aH 2) (Hs 2), exW cI (aH 3) (Hs 3), exW cI aN N]) ⟨hx, hb, hml, hown, hts⟩ [2, 5] [0, 1, 3, 4] (ce_X0_copyFrom l D cI cC cE (aH 1) aN _ (Hs 1) N ) (cwV 1 hts gX1_record_X0_copyFrom rfl rfl rfl (by decide +kernel) ⟨Nat.le_of_ble_eq_true rfl, Nat.le_of_ble_eq_true rfl⟩) hK hP hD hS hA rfl rfl rfl rfl rfl rfl rfl rfl rfl hl.1 rfl (Nat.le_of_ble_eq_true rfl) dX1_record_45 ⟨Nat.le_refl 0, Nat.le_refl 0⟩ (fun H locs hP hD hS => ?_)
          refine lv_aload_n hx hb dX1_record_48 rfl (lv_at hl 1 rfl) ?_
          refine lv_dup hx hb dX1_record_49 rfl ?_
          refine va_get (ci := 1) (C := RX1) (T := TX1) (N := 3) hx hb hts hiX1 hown hK hP 0 rfl rfl 2 (by decide) (hts (.fieldLink RX1 18 "RiddleTrade$History" "size" "I") (List.mem_of_getElem? (i := 1) rfl)) (fun _ h9 => h9) rfl dX1_record_50 ?_
          refine lv_iconst (v := 1) hx hb dX1_record_53 (by decide) ?_
          refine lv_iadd hx hb dX1_record_54 ?_
          refine va_put (ci := 1) (ty := .int) (C := RX1) (T := TX1) (N := 3) hx hb hts hiX1 tyX1 tyX1_ok nmX1 hown hK hP hD hS 0 rfl rfl 2 (by decide) (hts (.fieldLink RX1 18 "RiddleTrade$History" "size" "I") (List.mem_of_getElem? (i := 1) rfl)) (fun _ h9 => h9) rfl (by decide +kernel) rfl rfl (Nat.le_of_ble_eq_true rfl) dX1_record_55 (fun H locs hP hD hS => ?_)
          have hP : va_P D vwCl (fl [w_X1_stateAt cI cC cE hh hr aH old (sze + 1), exW cI (aH 0) (Hs 0), exW cI (aH 1) N, exW cI (aH 2) (Hs 2), exW cI (aH 3) (Hs 3), exW cI aN N]) H := hP
          have hD : va_D A (fl [w_X1_stateAt cI cC cE hh hr aH old (sze + 1), exW cI (aH 0) (Hs 0), exW cI (aH 1) N, exW cI (aH 2) (Hs 2), exW cI (aH 3) (Hs 3), exW cI aN N]) := hD
          obtain ⟨rfl, rfl, rfl⟩ := inj3 (h)
          exact fin _ _ _ _ dX1_record_58 hP hD hS
        · have h := (k_iB h).2 c4
          by_cases c5 : ((old + sze) - (old + sze) / 4 * 4) = 2
          · have h := (k_iB h).1 c5
            refine kbr (ci := 1) (q := (RX1, TX1, 3)) (bs := [w_X1_stateAt cI cC cE hh hr aH old sze, exW cI (aH 0) (Hs 0), exW cI (aH 1) (Hs 1), exW cI (aH 2) (Hs 2), exW cI (aH 3) (Hs 3), exW cI aN N]) (cs := [w_X1_stateAt cI cC cE hh hr aH old sze]) (cs' := [w_X1_stateAt cI cC cE hh hr aH old sze]) (bs1 := [w_X1_stateAt cI cC cE hh hr aH old sze, exW cI (aH 0) (Hs 0), exW cI (aH 1) (Hs 1), exW cI (aH 2) (Hs 2), exW cI (aH 3) (Hs 3), exW cI aN N]) ⟨hx, hb, hml, hown, hts⟩ [0] [1, 2, 3, 4, 5] (c_X1_stateAt l D cI cC cE hh hr aH _ old sze sze (some (aH 2 0)) (st_some c5 (by decide))) (cwV 1 hts gX1_record_X1_stateAt rfl rfl rfl (by decide +kernel) ⟨Nat.le_of_ble_eq_true rfl, Nat.le_of_ble_eq_true rfl⟩) hK hP hD hS hA rfl rfl rfl rfl rfl rfl rfl rfl rfl hl.1 rfl (Nat.le_of_ble_eq_true rfl) dX1_record_35 ⟨Nat.le_refl 0, Nat.le_refl 0⟩ (fun H locs hP hD hS => ?_)
            show W p l e ({ frames := 3, cells := 0, slots := 0, locals := 68 } : Room) s m [.ref hh, .ref (aN 0)].toArray below meth c H locs 0 0 Q (F0 m 38 ls (.ref (aH 2 0) :: []))
            refine lv_astore_n (lv' := [(2, .ref (aH 2 0)), (0, .ref hh), (1, .ref (aN 0))]) hx hb dX1_record_38 rfl hl (by decide) rfl (fun ls hl => ?_)
            refine lv_aload_n hx hb dX1_record_39 rfl (lv_at hl 0 rfl) ?_
            refine lv_ifnull hx hb dX1_record_40 ?_
            refine lv_aload_n hx hb dX1_record_43 rfl (lv_at hl 0 rfl) ?_
            refine lv_aload_n hx hb dX1_record_44 rfl (lv_at hl 2 rfl) ?_
            refine kbv (ci := 0) (q := (RX0, TX0, 7)) (bs := [w_X1_stateAt cI cC cE hh hr aH old sze, exW cI (aH 0) (Hs 0), exW cI (aH 1) (Hs 1), exW cI (aH 2) (Hs 2), exW cI (aH 3) (Hs 3), exW cI aN N]) (cs := [exW cI (aH 2) (Hs 2), exW cI aN N]) (cs' := [exW cI (aH 2) N, exW cI aN N]) (bs1 := [w_X1_stateAt cI cC cE hh hr aH old sze, exW cI (aH 0) (Hs 0), exW cI (aH 1) (Hs 1), exW cI (aH 2) N, exW cI (aH 3) (Hs 3), exW cI aN N]) ⟨hx, hb, hml, hown, hts⟩ [3, 5] [0, 1, 2, 4] (ce_X0_copyFrom l D cI cC cE (aH 2) aN _ (Hs 2) N ) (cwV 1 hts gX1_record_X0_copyFrom rfl rfl rfl (by decide +kernel) ⟨Nat.le_of_ble_eq_true rfl, Nat.le_of_ble_eq_true rfl⟩) hK hP hD hS hA rfl rfl rfl rfl rfl rfl rfl rfl rfl hl.1 rfl (Nat.le_of_ble_eq_true rfl) dX1_record_45 ⟨Nat.le_refl 0, Nat.le_refl 0⟩ (fun H locs hP hD hS => ?_)
            refine lv_aload_n hx hb dX1_record_48 rfl (lv_at hl 1 rfl) ?_
            refine lv_dup hx hb dX1_record_49 rfl ?_
            refine va_get (ci := 1) (C := RX1) (T := TX1) (N := 3) hx hb hts hiX1 hown hK hP 0 rfl rfl 2 (by decide) (hts (.fieldLink RX1 18 "RiddleTrade$History" "size" "I") (List.mem_of_getElem? (i := 1) rfl)) (fun _ h9 => h9) rfl dX1_record_50 ?_
            refine lv_iconst (v := 1) hx hb dX1_record_53 (by decide) ?_
            refine lv_iadd hx hb dX1_record_54 ?_
            refine va_put (ci := 1) (ty := .int) (C := RX1) (T := TX1) (N := 3) hx hb hts hiX1 tyX1 tyX1_ok nmX1 hown hK hP hD hS 0 rfl rfl 2 (by decide) (hts (.fieldLink RX1 18 "RiddleTrade$History" "size" "I") (List.mem_of_getElem? (i := 1) rfl)) (fun _ h9 => h9) rfl (by decide +kernel) rfl rfl (Nat.le_of_ble_eq_true rfl) dX1_record_55 (fun H locs hP hD hS => ?_)
            have hP : va_P D vwCl (fl [w_X1_stateAt cI cC cE hh hr aH old (sze + 1), exW cI (aH 0) (Hs 0), exW cI (aH 1) (Hs 1), exW cI (aH 2) N, exW cI (aH 3) (Hs 3), exW cI aN N]) H := hP
            have hD : va_D A (fl [w_X1_stateAt cI cC cE hh hr aH old (sze + 1), exW cI (aH 0) (Hs 0), exW cI (aH 1) (Hs 1), exW cI (aH 2) N, exW cI (aH 3) (Hs 3), exW cI aN N]) := hD
            obtain ⟨rfl, rfl, rfl⟩ := inj3 (h)
            exact fin _ _ _ _ dX1_record_58 hP hD hS
          · have h := (k_iB h).2 c5
            by_cases c6 : ((old + sze) - (old + sze) / 4 * 4) = 3
            · have h := (k_iB h).1 c6
              refine kbr (ci := 1) (q := (RX1, TX1, 3)) (bs := [w_X1_stateAt cI cC cE hh hr aH old sze, exW cI (aH 0) (Hs 0), exW cI (aH 1) (Hs 1), exW cI (aH 2) (Hs 2), exW cI (aH 3) (Hs 3), exW cI aN N]) (cs := [w_X1_stateAt cI cC cE hh hr aH old sze]) (cs' := [w_X1_stateAt cI cC cE hh hr aH old sze]) (bs1 := [w_X1_stateAt cI cC cE hh hr aH old sze, exW cI (aH 0) (Hs 0), exW cI (aH 1) (Hs 1), exW cI (aH 2) (Hs 2), exW cI (aH 3) (Hs 3), exW cI aN N]) ⟨hx, hb, hml, hown, hts⟩ [0] [1, 2, 3, 4, 5] (c_X1_stateAt l D cI cC cE hh hr aH _ old sze sze (some (aH 3 0)) (st_some c6 (by decide))) (cwV 1 hts gX1_record_X1_stateAt rfl rfl rfl (by decide +kernel) ⟨Nat.le_of_ble_eq_true rfl, Nat.le_of_ble_eq_true rfl⟩) hK hP hD hS hA rfl rfl rfl rfl rfl rfl rfl rfl rfl hl.1 rfl (Nat.le_of_ble_eq_true rfl) dX1_record_35 ⟨Nat.le_refl 0, Nat.le_refl 0⟩ (fun H locs hP hD hS => ?_)
              show W p l e ({ frames := 3, cells := 0, slots := 0, locals := 68 } : Room) s m [.ref hh, .ref (aN 0)].toArray below meth c H locs 0 0 Q (F0 m 38 ls (.ref (aH 3 0) :: []))
              refine lv_astore_n (lv' := [(2, .ref (aH 3 0)), (0, .ref hh), (1, .ref (aN 0))]) hx hb dX1_record_38 rfl hl (by decide) rfl (fun ls hl => ?_)
              refine lv_aload_n hx hb dX1_record_39 rfl (lv_at hl 0 rfl) ?_
              refine lv_ifnull hx hb dX1_record_40 ?_
              refine lv_aload_n hx hb dX1_record_43 rfl (lv_at hl 0 rfl) ?_
              refine lv_aload_n hx hb dX1_record_44 rfl (lv_at hl 2 rfl) ?_
              refine kbv (ci := 0) (q := (RX0, TX0, 7)) (bs := [w_X1_stateAt cI cC cE hh hr aH old sze, exW cI (aH 0) (Hs 0), exW cI (aH 1) (Hs 1), exW cI (aH 2) (Hs 2), exW cI (aH 3) (Hs 3), exW cI aN N]) (cs := [exW cI (aH 3) (Hs 3), exW cI aN N]) (cs' := [exW cI (aH 3) N, exW cI aN N]) (bs1 := [w_X1_stateAt cI cC cE hh hr aH old sze, exW cI (aH 0) (Hs 0), exW cI (aH 1) (Hs 1), exW cI (aH 2) (Hs 2), exW cI (aH 3) N, exW cI aN N]) ⟨hx, hb, hml, hown, hts⟩ [4, 5] [0, 1, 2, 3] (ce_X0_copyFrom l D cI cC cE (aH 3) aN _ (Hs 3) N ) (cwV 1 hts gX1_record_X0_copyFrom rfl rfl rfl (by decide +kernel) ⟨Nat.le_of_ble_eq_true rfl, Nat.le_of_ble_eq_true rfl⟩) hK hP hD hS hA rfl rfl rfl rfl rfl rfl rfl rfl rfl hl.1 rfl (Nat.le_of_ble_eq_true rfl) dX1_record_45 ⟨Nat.le_refl 0, Nat.le_refl 0⟩ (fun H locs hP hD hS => ?_)
              refine lv_aload_n hx hb dX1_record_48 rfl (lv_at hl 1 rfl) ?_
              refine lv_dup hx hb dX1_record_49 rfl ?_
              refine va_get (ci := 1) (C := RX1) (T := TX1) (N := 3) hx hb hts hiX1 hown hK hP 0 rfl rfl 2 (by decide) (hts (.fieldLink RX1 18 "RiddleTrade$History" "size" "I") (List.mem_of_getElem? (i := 1) rfl)) (fun _ h9 => h9) rfl dX1_record_50 ?_
              refine lv_iconst (v := 1) hx hb dX1_record_53 (by decide) ?_
              refine lv_iadd hx hb dX1_record_54 ?_
              refine va_put (ci := 1) (ty := .int) (C := RX1) (T := TX1) (N := 3) hx hb hts hiX1 tyX1 tyX1_ok nmX1 hown hK hP hD hS 0 rfl rfl 2 (by decide) (hts (.fieldLink RX1 18 "RiddleTrade$History" "size" "I") (List.mem_of_getElem? (i := 1) rfl)) (fun _ h9 => h9) rfl (by decide +kernel) rfl rfl (Nat.le_of_ble_eq_true rfl) dX1_record_55 (fun H locs hP hD hS => ?_)
              have hP : va_P D vwCl (fl [w_X1_stateAt cI cC cE hh hr aH old (sze + 1), exW cI (aH 0) (Hs 0), exW cI (aH 1) (Hs 1), exW cI (aH 2) (Hs 2), exW cI (aH 3) N, exW cI aN N]) H := hP
              have hD : va_D A (fl [w_X1_stateAt cI cC cE hh hr aH old (sze + 1), exW cI (aH 0) (Hs 0), exW cI (aH 1) (Hs 1), exW cI (aH 2) (Hs 2), exW cI (aH 3) N, exW cI aN N]) := hD
              obtain ⟨rfl, rfl, rfl⟩ := inj3 (h)
              exact fin _ _ _ _ dX1_record_58 hP hD hS
            · have h := (k_iB h).2 c6
              refine kbr (ci := 1) (q := (RX1, TX1, 3)) (bs := [w_X1_stateAt cI cC cE hh hr aH old sze, exW cI (aH 0) (Hs 0), exW cI (aH 1) (Hs 1), exW cI (aH 2) (Hs 2), exW cI (aH 3) (Hs 3), exW cI aN N]) (cs := [w_X1_stateAt cI cC cE hh hr aH old sze]) (cs' := [w_X1_stateAt cI cC cE hh hr aH old sze]) (bs1 := [w_X1_stateAt cI cC cE hh hr aH old sze, exW cI (aH 0) (Hs 0), exW cI (aH 1) (Hs 1), exW cI (aH 2) (Hs 2), exW cI (aH 3) (Hs 3), exW cI aN N]) ⟨hx, hb, hml, hown, hts⟩ [0] [1, 2, 3, 4, 5] (c_X1_stateAt l D cI cC cE hh hr aH _ old sze sze none (st_none (Or.inr (st_big c2 c3 c4 c5 c6)))) (cwV 1 hts gX1_record_X1_stateAt rfl rfl rfl (by decide +kernel) ⟨Nat.le_of_ble_eq_true rfl, Nat.le_of_ble_eq_true rfl⟩) hK hP hD hS hA rfl rfl rfl rfl rfl rfl rfl rfl rfl hl.1 rfl (Nat.le_of_ble_eq_true rfl) dX1_record_35 ⟨Nat.le_refl 0, Nat.le_refl 0⟩ (fun H locs hP hD hS => ?_)
              show W p l e ({ frames := 3, cells := 0, slots := 0, locals := 68 } : Room) s m [.ref hh, .ref (aN 0)].toArray below meth c H locs 0 0 Q (F0 m 38 ls (.null :: []))
              refine lv_astore_nN (lv' := [(2, .null), (0, .ref hh), (1, .ref (aN 0))]) hx hb dX1_record_38 rfl hl (by decide) rfl (fun ls hl => ?_)
              refine lv_aload_nN hx hb dX1_record_39 rfl (lv_at hl 0 rfl) ?_
              refine lv_ifnullN (tgt := 58) hx hb dX1_record_40 (by decide) ?_
              obtain ⟨rfl, rfl, rfl⟩ := inj3 (h)
              exact fin _ _ _ _ dX1_record_58 hP hD hS
  dsimp only [d_X1_record] at h
  refine lv_aload_n hx hb dX1_record_0 rfl (lv_at hl 0 rfl) ?_
  refine va_get (ci := 1) (C := RX1) (T := TX1) (N := 3) hx hb hts hiX1 hown hK hP 0 rfl rfl 2 (by decide) (hts (.fieldLink RX1 18 "RiddleTrade$History" "size" "I") (List.mem_of_getElem? (i := 1) rfl)) (fun _ h9 => h9) rfl dX1_record_1 ?_
  refine lv_iconst (v := 4) hx hb dX1_record_4 (by decide) ?_
  refine lv_icmp_lt (tgt := 30) hx hb dX1_record_5 (by decide) (fun c1 => ?_) (fun c1 => ?_)
  · have h := (k_iB h).1 c1
    exact hJ30   Hs old sze _ _ hP hD hS _ (lv_sub hl [0, 1] rfl) h
  · have h := (k_iB h).2 c1
    refine lv_aload_n hx hb dX1_record_8 rfl (lv_at hl 0 rfl) ?_
    refine lv_aload_n hx hb dX1_record_9 rfl (lv_at hl 0 rfl) ?_
    refine va_get (ci := 1) (C := RX1) (T := TX1) (N := 3) hx hb hts hiX1 hown hK hP 0 rfl rfl 1 (by decide) (hts (.fieldLink RX1 22 "RiddleTrade$History" "oldest" "I") (List.mem_of_getElem? (i := 2) rfl)) (fun _ h9 => h9) rfl dX1_record_10 ?_
    refine lv_iconst (v := 1) hx hb dX1_record_13 (by decide) ?_
    refine lv_iadd hx hb dX1_record_14 ?_
    refine lv_iconst (v := 4) hx hb dX1_record_15 (by decide) ?_
    refine lv_irem hx hb dX1_record_16 (by decide) ?_
    refine va_put (ci := 1) (ty := .int) (C := RX1) (T := TX1) (N := 3) hx hb hts hiX1 tyX1 tyX1_ok nmX1 hown hK hP hD hS 0 rfl rfl 1 (by decide) (hts (.fieldLink RX1 22 "RiddleTrade$History" "oldest" "I") (List.mem_of_getElem? (i := 2) rfl)) (fun _ h9 => h9) rfl (by decide +kernel) rfl rfl (Nat.le_of_ble_eq_true rfl) dX1_record_17 (fun H locs hP hD hS => ?_)
    have hP : va_P D vwCl (fl [w_X1_stateAt cI cC cE hh hr aH ((old + 1) - (old + 1) / 4 * 4) sze, exW cI (aH 0) (Hs 0), exW cI (aH 1) (Hs 1), exW cI (aH 2) (Hs 2), exW cI (aH 3) (Hs 3), exW cI aN N]) H := hP
    have hD : va_D A (fl [w_X1_stateAt cI cC cE hh hr aH ((old + 1) - (old + 1) / 4 * 4) sze, exW cI (aH 0) (Hs 0), exW cI (aH 1) (Hs 1), exW cI (aH 2) (Hs 2), exW cI (aH 3) (Hs 3), exW cI aN N]) := hD
    refine lv_aload_n hx hb dX1_record_20 rfl (lv_at hl 0 rfl) ?_
    refine lv_dup hx hb dX1_record_21 rfl ?_
    refine va_get (ci := 1) (C := RX1) (T := TX1) (N := 3) hx hb hts hiX1 hown hK hP 0 rfl rfl 2 (by decide) (hts (.fieldLink RX1 18 "RiddleTrade$History" "size" "I") (List.mem_of_getElem? (i := 1) rfl)) (fun _ h9 => h9) rfl dX1_record_22 ?_
    refine lv_iconst (v := 1) hx hb dX1_record_25 (by decide) ?_
    refine lv_isub hx hb dX1_record_26 ?_
    refine va_put (ci := 1) (ty := .int) (C := RX1) (T := TX1) (N := 3) hx hb hts hiX1 tyX1 tyX1_ok nmX1 hown hK hP hD hS 0 rfl rfl 2 (by decide) (hts (.fieldLink RX1 18 "RiddleTrade$History" "size" "I") (List.mem_of_getElem? (i := 1) rfl)) (fun _ h9 => h9) rfl (by decide +kernel) rfl rfl (Nat.le_of_ble_eq_true rfl) dX1_record_27 (fun H locs hP hD hS => ?_)
    have hP : va_P D vwCl (fl [w_X1_stateAt cI cC cE hh hr aH ((old + 1) - (old + 1) / 4 * 4) (sze - 1), exW cI (aH 0) (Hs 0), exW cI (aH 1) (Hs 1), exW cI (aH 2) (Hs 2), exW cI (aH 3) (Hs 3), exW cI aN N]) H := hP
    have hD : va_D A (fl [w_X1_stateAt cI cC cE hh hr aH ((old + 1) - (old + 1) / 4 * 4) (sze - 1), exW cI (aH 0) (Hs 0), exW cI (aH 1) (Hs 1), exW cI (aH 2) (Hs 2), exW cI (aH 3) (Hs 3), exW cI aN N]) := hD
    exact hJ30   Hs ((old + 1) - (old + 1) / 4 * 4) (sze - 1) _ _ hP hD hS _ (lv_sub hl [0, 1] rfl) h
def d_X1_takeBackInto (N : Ex) (Hs : Nat → Ex) (old : Int32) (sze : Int32) : Int32 × Ex × Int32 :=
    if ((old + (sze - 1)) - (old + (sze - 1)) / 4 * 4) < 0 then (if sze ≤ 0 then (((-5), N, sze))
    else (((-5), N, sze)))
    else (if ((old + (sze - 1)) - (old + (sze - 1)) / 4 * 4) = 0 then (if sze ≤ 0 then (((-5), N, sze))
    else (((sze - 1), (Hs 0), (sze - 1))))
    else (if ((old + (sze - 1)) - (old + (sze - 1)) / 4 * 4) = 1 then (if sze ≤ 0 then (((-5), N, sze))
    else (((sze - 1), (Hs 1), (sze - 1))))
    else (if ((old + (sze - 1)) - (old + (sze - 1)) / 4 * 4) = 2 then (if sze ≤ 0 then (((-5), N, sze))
    else (((sze - 1), (Hs 2), (sze - 1))))
    else (if ((old + (sze - 1)) - (old + (sze - 1)) / 4 * 4) = 3 then (if sze ≤ 0 then (((-5), N, sze))
    else (((sze - 1), (Hs 3), (sze - 1))))
    else (if sze ≤ 0 then (((-5), N, sze))
    else (((-5), N, sze)))))))
set_option maxHeartbeats 4000000 in
set_option maxRecDepth 100000 in
theorem c_X1_takeBackInto (l : Launch) (D : va_G) (cI cC cE : ClassId) (hh hr : Nat) (aH : Nat → Nat → Nat) (aN : Nat → Nat) (sz : Nat) (N : Ex) (Hs : Nat → Ex) (old : Int32) (sze : Int32) (r0 : Int32) (o_N : Ex) (o_sze : Int32) (h : d_X1_takeBackInto N Hs old sze = (r0, o_N, o_sze)) : Met l yX1_takeBackInto wsX1_takeBackInto ({ frames := 3, cells := 0, slots := 0, locals := 68 } : Room) (kP D (kT cI cC cE) [.ref hh, .ref (aN 0)] (fl [w_X1_stateAt cI cC cE hh hr aH old sze, exW cI (aH 0) (Hs 0), exW cI (aH 1) (Hs 1), exW cI (aH 2) (Hs 2), exW cI (aH 3) (Hs 3), exW cI aN N]) sz) (kQi D (kT cI cC cE) (fl [w_X1_stateAt cI cC cE hh hr aH old sze, exW cI (aH 0) (Hs 0), exW cI (aH 1) (Hs 1), exW cI (aH 2) (Hs 2), exW cI (aH 3) (Hs 3), exW cI aN N]) (fl [w_X1_stateAt cI cC cE hh hr aH old o_sze, exW cI (aH 0) (Hs 0), exW cI (aH 1) (Hs 1), exW cI (aH 2) (Hs 2), exW cI (aH 3) (Hs 3), exW cI aN o_N]) sz r0) 0 0 (va_A (fl [w_X1_stateAt cI cC cE hh hr aH old sze, exW cI (aH 0) (Hs 0), exW cI (aH 1) (Hs 1), exW cI (aH 2) (Hs 2), exW cI (aH 3) (Hs 3), exW cI aN N]) sz) := by
  refine kMetI (cc := cX1_takeBackInto) (maxL := 3) (own := RX1) (by decide) rfl (Nat.le_of_ble_eq_true rfl) rfl ?_
  intro p e s m below meth c A Q hx hb hml hown hts hP hK hD hA hS hname fin ls hl
  have hl : lv_has ls 3 [(0, .ref hh), (1, .ref (aN 0))] := hl
  have hiX1 : ∀ w ∈ u_ws RX1 TX1 3, w ∈ wsX1_takeBackInto := by decide +kernel
  dsimp only [d_X1_takeBackInto] at h
  refine lv_aload_n hx hb dX1_takeBackInto_0 rfl (lv_at hl 0 rfl) ?_
  refine lv_aload_n hx hb dX1_takeBackInto_1 rfl (lv_at hl 0 rfl) ?_
  refine va_get (ci := 1) (C := RX1) (T := TX1) (N := 3) hx hb hts hiX1 hown hK hP 0 rfl rfl 2 (by decide) (hts (.fieldLink RX1 18 "RiddleTrade$History" "size" "I") (List.mem_of_getElem? (i := 1) rfl)) (fun _ h9 => h9) rfl dX1_takeBackInto_2 ?_
  refine lv_iconst (v := 1) hx hb dX1_takeBackInto_5 (by decide) ?_
  refine lv_isub hx hb dX1_takeBackInto_6 ?_
  by_cases c1 : ((old + (sze - 1)) - (old + (sze - 1)) / 4 * 4) < 0
  · have h := (k_iB h).1 c1
    refine kbr (ci := 1) (q := (RX1, TX1, 3)) (bs := [w_X1_stateAt cI cC cE hh hr aH old sze, exW cI (aH 0) (Hs 0), exW cI (aH 1) (Hs 1), exW cI (aH 2) (Hs 2), exW cI (aH 3) (Hs 3), exW cI aN N]) (cs := [w_X1_stateAt cI cC cE hh hr aH old sze]) (cs' := [w_X1_stateAt cI cC cE hh hr aH old sze]) (bs1 := [w_X1_stateAt cI cC cE hh hr aH old sze, exW cI (aH 0) (Hs 0), exW cI (aH 1) (Hs 1), exW cI (aH 2) (Hs 2), exW cI (aH 3) (Hs 3), exW cI aN N]) ⟨hx, hb, hml, hown, hts⟩ [0] [1, 2, 3, 4, 5] (c_X1_stateAt l D cI cC cE hh hr aH _ old sze (sze - 1) none (st_none (Or.inl c1))) (cwV 1 hts gX1_takeBackInto_X1_stateAt rfl rfl rfl (by decide +kernel) ⟨Nat.le_of_ble_eq_true rfl, Nat.le_of_ble_eq_true rfl⟩) hK hP hD hS hA rfl rfl rfl rfl rfl rfl rfl rfl rfl hl.1 rfl (Nat.le_of_ble_eq_true rfl) dX1_takeBackInto_7 ⟨Nat.le_refl 0, Nat.le_refl 0⟩ (fun H locs hP hD hS => ?_)
    show W p l e ({ frames := 3, cells := 0, slots := 0, locals := 68 } : Room) s m [.ref hh, .ref (aN 0)].toArray below meth c H locs 0 0 Q (F0 m 10 ls (.null :: []))
    refine lv_astore_nN (lv' := [(2, .null), (0, .ref hh), (1, .ref (aN 0))]) hx hb dX1_takeBackInto_10 rfl hl (by decide) rfl (fun ls hl => ?_)
    refine lv_aload_n hx hb dX1_takeBackInto_11 rfl (lv_at hl 1 rfl) ?_
    refine va_get (ci := 1) (C := RX1) (T := TX1) (N := 3) hx hb hts hiX1 hown hK hP 0 rfl rfl 2 (by decide) (hts (.fieldLink RX1 18 "RiddleTrade$History" "size" "I") (List.mem_of_getElem? (i := 1) rfl)) (fun _ h9 => h9) rfl dX1_takeBackInto_12 ?_
    refine lv_if_le (tgt := 22) hx hb dX1_takeBackInto_15 (by decide) (fun c2 => ?_) (fun c2 => ?_)
    · have h := (k_iB h).1 c2
      refine lv_bipush (v := (-5)) hx hb dX1_takeBackInto_22 (by decide) ?_
      obtain ⟨rfl, rfl, rfl⟩ := inj3 (h)
      exact fin _ _ _ _ dX1_takeBackInto_24 hP hD hS
    · have h := (k_iB h).2 c2
      refine lv_aload_nN hx hb dX1_takeBackInto_18 rfl (lv_at hl 0 rfl) ?_
      refine lv_ifnonnullN hx hb dX1_takeBackInto_19 ?_
      refine lv_bipush (v := (-5)) hx hb dX1_takeBackInto_22 (by decide) ?_
      obtain ⟨rfl, rfl, rfl⟩ := inj3 (h)
      exact fin _ _ _ _ dX1_takeBackInto_24 hP hD hS
  · have h := (k_iB h).2 c1
    by_cases c3 : ((old + (sze - 1)) - (old + (sze - 1)) / 4 * 4) = 0
    · have h := (k_iB h).1 c3
      refine kbr (ci := 1) (q := (RX1, TX1, 3)) (bs := [w_X1_stateAt cI cC cE hh hr aH old sze, exW cI (aH 0) (Hs 0), exW cI (aH 1) (Hs 1), exW cI (aH 2) (Hs 2), exW cI (aH 3) (Hs 3), exW cI aN N]) (cs := [w_X1_stateAt cI cC cE hh hr aH old sze]) (cs' := [w_X1_stateAt cI cC cE hh hr aH old sze]) (bs1 := [w_X1_stateAt cI cC cE hh hr aH old sze, exW cI (aH 0) (Hs 0), exW cI (aH 1) (Hs 1), exW cI (aH 2) (Hs 2), exW cI (aH 3) (Hs 3), exW cI aN N]) ⟨hx, hb, hml, hown, hts⟩ [0] [1, 2, 3, 4, 5] (c_X1_stateAt l D cI cC cE hh hr aH _ old sze (sze - 1) (some (aH 0 0)) (st_some c3 (by decide))) (cwV 1 hts gX1_takeBackInto_X1_stateAt rfl rfl rfl (by decide +kernel) ⟨Nat.le_of_ble_eq_true rfl, Nat.le_of_ble_eq_true rfl⟩) hK hP hD hS hA rfl rfl rfl rfl rfl rfl rfl rfl rfl hl.1 rfl (Nat.le_of_ble_eq_true rfl) dX1_takeBackInto_7 ⟨Nat.le_refl 0, Nat.le_refl 0⟩ (fun H locs hP hD hS => ?_)
      show W p l e ({ frames := 3, cells := 0, slots := 0, locals := 68 } : Room) s m [.ref hh, .ref (aN 0)].toArray below meth c H locs 0 0 Q (F0 m 10 ls (.ref (aH 0 0) :: []))
      refine lv_astore_n (lv' := [(2, .ref (aH 0 0)), (0, .ref hh), (1, .ref (aN 0))]) hx hb dX1_takeBackInto_10 rfl hl (by decide) rfl (fun ls hl => ?_)
      refine lv_aload_n hx hb dX1_takeBackInto_11 rfl (lv_at hl 1 rfl) ?_
      refine va_get (ci := 1) (C := RX1) (T := TX1) (N := 3) hx hb hts hiX1 hown hK hP 0 rfl rfl 2 (by decide) (hts (.fieldLink RX1 18 "RiddleTrade$History" "size" "I") (List.mem_of_getElem? (i := 1) rfl)) (fun _ h9 => h9) rfl dX1_takeBackInto_12 ?_
      refine lv_if_le (tgt := 22) hx hb dX1_takeBackInto_15 (by decide) (fun c4 => ?_) (fun c4 => ?_)
      · have h := (k_iB h).1 c4
        refine lv_bipush (v := (-5)) hx hb dX1_takeBackInto_22 (by decide) ?_
        obtain ⟨rfl, rfl, rfl⟩ := inj3 (h)
        exact fin _ _ _ _ dX1_takeBackInto_24 hP hD hS
      · have h := (k_iB h).2 c4
        refine lv_aload_n hx hb dX1_takeBackInto_18 rfl (lv_at hl 0 rfl) ?_
        refine lv_ifnonnull (tgt := 25) hx hb dX1_takeBackInto_19 (by decide) ?_
        refine lv_aload_n hx hb dX1_takeBackInto_25 rfl (lv_at hl 2 rfl) ?_
        refine lv_aload_n hx hb dX1_takeBackInto_26 rfl (lv_at hl 0 rfl) ?_
        refine kbv (ci := 0) (q := (RX0, TX0, 7)) (bs := [w_X1_stateAt cI cC cE hh hr aH old sze, exW cI (aH 0) (Hs 0), exW cI (aH 1) (Hs 1), exW cI (aH 2) (Hs 2), exW cI (aH 3) (Hs 3), exW cI aN N]) (cs := [exW cI aN N, exW cI (aH 0) (Hs 0)]) (cs' := [exW cI aN (Hs 0), exW cI (aH 0) (Hs 0)]) (bs1 := [w_X1_stateAt cI cC cE hh hr aH old sze, exW cI (aH 0) (Hs 0), exW cI (aH 1) (Hs 1), exW cI (aH 2) (Hs 2), exW cI (aH 3) (Hs 3), exW cI aN (Hs 0)]) ⟨hx, hb, hml, hown, hts⟩ [5, 1] [0, 2, 3, 4] (ce_X0_copyFrom l D cI cC cE aN (aH 0) _ N (Hs 0) ) (cwV 1 hts gX1_takeBackInto_X0_copyFrom rfl rfl rfl (by decide +kernel) ⟨Nat.le_of_ble_eq_true rfl, Nat.le_of_ble_eq_true rfl⟩) hK hP hD hS hA rfl rfl rfl rfl rfl rfl rfl rfl rfl hl.1 rfl (Nat.le_of_ble_eq_true rfl) dX1_takeBackInto_27 ⟨Nat.le_refl 0, Nat.le_refl 0⟩ (fun H locs hP hD hS => ?_)
        refine lv_aload_n hx hb dX1_takeBackInto_30 rfl (lv_at hl 1 rfl) ?_
        refine lv_dup hx hb dX1_takeBackInto_31 rfl ?_
        refine va_get (ci := 1) (C := RX1) (T := TX1) (N := 3) hx hb hts hiX1 hown hK hP 0 rfl rfl 2 (by decide) (hts (.fieldLink RX1 18 "RiddleTrade$History" "size" "I") (List.mem_of_getElem? (i := 1) rfl)) (fun _ h9 => h9) rfl dX1_takeBackInto_32 ?_
        refine lv_iconst (v := 1) hx hb dX1_takeBackInto_35 (by decide) ?_
        refine lv_isub hx hb dX1_takeBackInto_36 ?_
        refine va_put (ci := 1) (ty := .int) (C := RX1) (T := TX1) (N := 3) hx hb hts hiX1 tyX1 tyX1_ok nmX1 hown hK hP hD hS 0 rfl rfl 2 (by decide) (hts (.fieldLink RX1 18 "RiddleTrade$History" "size" "I") (List.mem_of_getElem? (i := 1) rfl)) (fun _ h9 => h9) rfl (by decide +kernel) rfl rfl (Nat.le_of_ble_eq_true rfl) dX1_takeBackInto_37 (fun H locs hP hD hS => ?_)
        have hP : va_P D vwCl (fl [w_X1_stateAt cI cC cE hh hr aH old (sze - 1), exW cI (aH 0) (Hs 0), exW cI (aH 1) (Hs 1), exW cI (aH 2) (Hs 2), exW cI (aH 3) (Hs 3), exW cI aN (Hs 0)]) H := hP
        have hD : va_D A (fl [w_X1_stateAt cI cC cE hh hr aH old (sze - 1), exW cI (aH 0) (Hs 0), exW cI (aH 1) (Hs 1), exW cI (aH 2) (Hs 2), exW cI (aH 3) (Hs 3), exW cI aN (Hs 0)]) := hD
        refine lv_aload_n hx hb dX1_takeBackInto_40 rfl (lv_at hl 1 rfl) ?_
        refine va_get (ci := 1) (C := RX1) (T := TX1) (N := 3) hx hb hts hiX1 hown hK hP 0 rfl rfl 2 (by decide) (hts (.fieldLink RX1 18 "RiddleTrade$History" "size" "I") (List.mem_of_getElem? (i := 1) rfl)) (fun _ h9 => h9) rfl dX1_takeBackInto_41 ?_
        obtain ⟨rfl, rfl, rfl⟩ := inj3 (h)
        exact fin _ _ _ _ dX1_takeBackInto_44 hP hD hS
    · have h := (k_iB h).2 c3
      by_cases c5 : ((old + (sze - 1)) - (old + (sze - 1)) / 4 * 4) = 1
      · have h := (k_iB h).1 c5
        refine kbr (ci := 1) (q := (RX1, TX1, 3)) (bs := [w_X1_stateAt cI cC cE hh hr aH old sze, exW cI (aH 0) (Hs 0), exW cI (aH 1) (Hs 1), exW cI (aH 2) (Hs 2), exW cI (aH 3) (Hs 3), exW cI aN N]) (cs := [w_X1_stateAt cI cC cE hh hr aH old sze]) (cs' := [w_X1_stateAt cI cC cE hh hr aH old sze]) (bs1 := [w_X1_stateAt cI cC cE hh hr aH old sze, exW cI (aH 0) (Hs 0), exW cI (aH 1) (Hs 1), exW cI (aH 2) (Hs 2), exW cI (aH 3) (Hs 3), exW cI aN N]) ⟨hx, hb, hml, hown, hts⟩ [0] [1, 2, 3, 4, 5] (c_X1_stateAt l D cI cC cE hh hr aH _ old sze (sze - 1) (some (aH 1 0)) (st_some c5 (by decide))) (cwV 1 hts gX1_takeBackInto_X1_stateAt rfl rfl rfl (by decide +kernel) ⟨Nat.le_of_ble_eq_true rfl, Nat.le_of_ble_eq_true rfl⟩) hK hP hD hS hA rfl rfl rfl rfl rfl rfl rfl rfl rfl hl.1 rfl (Nat.le_of_ble_eq_true rfl) dX1_takeBackInto_7 ⟨Nat.le_refl 0, Nat.le_refl 0⟩ (fun H locs hP hD hS => ?_)
        show W p l e ({ frames := 3, cells := 0, slots := 0, locals := 68 } : Room) s m [.ref hh, .ref (aN 0)].toArray below meth c H locs 0 0 Q (F0 m 10 ls (.ref (aH 1 0) :: []))
        refine lv_astore_n (lv' := [(2, .ref (aH 1 0)), (0, .ref hh), (1, .ref (aN 0))]) hx hb dX1_takeBackInto_10 rfl hl (by decide) rfl (fun ls hl => ?_)
        refine lv_aload_n hx hb dX1_takeBackInto_11 rfl (lv_at hl 1 rfl) ?_
        refine va_get (ci := 1) (C := RX1) (T := TX1) (N := 3) hx hb hts hiX1 hown hK hP 0 rfl rfl 2 (by decide) (hts (.fieldLink RX1 18 "RiddleTrade$History" "size" "I") (List.mem_of_getElem? (i := 1) rfl)) (fun _ h9 => h9) rfl dX1_takeBackInto_12 ?_
        refine lv_if_le (tgt := 22) hx hb dX1_takeBackInto_15 (by decide) (fun c6 => ?_) (fun c6 => ?_)
        · have h := (k_iB h).1 c6
          refine lv_bipush (v := (-5)) hx hb dX1_takeBackInto_22 (by decide) ?_
          obtain ⟨rfl, rfl, rfl⟩ := inj3 (h)
          exact fin _ _ _ _ dX1_takeBackInto_24 hP hD hS
        · have h := (k_iB h).2 c6
          refine lv_aload_n hx hb dX1_takeBackInto_18 rfl (lv_at hl 0 rfl) ?_
          refine lv_ifnonnull (tgt := 25) hx hb dX1_takeBackInto_19 (by decide) ?_
          refine lv_aload_n hx hb dX1_takeBackInto_25 rfl (lv_at hl 2 rfl) ?_
          refine lv_aload_n hx hb dX1_takeBackInto_26 rfl (lv_at hl 0 rfl) ?_
          refine kbv (ci := 0) (q := (RX0, TX0, 7)) (bs := [w_X1_stateAt cI cC cE hh hr aH old sze, exW cI (aH 0) (Hs 0), exW cI (aH 1) (Hs 1), exW cI (aH 2) (Hs 2), exW cI (aH 3) (Hs 3), exW cI aN N]) (cs := [exW cI aN N, exW cI (aH 1) (Hs 1)]) (cs' := [exW cI aN (Hs 1), exW cI (aH 1) (Hs 1)]) (bs1 := [w_X1_stateAt cI cC cE hh hr aH old sze, exW cI (aH 0) (Hs 0), exW cI (aH 1) (Hs 1), exW cI (aH 2) (Hs 2), exW cI (aH 3) (Hs 3), exW cI aN (Hs 1)]) ⟨hx, hb, hml, hown, hts⟩ [5, 2] [0, 1, 3, 4] (ce_X0_copyFrom l D cI cC cE aN (aH 1) _ N (Hs 1) ) (cwV 1 hts gX1_takeBackInto_X0_copyFrom rfl rfl rfl (by decide +kernel) ⟨Nat.le_of_ble_eq_true rfl, Nat.le_of_ble_eq_true rfl⟩) hK hP hD hS hA rfl rfl rfl rfl rfl rfl rfl rfl rfl hl.1 rfl (Nat.le_of_ble_eq_true rfl) dX1_takeBackInto_27 ⟨Nat.le_refl 0, Nat.le_refl 0⟩ (fun H locs hP hD hS => ?_)
          refine lv_aload_n hx hb dX1_takeBackInto_30 rfl (lv_at hl 1 rfl) ?_
          refine lv_dup hx hb dX1_takeBackInto_31 rfl ?_
          refine va_get (ci := 1) (C := RX1) (T := TX1) (N := 3) hx hb hts hiX1 hown hK hP 0 rfl rfl 2 (by decide) (hts (.fieldLink RX1 18 "RiddleTrade$History" "size" "I") (List.mem_of_getElem? (i := 1) rfl)) (fun _ h9 => h9) rfl dX1_takeBackInto_32 ?_
          refine lv_iconst (v := 1) hx hb dX1_takeBackInto_35 (by decide) ?_
          refine lv_isub hx hb dX1_takeBackInto_36 ?_
          refine va_put (ci := 1) (ty := .int) (C := RX1) (T := TX1) (N := 3) hx hb hts hiX1 tyX1 tyX1_ok nmX1 hown hK hP hD hS 0 rfl rfl 2 (by decide) (hts (.fieldLink RX1 18 "RiddleTrade$History" "size" "I") (List.mem_of_getElem? (i := 1) rfl)) (fun _ h9 => h9) rfl (by decide +kernel) rfl rfl (Nat.le_of_ble_eq_true rfl) dX1_takeBackInto_37 (fun H locs hP hD hS => ?_)
          have hP : va_P D vwCl (fl [w_X1_stateAt cI cC cE hh hr aH old (sze - 1), exW cI (aH 0) (Hs 0), exW cI (aH 1) (Hs 1), exW cI (aH 2) (Hs 2), exW cI (aH 3) (Hs 3), exW cI aN (Hs 1)]) H := hP
          have hD : va_D A (fl [w_X1_stateAt cI cC cE hh hr aH old (sze - 1), exW cI (aH 0) (Hs 0), exW cI (aH 1) (Hs 1), exW cI (aH 2) (Hs 2), exW cI (aH 3) (Hs 3), exW cI aN (Hs 1)]) := hD
          refine lv_aload_n hx hb dX1_takeBackInto_40 rfl (lv_at hl 1 rfl) ?_
          refine va_get (ci := 1) (C := RX1) (T := TX1) (N := 3) hx hb hts hiX1 hown hK hP 0 rfl rfl 2 (by decide) (hts (.fieldLink RX1 18 "RiddleTrade$History" "size" "I") (List.mem_of_getElem? (i := 1) rfl)) (fun _ h9 => h9) rfl dX1_takeBackInto_41 ?_
          obtain ⟨rfl, rfl, rfl⟩ := inj3 (h)
          exact fin _ _ _ _ dX1_takeBackInto_44 hP hD hS
      · have h := (k_iB h).2 c5
        by_cases c7 : ((old + (sze - 1)) - (old + (sze - 1)) / 4 * 4) = 2
        · have h := (k_iB h).1 c7
          refine kbr (ci := 1) (q := (RX1, TX1, 3)) (bs := [w_X1_stateAt cI cC cE hh hr aH old sze, exW cI (aH 0) (Hs 0), exW cI (aH 1) (Hs 1), exW cI (aH 2) (Hs 2), exW cI (aH 3) (Hs 3), exW cI aN N]) (cs := [w_X1_stateAt cI cC cE hh hr aH old sze]) (cs' := [w_X1_stateAt cI cC cE hh hr aH old sze]) (bs1 := [w_X1_stateAt cI cC cE hh hr aH old sze, exW cI (aH 0) (Hs 0), exW cI (aH 1) (Hs 1), exW cI (aH 2) (Hs 2), exW cI (aH 3) (Hs 3), exW cI aN N]) ⟨hx, hb, hml, hown, hts⟩ [0] [1, 2, 3, 4, 5] (c_X1_stateAt l D cI cC cE hh hr aH _ old sze (sze - 1) (some (aH 2 0)) (st_some c7 (by decide))) (cwV 1 hts gX1_takeBackInto_X1_stateAt rfl rfl rfl (by decide +kernel) ⟨Nat.le_of_ble_eq_true rfl, Nat.le_of_ble_eq_true rfl⟩) hK hP hD hS hA rfl rfl rfl rfl rfl rfl rfl rfl rfl hl.1 rfl (Nat.le_of_ble_eq_true rfl) dX1_takeBackInto_7 ⟨Nat.le_refl 0, Nat.le_refl 0⟩ (fun H locs hP hD hS => ?_)
          show W p l e ({ frames := 3, cells := 0, slots := 0, locals := 68 } : Room) s m [.ref hh, .ref (aN 0)].toArray below meth c H locs 0 0 Q (F0 m 10 ls (.ref (aH 2 0) :: []))
          refine lv_astore_n (lv' := [(2, .ref (aH 2 0)), (0, .ref hh), (1, .ref (aN 0))]) hx hb dX1_takeBackInto_10 rfl hl (by decide) rfl (fun ls hl => ?_)
          refine lv_aload_n hx hb dX1_takeBackInto_11 rfl (lv_at hl 1 rfl) ?_
          refine va_get (ci := 1) (C := RX1) (T := TX1) (N := 3) hx hb hts hiX1 hown hK hP 0 rfl rfl 2 (by decide) (hts (.fieldLink RX1 18 "RiddleTrade$History" "size" "I") (List.mem_of_getElem? (i := 1) rfl)) (fun _ h9 => h9) rfl dX1_takeBackInto_12 ?_
          refine lv_if_le (tgt := 22) hx hb dX1_takeBackInto_15 (by decide) (fun c8 => ?_) (fun c8 => ?_)
          · have h := (k_iB h).1 c8
            refine lv_bipush (v := (-5)) hx hb dX1_takeBackInto_22 (by decide) ?_
            obtain ⟨rfl, rfl, rfl⟩ := inj3 (h)
            exact fin _ _ _ _ dX1_takeBackInto_24 hP hD hS
          · have h := (k_iB h).2 c8
            refine lv_aload_n hx hb dX1_takeBackInto_18 rfl (lv_at hl 0 rfl) ?_
            refine lv_ifnonnull (tgt := 25) hx hb dX1_takeBackInto_19 (by decide) ?_
            refine lv_aload_n hx hb dX1_takeBackInto_25 rfl (lv_at hl 2 rfl) ?_
            refine lv_aload_n hx hb dX1_takeBackInto_26 rfl (lv_at hl 0 rfl) ?_
            refine kbv (ci := 0) (q := (RX0, TX0, 7)) (bs := [w_X1_stateAt cI cC cE hh hr aH old sze, exW cI (aH 0) (Hs 0), exW cI (aH 1) (Hs 1), exW cI (aH 2) (Hs 2), exW cI (aH 3) (Hs 3), exW cI aN N]) (cs := [exW cI aN N, exW cI (aH 2) (Hs 2)]) (cs' := [exW cI aN (Hs 2), exW cI (aH 2) (Hs 2)]) (bs1 := [w_X1_stateAt cI cC cE hh hr aH old sze, exW cI (aH 0) (Hs 0), exW cI (aH 1) (Hs 1), exW cI (aH 2) (Hs 2), exW cI (aH 3) (Hs 3), exW cI aN (Hs 2)]) ⟨hx, hb, hml, hown, hts⟩ [5, 3] [0, 1, 2, 4] (ce_X0_copyFrom l D cI cC cE aN (aH 2) _ N (Hs 2) ) (cwV 1 hts gX1_takeBackInto_X0_copyFrom rfl rfl rfl (by decide +kernel) ⟨Nat.le_of_ble_eq_true rfl, Nat.le_of_ble_eq_true rfl⟩) hK hP hD hS hA rfl rfl rfl rfl rfl rfl rfl rfl rfl hl.1 rfl (Nat.le_of_ble_eq_true rfl) dX1_takeBackInto_27 ⟨Nat.le_refl 0, Nat.le_refl 0⟩ (fun H locs hP hD hS => ?_)
            refine lv_aload_n hx hb dX1_takeBackInto_30 rfl (lv_at hl 1 rfl) ?_
            refine lv_dup hx hb dX1_takeBackInto_31 rfl ?_
            refine va_get (ci := 1) (C := RX1) (T := TX1) (N := 3) hx hb hts hiX1 hown hK hP 0 rfl rfl 2 (by decide) (hts (.fieldLink RX1 18 "RiddleTrade$History" "size" "I") (List.mem_of_getElem? (i := 1) rfl)) (fun _ h9 => h9) rfl dX1_takeBackInto_32 ?_
            refine lv_iconst (v := 1) hx hb dX1_takeBackInto_35 (by decide) ?_
            refine lv_isub hx hb dX1_takeBackInto_36 ?_
            refine va_put (ci := 1) (ty := .int) (C := RX1) (T := TX1) (N := 3) hx hb hts hiX1 tyX1 tyX1_ok nmX1 hown hK hP hD hS 0 rfl rfl 2 (by decide) (hts (.fieldLink RX1 18 "RiddleTrade$History" "size" "I") (List.mem_of_getElem? (i := 1) rfl)) (fun _ h9 => h9) rfl (by decide +kernel) rfl rfl (Nat.le_of_ble_eq_true rfl) dX1_takeBackInto_37 (fun H locs hP hD hS => ?_)
            have hP : va_P D vwCl (fl [w_X1_stateAt cI cC cE hh hr aH old (sze - 1), exW cI (aH 0) (Hs 0), exW cI (aH 1) (Hs 1), exW cI (aH 2) (Hs 2), exW cI (aH 3) (Hs 3), exW cI aN (Hs 2)]) H := hP
            have hD : va_D A (fl [w_X1_stateAt cI cC cE hh hr aH old (sze - 1), exW cI (aH 0) (Hs 0), exW cI (aH 1) (Hs 1), exW cI (aH 2) (Hs 2), exW cI (aH 3) (Hs 3), exW cI aN (Hs 2)]) := hD
            refine lv_aload_n hx hb dX1_takeBackInto_40 rfl (lv_at hl 1 rfl) ?_
            refine va_get (ci := 1) (C := RX1) (T := TX1) (N := 3) hx hb hts hiX1 hown hK hP 0 rfl rfl 2 (by decide) (hts (.fieldLink RX1 18 "RiddleTrade$History" "size" "I") (List.mem_of_getElem? (i := 1) rfl)) (fun _ h9 => h9) rfl dX1_takeBackInto_41 ?_
            obtain ⟨rfl, rfl, rfl⟩ := inj3 (h)
            exact fin _ _ _ _ dX1_takeBackInto_44 hP hD hS
        · have h := (k_iB h).2 c7
          by_cases c9 : ((old + (sze - 1)) - (old + (sze - 1)) / 4 * 4) = 3
          · have h := (k_iB h).1 c9
            refine kbr (ci := 1) (q := (RX1, TX1, 3)) (bs := [w_X1_stateAt cI cC cE hh hr aH old sze, exW cI (aH 0) (Hs 0), exW cI (aH 1) (Hs 1), exW cI (aH 2) (Hs 2), exW cI (aH 3) (Hs 3), exW cI aN N]) (cs := [w_X1_stateAt cI cC cE hh hr aH old sze]) (cs' := [w_X1_stateAt cI cC cE hh hr aH old sze]) (bs1 := [w_X1_stateAt cI cC cE hh hr aH old sze, exW cI (aH 0) (Hs 0), exW cI (aH 1) (Hs 1), exW cI (aH 2) (Hs 2), exW cI (aH 3) (Hs 3), exW cI aN N]) ⟨hx, hb, hml, hown, hts⟩ [0] [1, 2, 3, 4, 5] (c_X1_stateAt l D cI cC cE hh hr aH _ old sze (sze - 1) (some (aH 3 0)) (st_some c9 (by decide))) (cwV 1 hts gX1_takeBackInto_X1_stateAt rfl rfl rfl (by decide +kernel) ⟨Nat.le_of_ble_eq_true rfl, Nat.le_of_ble_eq_true rfl⟩) hK hP hD hS hA rfl rfl rfl rfl rfl rfl rfl rfl rfl hl.1 rfl (Nat.le_of_ble_eq_true rfl) dX1_takeBackInto_7 ⟨Nat.le_refl 0, Nat.le_refl 0⟩ (fun H locs hP hD hS => ?_)
            show W p l e ({ frames := 3, cells := 0, slots := 0, locals := 68 } : Room) s m [.ref hh, .ref (aN 0)].toArray below meth c H locs 0 0 Q (F0 m 10 ls (.ref (aH 3 0) :: []))
            refine lv_astore_n (lv' := [(2, .ref (aH 3 0)), (0, .ref hh), (1, .ref (aN 0))]) hx hb dX1_takeBackInto_10 rfl hl (by decide) rfl (fun ls hl => ?_)
            refine lv_aload_n hx hb dX1_takeBackInto_11 rfl (lv_at hl 1 rfl) ?_
            refine va_get (ci := 1) (C := RX1) (T := TX1) (N := 3) hx hb hts hiX1 hown hK hP 0 rfl rfl 2 (by decide) (hts (.fieldLink RX1 18 "RiddleTrade$History" "size" "I") (List.mem_of_getElem? (i := 1) rfl)) (fun _ h9 => h9) rfl dX1_takeBackInto_12 ?_
            refine lv_if_le (tgt := 22) hx hb dX1_takeBackInto_15 (by decide) (fun c10 => ?_) (fun c10 => ?_)
            · have h := (k_iB h).1 c10
              refine lv_bipush (v := (-5)) hx hb dX1_takeBackInto_22 (by decide) ?_
              obtain ⟨rfl, rfl, rfl⟩ := inj3 (h)
              exact fin _ _ _ _ dX1_takeBackInto_24 hP hD hS
            · have h := (k_iB h).2 c10
              refine lv_aload_n hx hb dX1_takeBackInto_18 rfl (lv_at hl 0 rfl) ?_
              refine lv_ifnonnull (tgt := 25) hx hb dX1_takeBackInto_19 (by decide) ?_
              refine lv_aload_n hx hb dX1_takeBackInto_25 rfl (lv_at hl 2 rfl) ?_
              refine lv_aload_n hx hb dX1_takeBackInto_26 rfl (lv_at hl 0 rfl) ?_
              refine kbv (ci := 0) (q := (RX0, TX0, 7)) (bs := [w_X1_stateAt cI cC cE hh hr aH old sze, exW cI (aH 0) (Hs 0), exW cI (aH 1) (Hs 1), exW cI (aH 2) (Hs 2), exW cI (aH 3) (Hs 3), exW cI aN N]) (cs := [exW cI aN N, exW cI (aH 3) (Hs 3)]) (cs' := [exW cI aN (Hs 3), exW cI (aH 3) (Hs 3)]) (bs1 := [w_X1_stateAt cI cC cE hh hr aH old sze, exW cI (aH 0) (Hs 0), exW cI (aH 1) (Hs 1), exW cI (aH 2) (Hs 2), exW cI (aH 3) (Hs 3), exW cI aN (Hs 3)]) ⟨hx, hb, hml, hown, hts⟩ [5, 4] [0, 1, 2, 3] (ce_X0_copyFrom l D cI cC cE aN (aH 3) _ N (Hs 3) ) (cwV 1 hts gX1_takeBackInto_X0_copyFrom rfl rfl rfl (by decide +kernel) ⟨Nat.le_of_ble_eq_true rfl, Nat.le_of_ble_eq_true rfl⟩) hK hP hD hS hA rfl rfl rfl rfl rfl rfl rfl rfl rfl hl.1 rfl (Nat.le_of_ble_eq_true rfl) dX1_takeBackInto_27 ⟨Nat.le_refl 0, Nat.le_refl 0⟩ (fun H locs hP hD hS => ?_)
              refine lv_aload_n hx hb dX1_takeBackInto_30 rfl (lv_at hl 1 rfl) ?_
              refine lv_dup hx hb dX1_takeBackInto_31 rfl ?_
              refine va_get (ci := 1) (C := RX1) (T := TX1) (N := 3) hx hb hts hiX1 hown hK hP 0 rfl rfl 2 (by decide) (hts (.fieldLink RX1 18 "RiddleTrade$History" "size" "I") (List.mem_of_getElem? (i := 1) rfl)) (fun _ h9 => h9) rfl dX1_takeBackInto_32 ?_
              refine lv_iconst (v := 1) hx hb dX1_takeBackInto_35 (by decide) ?_
              refine lv_isub hx hb dX1_takeBackInto_36 ?_
              refine va_put (ci := 1) (ty := .int) (C := RX1) (T := TX1) (N := 3) hx hb hts hiX1 tyX1 tyX1_ok nmX1 hown hK hP hD hS 0 rfl rfl 2 (by decide) (hts (.fieldLink RX1 18 "RiddleTrade$History" "size" "I") (List.mem_of_getElem? (i := 1) rfl)) (fun _ h9 => h9) rfl (by decide +kernel) rfl rfl (Nat.le_of_ble_eq_true rfl) dX1_takeBackInto_37 (fun H locs hP hD hS => ?_)
              have hP : va_P D vwCl (fl [w_X1_stateAt cI cC cE hh hr aH old (sze - 1), exW cI (aH 0) (Hs 0), exW cI (aH 1) (Hs 1), exW cI (aH 2) (Hs 2), exW cI (aH 3) (Hs 3), exW cI aN (Hs 3)]) H := hP
              have hD : va_D A (fl [w_X1_stateAt cI cC cE hh hr aH old (sze - 1), exW cI (aH 0) (Hs 0), exW cI (aH 1) (Hs 1), exW cI (aH 2) (Hs 2), exW cI (aH 3) (Hs 3), exW cI aN (Hs 3)]) := hD
              refine lv_aload_n hx hb dX1_takeBackInto_40 rfl (lv_at hl 1 rfl) ?_
              refine va_get (ci := 1) (C := RX1) (T := TX1) (N := 3) hx hb hts hiX1 hown hK hP 0 rfl rfl 2 (by decide) (hts (.fieldLink RX1 18 "RiddleTrade$History" "size" "I") (List.mem_of_getElem? (i := 1) rfl)) (fun _ h9 => h9) rfl dX1_takeBackInto_41 ?_
              obtain ⟨rfl, rfl, rfl⟩ := inj3 (h)
              exact fin _ _ _ _ dX1_takeBackInto_44 hP hD hS
          · have h := (k_iB h).2 c9
            refine kbr (ci := 1) (q := (RX1, TX1, 3)) (bs := [w_X1_stateAt cI cC cE hh hr aH old sze, exW cI (aH 0) (Hs 0), exW cI (aH 1) (Hs 1), exW cI (aH 2) (Hs 2), exW cI (aH 3) (Hs 3), exW cI aN N]) (cs := [w_X1_stateAt cI cC cE hh hr aH old sze]) (cs' := [w_X1_stateAt cI cC cE hh hr aH old sze]) (bs1 := [w_X1_stateAt cI cC cE hh hr aH old sze, exW cI (aH 0) (Hs 0), exW cI (aH 1) (Hs 1), exW cI (aH 2) (Hs 2), exW cI (aH 3) (Hs 3), exW cI aN N]) ⟨hx, hb, hml, hown, hts⟩ [0] [1, 2, 3, 4, 5] (c_X1_stateAt l D cI cC cE hh hr aH _ old sze (sze - 1) none (st_none (Or.inr (st_big c1 c3 c5 c7 c9)))) (cwV 1 hts gX1_takeBackInto_X1_stateAt rfl rfl rfl (by decide +kernel) ⟨Nat.le_of_ble_eq_true rfl, Nat.le_of_ble_eq_true rfl⟩) hK hP hD hS hA rfl rfl rfl rfl rfl rfl rfl rfl rfl hl.1 rfl (Nat.le_of_ble_eq_true rfl) dX1_takeBackInto_7 ⟨Nat.le_refl 0, Nat.le_refl 0⟩ (fun H locs hP hD hS => ?_)
            show W p l e ({ frames := 3, cells := 0, slots := 0, locals := 68 } : Room) s m [.ref hh, .ref (aN 0)].toArray below meth c H locs 0 0 Q (F0 m 10 ls (.null :: []))
            refine lv_astore_nN (lv' := [(2, .null), (0, .ref hh), (1, .ref (aN 0))]) hx hb dX1_takeBackInto_10 rfl hl (by decide) rfl (fun ls hl => ?_)
            refine lv_aload_n hx hb dX1_takeBackInto_11 rfl (lv_at hl 1 rfl) ?_
            refine va_get (ci := 1) (C := RX1) (T := TX1) (N := 3) hx hb hts hiX1 hown hK hP 0 rfl rfl 2 (by decide) (hts (.fieldLink RX1 18 "RiddleTrade$History" "size" "I") (List.mem_of_getElem? (i := 1) rfl)) (fun _ h9 => h9) rfl dX1_takeBackInto_12 ?_
            refine lv_if_le (tgt := 22) hx hb dX1_takeBackInto_15 (by decide) (fun c11 => ?_) (fun c11 => ?_)
            · have h := (k_iB h).1 c11
              refine lv_bipush (v := (-5)) hx hb dX1_takeBackInto_22 (by decide) ?_
              obtain ⟨rfl, rfl, rfl⟩ := inj3 (h)
              exact fin _ _ _ _ dX1_takeBackInto_24 hP hD hS
            · have h := (k_iB h).2 c11
              refine lv_aload_nN hx hb dX1_takeBackInto_18 rfl (lv_at hl 0 rfl) ?_
              refine lv_ifnonnullN hx hb dX1_takeBackInto_19 ?_
              refine lv_bipush (v := (-5)) hx hb dX1_takeBackInto_22 (by decide) ?_
              obtain ⟨rfl, rfl, rfl⟩ := inj3 (h)
              exact fin _ _ _ _ dX1_takeBackInto_24 hP hD hS
