abbrev w_X4_rows (cI cC : ClassId) (h0 h1 : Nat) (cols : Int32) (rows : Int32) : va_W := [(h0, .inr (4, [.ref h1, .int cols, .int rows]))]
def d_X4_rows (rows : Int32) : Int32 :=
    rows
set_option maxHeartbeats 4000000 in
set_option maxRecDepth 100000 in
theorem c_X4_rows (l : Launch) (D : va_G) (cI cC cE : ClassId) (h0 h1 : Nat) (sz : Nat) (cols : Int32) (rows : Int32) (r0 : Int32) (h : d_X4_rows rows = r0) : Met l yX4_rows wsX4_rows ({ frames := 0, cells := 0, slots := 0, locals := 0 } : Room) (kP D (kT cI cC cE) [.ref h0] (w_X4_rows cI cC h0 h1 cols rows) sz) (kQi D (kT cI cC cE) (w_X4_rows cI cC h0 h1 cols rows) (w_X4_rows cI cC h0 h1 cols rows) sz r0) 0 0 (va_A (w_X4_rows cI cC h0 h1 cols rows) sz) := by
  refine kMetI (cc := cX4_rows) (maxL := 1) (own := RX4) (by decide) rfl (Nat.le_of_ble_eq_true rfl) rfl ?_
  intro p e s m below meth c A Q hx hb hml hown hts hP hK hD hA hS hname fin ls hl
  have hl : lv_has ls 1 [(0, .ref h0)] := hl
  have hiX4 : ∀ w ∈ u_ws RX4 TX4 3, w ∈ wsX4_rows := by decide +kernel
  dsimp only [d_X4_rows] at h
  refine lv_aload_n hx hb dX4_rows_0 rfl (lv_at hl 0 rfl) ?_
  refine va_get (ci := 4) (C := RX4) (T := TX4) (N := 3) hx hb hts hiX4 hown hK hP 0 rfl rfl 2 (by decide) (hts (.fieldLink RX4 19 "RiddleTrade$Table" "rows" "I") (List.mem_of_getElem? (i := 1) rfl)) (fun _ h9 => h9) rfl dX4_rows_1 ?_
  obtain rfl := h
  exact fin _ _ _ _ dX4_rows_4 hP hD hS
abbrev w_X4_has (cI cC : ClassId) (h0 h1 : Nat) (cols : Int32) (rows : Int32) : va_W := [(h0, .inr (4, [.ref h1, .int cols, .int rows]))]
def d_X4_has (p1 : Int32) (rows : Int32) : Int32 :=
    if p1 < 0 then (0)
    else (if rows ≤ p1 then (0)
    else (1))
set_option maxHeartbeats 4000000 in
set_option maxRecDepth 100000 in
theorem c_X4_has (l : Launch) (D : va_G) (cI cC cE : ClassId) (h0 h1 : Nat) (sz : Nat) (cols : Int32) (rows : Int32) (p1 : Int32) (r0 : Int32) (h : d_X4_has p1 rows = r0) : Met l yX4_has wsX4_has ({ frames := 0, cells := 0, slots := 0, locals := 0 } : Room) (kP D (kT cI cC cE) [.ref h0, .int p1] (w_X4_has cI cC h0 h1 cols rows) sz) (kQi D (kT cI cC cE) (w_X4_has cI cC h0 h1 cols rows) (w_X4_has cI cC h0 h1 cols rows) sz r0) 0 0 (va_A (w_X4_has cI cC h0 h1 cols rows) sz) := by
  refine kMetZ (cc := cX4_has) (maxL := 2) (own := RX4) (by decide) rfl (Nat.le_of_ble_eq_true rfl) rfl ?_
  intro p e s m below meth c A Q hx hb hml hown hts hP hK hD hA hS hname fin ls hl
  have hl : lv_has ls 2 [(0, .ref h0), (1, .int p1)] := hl
  have hiX4 : ∀ w ∈ u_ws RX4 TX4 3, w ∈ wsX4_has := by decide +kernel
  dsimp only [d_X4_has] at h
  refine lv_iload_n hx hb dX4_has_0 rfl (lv_at hl 1 rfl) ?_
  refine lv_if_lt (tgt := 16) hx hb dX4_has_1 (by decide) (fun c1 => ?_) (fun c1 => ?_)
  · have h := (k_iB h).1 c1
    refine lv_iconst (v := 0) hx hb dX4_has_16 (by decide) ?_
    obtain rfl := h
    exact fin _ _ _ _ rfl dX4_has_17 hP hD hS
  · have h := (k_iB h).2 c1
    refine lv_iload_n hx hb dX4_has_4 rfl (lv_at hl 1 rfl) ?_
    refine lv_aload_n hx hb dX4_has_5 rfl (lv_at hl 0 rfl) ?_
    refine va_get (ci := 4) (C := RX4) (T := TX4) (N := 3) hx hb hts hiX4 hown hK hP 0 rfl rfl 2 (by decide) (hts (.fieldLink RX4 19 "RiddleTrade$Table" "rows" "I") (List.mem_of_getElem? (i := 1) rfl)) (fun _ h9 => h9) rfl dX4_has_6 ?_
    refine lv_icmp_ge (tgt := 16) hx hb dX4_has_9 (by decide) (fun c2 => ?_) (fun c2 => ?_)
    · have h := (k_iB h).1 c2
      refine lv_iconst (v := 0) hx hb dX4_has_16 (by decide) ?_
      obtain rfl := h
      exact fin _ _ _ _ rfl dX4_has_17 hP hD hS
    · have h := (k_iB h).2 c2
      refine lv_iconst (v := 1) hx hb dX4_has_12 (by decide) ?_
      refine lv_goto (tgt := 17) hx hb dX4_has_13 (by decide) ?_
      obtain rfl := h
      exact fin _ _ _ _ rfl dX4_has_17 hP hD hS
abbrev w_X4_addRow (cI cC : ClassId) (h0 h1 : Nat) (cols : Int32) (rows : Int32) : va_W := [(h0, .inr (4, [.ref h1, .int cols, .int rows]))]
def d_X4_addRow (rows : Int32) : Int32 × Int32 :=
    (((rows + 1) - 1), (rows + 1))
set_option maxHeartbeats 4000000 in
set_option maxRecDepth 100000 in
theorem c_X4_addRow (l : Launch) (D : va_G) (cI cC cE : ClassId) (h0 h1 : Nat) (sz : Nat) (cols : Int32) (rows : Int32) (r0 : Int32) (o_rows : Int32) (h : d_X4_addRow rows = (r0, o_rows)) : Met l yX4_addRow wsX4_addRow ({ frames := 0, cells := 0, slots := 0, locals := 0 } : Room) (kP D (kT cI cC cE) [.ref h0] (w_X4_addRow cI cC h0 h1 cols rows) sz) (kQi D (kT cI cC cE) (w_X4_addRow cI cC h0 h1 cols rows) (w_X4_addRow cI cC h0 h1 cols o_rows) sz r0) 0 0 (va_A (w_X4_addRow cI cC h0 h1 cols rows) sz) := by
  refine kMetI (cc := cX4_addRow) (maxL := 1) (own := RX4) (by decide) rfl (Nat.le_of_ble_eq_true rfl) rfl ?_
  intro p e s m below meth c A Q hx hb hml hown hts hP hK hD hA hS hname fin ls hl
  have hl : lv_has ls 1 [(0, .ref h0)] := hl
  have hiX4 : ∀ w ∈ u_ws RX4 TX4 3, w ∈ wsX4_addRow := by decide +kernel
  dsimp only [d_X4_addRow] at h
  refine lv_aload_n hx hb dX4_addRow_0 rfl (lv_at hl 0 rfl) ?_
  refine lv_dup hx hb dX4_addRow_1 rfl ?_
  refine va_get (ci := 4) (C := RX4) (T := TX4) (N := 3) hx hb hts hiX4 hown hK hP 0 rfl rfl 2 (by decide) (hts (.fieldLink RX4 19 "RiddleTrade$Table" "rows" "I") (List.mem_of_getElem? (i := 1) rfl)) (fun _ h9 => h9) rfl dX4_addRow_2 ?_
  refine lv_iconst (v := 1) hx hb dX4_addRow_5 (by decide) ?_
  refine lv_iadd hx hb dX4_addRow_6 ?_
  refine va_put (ci := 4) (ty := .int) (C := RX4) (T := TX4) (N := 3) hx hb hts hiX4 tyX4 tyX4_ok nmX4 hown hK hP hD hS 0 rfl rfl 2 (by decide) (hts (.fieldLink RX4 19 "RiddleTrade$Table" "rows" "I") (List.mem_of_getElem? (i := 1) rfl)) (fun _ h9 => h9) rfl (by decide +kernel) rfl rfl (Nat.le_of_ble_eq_true rfl) dX4_addRow_7 (fun H locs hP hD hS => ?_)
  have hP : va_P D vwCl (w_X4_addRow cI cC h0 h1 cols (rows + 1)) H := hP
  have hD : va_D A (w_X4_addRow cI cC h0 h1 cols (rows + 1)) := hD
  refine lv_aload_n hx hb dX4_addRow_10 rfl (lv_at hl 0 rfl) ?_
  refine va_get (ci := 4) (C := RX4) (T := TX4) (N := 3) hx hb hts hiX4 hown hK hP 0 rfl rfl 2 (by decide) (hts (.fieldLink RX4 19 "RiddleTrade$Table" "rows" "I") (List.mem_of_getElem? (i := 1) rfl)) (fun _ h9 => h9) rfl dX4_addRow_11 ?_
  refine lv_iconst (v := 1) hx hb dX4_addRow_14 (by decide) ?_
  refine lv_isub hx hb dX4_addRow_15 ?_
  obtain ⟨rfl, rfl⟩ := inj2 (h)
  exact fin _ _ _ _ dX4_addRow_16 hP hD hS
abbrev w_X4_dropRows (cI cC : ClassId) (h0 h1 : Nat) (cols : Int32) (rows : Int32) : va_W := [(h0, .inr (4, [.ref h1, .int cols, .int rows]))]
def d_X4_dropRows (rows : Int32) : Int32 :=
    0
set_option maxHeartbeats 4000000 in
set_option maxRecDepth 100000 in
theorem c_X4_dropRows (l : Launch) (D : va_G) (cI cC cE : ClassId) (h0 h1 : Nat) (sz : Nat) (cols : Int32) (rows : Int32) (o_rows : Int32) (h : d_X4_dropRows rows = o_rows) : Met l yX4_dropRows wsX4_dropRows ({ frames := 0, cells := 0, slots := 0, locals := 0 } : Room) (kP D (kT cI cC cE) [.ref h0] (w_X4_dropRows cI cC h0 h1 cols rows) sz) (kQv D (kT cI cC cE) (w_X4_dropRows cI cC h0 h1 cols rows) (w_X4_dropRows cI cC h0 h1 cols o_rows) sz) 0 0 (va_A (w_X4_dropRows cI cC h0 h1 cols rows) sz) := by
  refine kMetV (cc := cX4_dropRows) (maxL := 1) (own := RX4) (by decide) rfl (Nat.le_of_ble_eq_true rfl) rfl ?_
  intro p e s m below meth c A Q hx hb hml hown hts hP hK hD hA hS hname fin ls hl
  have hl : lv_has ls 1 [(0, .ref h0)] := hl
  have hiX4 : ∀ w ∈ u_ws RX4 TX4 3, w ∈ wsX4_dropRows := by decide +kernel
  dsimp only [d_X4_dropRows] at h
  refine lv_aload_n hx hb dX4_dropRows_0 rfl (lv_at hl 0 rfl) ?_
  refine lv_iconst (v := 0) hx hb dX4_dropRows_1 (by decide) ?_
  refine va_put (ci := 4) (ty := .int) (C := RX4) (T := TX4) (N := 3) hx hb hts hiX4 tyX4 tyX4_ok nmX4 hown hK hP hD hS 0 rfl rfl 2 (by decide) (hts (.fieldLink RX4 19 "RiddleTrade$Table" "rows" "I") (List.mem_of_getElem? (i := 1) rfl)) (fun _ h9 => h9) rfl (by decide +kernel) rfl rfl (Nat.le_of_ble_eq_true rfl) dX4_dropRows_2 (fun H locs hP hD hS => ?_)
  have hP : va_P D vwCl (w_X4_dropRows cI cC h0 h1 cols 0) H := hP
  have hD : va_D A (w_X4_dropRows cI cC h0 h1 cols 0) := hD
  obtain rfl := h
  exact fin _ _ _ _ dX4_dropRows_5 hP hD hS
abbrev w_X4_get (cI cC : ClassId) (h0 h1 : Nat) (n : Nat) (f : Nat → Int32) (cols : Int32) (rows : Int32) : va_W := [(h0, .inr (4, [.ref h1, .int cols, .int rows])), (h1, .inl (cI, n, .inl f))]
def d_X4_get (n : Nat) (p1 : Int32) (p2 : Int32) (f : Nat → Int32) (cols : Int32) : Option (Int32) :=
    if ((p1 * cols) + p2) < 0 then (some 0)
    else (if (nI n) ≤ ((p1 * cols) + p2) then (some 0)
    else (ob1 (rd n f ((p1 * cols) + p2)) fun v3 =>
    some v3))
set_option maxHeartbeats 4000000 in
set_option maxRecDepth 100000 in
theorem c_X4_get (l : Launch) (D : va_G) (cI cC cE : ClassId) (h0 h1 : Nat) (sz : Nat) (n : Nat) (f : Nat → Int32) (cols : Int32) (rows : Int32) (p1 : Int32) (p2 : Int32) (r0 : Int32) (h : d_X4_get n p1 p2 f cols = some r0) : Met l yX4_get wsX4_get ({ frames := 0, cells := 0, slots := 0, locals := 0 } : Room) (kP D (kT cI cC cE) [.ref h0, .int p1, .int p2] (w_X4_get cI cC h0 h1 n f cols rows) sz) (kQi D (kT cI cC cE) (w_X4_get cI cC h0 h1 n f cols rows) (w_X4_get cI cC h0 h1 n f cols rows) sz r0) 0 0 (va_A (w_X4_get cI cC h0 h1 n f cols rows) sz) := by
  refine kMetI (cc := cX4_get) (maxL := 4) (own := RX4) (by decide) rfl (Nat.le_of_ble_eq_true rfl) rfl ?_
  intro p e s m below meth c A Q hx hb hml hown hts hP hK hD hA hS hname fin ls hl
  have hl : lv_has ls 4 [(0, .ref h0), (1, .int p1), (2, .int p2)] := hl
  have hiX4 : ∀ w ∈ u_ws RX4 TX4 3, w ∈ wsX4_get := by decide +kernel
  dsimp only [d_X4_get] at h
  refine lv_iload_n hx hb dX4_get_0 rfl (lv_at hl 1 rfl) ?_
  refine lv_aload_n hx hb dX4_get_1 rfl (lv_at hl 0 rfl) ?_
  refine va_get (ci := 4) (C := RX4) (T := TX4) (N := 3) hx hb hts hiX4 hown hK hP 0 rfl rfl 1 (by decide) (hts (.fieldLink RX4 15 "RiddleTrade$Table" "columns" "I") (List.mem_of_getElem? (i := 1) rfl)) (fun _ h9 => h9) rfl dX4_get_2 ?_
  refine lv_imul hx hb dX4_get_5 ?_
  refine lv_iload_n hx hb dX4_get_6 rfl (lv_at hl 2 rfl) ?_
  refine lv_iadd hx hb dX4_get_7 ?_
  refine lv_istore_n (lv' := [(3, .int ((p1 * cols) + p2)), (0, .ref h0), (1, .int p1), (2, .int p2)]) hx hb dX4_get_8 rfl hl (by decide) rfl (fun ls hl => ?_)
  refine lv_iload_n hx hb dX4_get_9 rfl (lv_at hl 0 rfl) ?_
  refine lv_if_lt (tgt := 31) hx hb dX4_get_10 (by decide) (fun c1 => ?_) (fun c1 => ?_)
  · have h := (k_iB h).1 c1
    refine lv_iconst (v := 0) hx hb dX4_get_31 (by decide) ?_
    obtain rfl := Option.some.inj h
    exact fin _ _ _ _ dX4_get_32 hP hD hS
  · have h := (k_iB h).2 c1
    refine lv_iload_n hx hb dX4_get_13 rfl (lv_at hl 0 rfl) ?_
    refine lv_aload_n hx hb dX4_get_14 rfl (lv_at hl 1 rfl) ?_
    refine va_get (ci := 4) (C := RX4) (T := TX4) (N := 3) hx hb hts hiX4 hown hK hP 0 rfl rfl 0 (by decide) (hts (.fieldLink RX4 9 "RiddleTrade$Table" "cells" "[I") (List.mem_of_getElem? (i := 2) rfl)) (fun _ h9 => h9) rfl dX4_get_15 ?_
    refine va_alen (v := nI n) hx hb hK hP 1 0 rfl rfl rfl dX4_get_18 ?_
    refine lv_icmp_ge (tgt := 31) hx hb dX4_get_19 (by decide) (fun c2 => ?_) (fun c2 => ?_)
    · have h := (k_iB h).1 c2
      refine lv_iconst (v := 0) hx hb dX4_get_31 (by decide) ?_
      obtain rfl := Option.some.inj h
      exact fin _ _ _ _ dX4_get_32 hP hD hS
    · have h := (k_iB h).2 c2
      refine lv_aload_n hx hb dX4_get_22 rfl (lv_at hl 1 rfl) ?_
      refine va_get (ci := 4) (C := RX4) (T := TX4) (N := 3) hx hb hts hiX4 hown hK hP 0 rfl rfl 0 (by decide) (hts (.fieldLink RX4 9 "RiddleTrade$Table" "cells" "[I") (List.mem_of_getElem? (i := 2) rfl)) (fun _ h9 => h9) rfl dX4_get_23 ?_
      refine lv_iload_n hx hb dX4_get_26 rfl (lv_at hl 0 rfl) ?_
      refine k_iald hx hb hK hP 1 0 rfl rfl h dX4_get_27 (fun v3 h => ?_)
      refine lv_goto (tgt := 32) hx hb dX4_get_28 (by decide) ?_
      obtain rfl := Option.some.inj h
      exact fin _ _ _ _ dX4_get_32 hP hD hS
abbrev w_X4_put (cI cC : ClassId) (h0 h1 : Nat) (n : Nat) (f : Nat → Int32) (cols : Int32) (rows : Int32) : va_W := [(h0, .inr (4, [.ref h1, .int cols, .int rows])), (h1, .inl (cI, n, .inl f))]
def d_X4_put (n : Nat) (p1 : Int32) (p2 : Int32) (p3 : Int32) (f : Nat → Int32) (cols : Int32) : Option ((Nat → Int32)) :=
    if ((p1 * cols) + p2) < 0 then (some f)
    else (if (nI n) ≤ ((p1 * cols) + p2) then (some f)
    else (ob1 (wr n f ((p1 * cols) + p2) p3) fun f_3 =>
    some f_3))
set_option maxHeartbeats 4000000 in
set_option maxRecDepth 100000 in
theorem c_X4_put (l : Launch) (D : va_G) (cI cC cE : ClassId) (h0 h1 : Nat) (sz : Nat) (n : Nat) (f : Nat → Int32) (cols : Int32) (rows : Int32) (p1 : Int32) (p2 : Int32) (p3 : Int32) (o_f : Nat → Int32) (h : d_X4_put n p1 p2 p3 f cols = some o_f) : Met l yX4_put wsX4_put ({ frames := 0, cells := 0, slots := 0, locals := 0 } : Room) (kP D (kT cI cC cE) [.ref h0, .int p1, .int p2, .int p3] (w_X4_put cI cC h0 h1 n f cols rows) sz) (kQv D (kT cI cC cE) (w_X4_put cI cC h0 h1 n f cols rows) (w_X4_put cI cC h0 h1 n o_f cols rows) sz) 0 0 (va_A (w_X4_put cI cC h0 h1 n f cols rows) sz) := by
  refine kMetV (cc := cX4_put) (maxL := 5) (own := RX4) (by decide) rfl (Nat.le_of_ble_eq_true rfl) rfl ?_
  intro p e s m below meth c A Q hx hb hml hown hts hP hK hD hA hS hname fin ls hl
  have hl : lv_has ls 5 [(0, .ref h0), (1, .int p1), (2, .int p2), (3, .int p3)] := hl
  have hiX4 : ∀ w ∈ u_ws RX4 TX4 3, w ∈ wsX4_put := by decide +kernel
  dsimp only [d_X4_put] at h
  refine lv_iload_n hx hb dX4_put_0 rfl (lv_at hl 1 rfl) ?_
  refine lv_aload_n hx hb dX4_put_1 rfl (lv_at hl 0 rfl) ?_
  refine va_get (ci := 4) (C := RX4) (T := TX4) (N := 3) hx hb hts hiX4 hown hK hP 0 rfl rfl 1 (by decide) (hts (.fieldLink RX4 15 "RiddleTrade$Table" "columns" "I") (List.mem_of_getElem? (i := 1) rfl)) (fun _ h9 => h9) rfl dX4_put_2 ?_
  refine lv_imul hx hb dX4_put_5 ?_
  refine lv_iload_n hx hb dX4_put_6 rfl (lv_at hl 2 rfl) ?_
  refine lv_iadd hx hb dX4_put_7 ?_
  refine lv_istore (lv' := [(4, .int ((p1 * cols) + p2)), (0, .ref h0), (1, .int p1), (2, .int p2), (3, .int p3)]) hx hb dX4_put_8 hl (by decide) rfl (fun ls hl => ?_)
  refine lv_iload hx hb dX4_put_10 (lv_at hl 0 rfl) ?_
  refine lv_if_lt (tgt := 33) hx hb dX4_put_12 (by decide) (fun c1 => ?_) (fun c1 => ?_)
  · have h := (k_iB h).1 c1
    obtain rfl := Option.some.inj h
    exact fin _ _ _ _ dX4_put_33 hP hD hS
  · have h := (k_iB h).2 c1
    refine lv_iload hx hb dX4_put_15 (lv_at hl 0 rfl) ?_
    refine lv_aload_n hx hb dX4_put_17 rfl (lv_at hl 1 rfl) ?_
    refine va_get (ci := 4) (C := RX4) (T := TX4) (N := 3) hx hb hts hiX4 hown hK hP 0 rfl rfl 0 (by decide) (hts (.fieldLink RX4 9 "RiddleTrade$Table" "cells" "[I") (List.mem_of_getElem? (i := 2) rfl)) (fun _ h9 => h9) rfl dX4_put_18 ?_
    refine va_alen (v := nI n) hx hb hK hP 1 0 rfl rfl rfl dX4_put_21 ?_
    refine lv_icmp_ge (tgt := 33) hx hb dX4_put_22 (by decide) (fun c2 => ?_) (fun c2 => ?_)
    · have h := (k_iB h).1 c2
      obtain rfl := Option.some.inj h
      exact fin _ _ _ _ dX4_put_33 hP hD hS
    · have h := (k_iB h).2 c2
      refine lv_aload_n hx hb dX4_put_25 rfl (lv_at hl 1 rfl) ?_
      refine va_get (ci := 4) (C := RX4) (T := TX4) (N := 3) hx hb hts hiX4 hown hK hP 0 rfl rfl 0 (by decide) (hts (.fieldLink RX4 9 "RiddleTrade$Table" "cells" "[I") (List.mem_of_getElem? (i := 2) rfl)) (fun _ h9 => h9) rfl dX4_put_26 ?_
      refine lv_iload hx hb dX4_put_29 (lv_at hl 0 rfl) ?_
      refine lv_iload_n hx hb dX4_put_31 rfl (lv_at hl 4 rfl) ?_
      refine k_iast hx hb hK hP hD hS 1 0 rfl rfl h dX4_put_32 (fun f_3 H locs hP hD hS h => ?_)
      have hP : va_P D vwCl (w_X4_put cI cC h0 h1 n f_3 cols rows) H := hP
      have hD : va_D A (w_X4_put cI cC h0 h1 n f_3 cols rows) := hD
      obtain rfl := Option.some.inj h
      exact fin _ _ _ _ dX4_put_33 hP hD hS
abbrev w_X4_increase (cI cC : ClassId) (h0 h1 : Nat) (n : Nat) (f : Nat → Int32) (cols : Int32) (rows : Int32) : va_W := [(h0, .inr (4, [.ref h1, .int cols, .int rows])), (h1, .inl (cI, n, .inl f))]
def d_X4_increase (n : Nat) (p1 : Int32) (p2 : Int32) (p3 : Int32) (f : Nat → Int32) (cols : Int32) : Option ((Nat → Int32)) :=
    if ((p1 * cols) + p2) < 0 then (some f)
    else (if (nI n) ≤ ((p1 * cols) + p2) then (some f)
    else (ob1 (rd n f ((p1 * cols) + p2)) fun v3 =>
    ob1 (wr n f ((p1 * cols) + p2) (v3 + p3)) fun f_4 =>
    some f_4))
set_option maxHeartbeats 4000000 in
set_option maxRecDepth 100000 in
theorem c_X4_increase (l : Launch) (D : va_G) (cI cC cE : ClassId) (h0 h1 : Nat) (sz : Nat) (n : Nat) (f : Nat → Int32) (cols : Int32) (rows : Int32) (p1 : Int32) (p2 : Int32) (p3 : Int32) (o_f : Nat → Int32) (h : d_X4_increase n p1 p2 p3 f cols = some o_f) : Met l yX4_increase wsX4_increase ({ frames := 0, cells := 0, slots := 0, locals := 0 } : Room) (kP D (kT cI cC cE) [.ref h0, .int p1, .int p2, .int p3] (w_X4_increase cI cC h0 h1 n f cols rows) sz) (kQv D (kT cI cC cE) (w_X4_increase cI cC h0 h1 n f cols rows) (w_X4_increase cI cC h0 h1 n o_f cols rows) sz) 0 0 (va_A (w_X4_increase cI cC h0 h1 n f cols rows) sz) := by
  refine kMetV (cc := cX4_increase) (maxL := 5) (own := RX4) (by decide) rfl (Nat.le_of_ble_eq_true rfl) rfl ?_
  intro p e s m below meth c A Q hx hb hml hown hts hP hK hD hA hS hname fin ls hl
  have hl : lv_has ls 5 [(0, .ref h0), (1, .int p1), (2, .int p2), (3, .int p3)] := hl
  have hiX4 : ∀ w ∈ u_ws RX4 TX4 3, w ∈ wsX4_increase := by decide +kernel
  dsimp only [d_X4_increase] at h
  refine lv_iload_n hx hb dX4_increase_0 rfl (lv_at hl 1 rfl) ?_
  refine lv_aload_n hx hb dX4_increase_1 rfl (lv_at hl 0 rfl) ?_
  refine va_get (ci := 4) (C := RX4) (T := TX4) (N := 3) hx hb hts hiX4 hown hK hP 0 rfl rfl 1 (by decide) (hts (.fieldLink RX4 15 "RiddleTrade$Table" "columns" "I") (List.mem_of_getElem? (i := 1) rfl)) (fun _ h9 => h9) rfl dX4_increase_2 ?_
  refine lv_imul hx hb dX4_increase_5 ?_
  refine lv_iload_n hx hb dX4_increase_6 rfl (lv_at hl 2 rfl) ?_
  refine lv_iadd hx hb dX4_increase_7 ?_
  refine lv_istore (lv' := [(4, .int ((p1 * cols) + p2)), (0, .ref h0), (1, .int p1), (2, .int p2), (3, .int p3)]) hx hb dX4_increase_8 hl (by decide) rfl (fun ls hl => ?_)
  refine lv_iload hx hb dX4_increase_10 (lv_at hl 0 rfl) ?_
  refine lv_if_lt (tgt := 36) hx hb dX4_increase_12 (by decide) (fun c1 => ?_) (fun c1 => ?_)
  · have h := (k_iB h).1 c1
    obtain rfl := Option.some.inj h
    exact fin _ _ _ _ dX4_increase_36 hP hD hS
  · have h := (k_iB h).2 c1
    refine lv_iload hx hb dX4_increase_15 (lv_at hl 0 rfl) ?_
    refine lv_aload_n hx hb dX4_increase_17 rfl (lv_at hl 1 rfl) ?_
    refine va_get (ci := 4) (C := RX4) (T := TX4) (N := 3) hx hb hts hiX4 hown hK hP 0 rfl rfl 0 (by decide) (hts (.fieldLink RX4 9 "RiddleTrade$Table" "cells" "[I") (List.mem_of_getElem? (i := 2) rfl)) (fun _ h9 => h9) rfl dX4_increase_18 ?_
    refine va_alen (v := nI n) hx hb hK hP 1 0 rfl rfl rfl dX4_increase_21 ?_
    refine lv_icmp_ge (tgt := 36) hx hb dX4_increase_22 (by decide) (fun c2 => ?_) (fun c2 => ?_)
    · have h := (k_iB h).1 c2
      obtain rfl := Option.some.inj h
      exact fin _ _ _ _ dX4_increase_36 hP hD hS
    · have h := (k_iB h).2 c2
      refine lv_aload_n hx hb dX4_increase_25 rfl (lv_at hl 1 rfl) ?_
      refine va_get (ci := 4) (C := RX4) (T := TX4) (N := 3) hx hb hts hiX4 hown hK hP 0 rfl rfl 0 (by decide) (hts (.fieldLink RX4 9 "RiddleTrade$Table" "cells" "[I") (List.mem_of_getElem? (i := 2) rfl)) (fun _ h9 => h9) rfl dX4_increase_26 ?_
      refine lv_iload hx hb dX4_increase_29 (lv_at hl 0 rfl) ?_
      refine lv_dup2_11 hx hb dX4_increase_31 rfl rfl ?_
      refine k_iald hx hb hK hP 1 0 rfl rfl h dX4_increase_32 (fun v3 h => ?_)
      refine lv_iload_n hx hb dX4_increase_33 rfl (lv_at hl 4 rfl) ?_
      refine lv_iadd hx hb dX4_increase_34 ?_
      refine k_iast hx hb hK hP hD hS 1 0 rfl rfl h dX4_increase_35 (fun f_4 H locs hP hD hS h => ?_)
      have hP : va_P D vwCl (w_X4_increase cI cC h0 h1 n f_4 cols rows) H := hP
      have hD : va_D A (w_X4_increase cI cC h0 h1 n f_4 cols rows) := hD
      obtain rfl := Option.some.inj h
      exact fin _ _ _ _ dX4_increase_36 hP hD hS
abbrev w_X4_countOf (cI cC : ClassId) (h0 h1 : Nat) (n : Nat) (f : Nat → Int32) (cols : Int32) (rows : Int32) : va_W := [(h0, .inr (4, [.ref h1, .int cols, .int rows])), (h1, .inl (cI, n, .inl f))]
def lp_X4_countOf_5 (n : Nat) (f : Nat → Int32) (cols : Int32) (rows : Int32) (p1 : Int32) (p2 : Int32) : Nat → Int32 → Int32 → Option (Int32)
  | 0 => fun _ _ => none
  | k + 1 => fun x3 x4 =>
    if rows ≤ x4 then (some x3)
    else (ob1 (d_X4_get n x4 p1 f cols) fun r2 =>
    if r2 = p2 then ((lp_X4_countOf_5  n f cols rows p1 p2 k) (x3 + 1) (x4 + 1))
    else ((lp_X4_countOf_5  n f cols rows p1 p2 k) x3 (x4 + 1)))
def d_X4_countOf (n : Nat) (p1 : Int32) (p2 : Int32) (f : Nat → Int32) (cols : Int32) (rows : Int32) : Option (Int32) :=
    lp_X4_countOf_5  n f cols rows p1 p2 fuel 0 0
set_option maxHeartbeats 4000000 in
set_option maxRecDepth 100000 in
theorem c_X4_countOf (l : Launch) (D : va_G) (cI cC cE : ClassId) (h0 h1 : Nat) (sz : Nat) (n : Nat) (f : Nat → Int32) (cols : Int32) (rows : Int32) (p1 : Int32) (p2 : Int32) (r0 : Int32) (h : d_X4_countOf n p1 p2 f cols rows = some r0) : Met l yX4_countOf wsX4_countOf ({ frames := 1, cells := 0, slots := 0, locals := 23 } : Room) (kP D (kT cI cC cE) [.ref h0, .int p1, .int p2] (w_X4_countOf cI cC h0 h1 n f cols rows) sz) (kQi D (kT cI cC cE) (w_X4_countOf cI cC h0 h1 n f cols rows) (w_X4_countOf cI cC h0 h1 n f cols rows) sz r0) 0 0 (va_A (w_X4_countOf cI cC h0 h1 n f cols rows) sz) := by
  refine kMetI (cc := cX4_countOf) (maxL := 5) (own := RX4) (by decide) rfl (Nat.le_of_ble_eq_true rfl) rfl ?_
  intro p e s m below meth c A Q hx hb hml hown hts hP hK hD hA hS hname fin ls hl
  have hl : lv_has ls 5 [(0, .ref h0), (1, .int p1), (2, .int p2)] := hl
  have hiX4 : ∀ w ∈ u_ws RX4 TX4 3, w ∈ wsX4_countOf := by decide +kernel
  have hL5 : ∀ (k : Nat), ∀ (x3 : Int32) (x4 : Int32) (H : Heap) (locs : List Loc), va_P D vwCl (w_X4_countOf cI cC h0 h1 n f cols rows) H → va_D A (w_X4_countOf cI cC h0 h1 n f cols rows) → va_S A s.heap H locs → ∀ (ls : Array Slot), lv_has ls 5 [(0, .ref h0), (1, .int p1), (2, .int p2), (3, .int x3), (4, .int x4)] → lp_X4_countOf_5  n f cols rows p1 p2 k x3 x4 = some r0 → W p l e ({ frames := 1, cells := 0, slots := 0, locals := 23 } : Room) s m [.ref h0, .int p1, .int p2].toArray below meth c H locs 0 0 Q (F0 m 5 ls []) := by
    intro k
    induction k with
    | zero =>
      intro x3 x4 H locs hP hD hS ls hl h
      exact k_none h
    | succ k ih =>
      intro x3 x4 H locs hP hD hS ls hl h
      dsimp only [lp_X4_countOf_5] at h
      refine lv_iload hx hb dX4_countOf_5 (lv_at hl 4 rfl) ?_
      refine lv_aload_n hx hb dX4_countOf_7 rfl (lv_at hl 0 rfl) ?_
      refine va_get (ci := 4) (C := RX4) (T := TX4) (N := 3) hx hb hts hiX4 hown hK hP 0 rfl rfl 2 (by decide) (hts (.fieldLink RX4 19 "RiddleTrade$Table" "rows" "I") (List.mem_of_getElem? (i := 1) rfl)) (fun _ h9 => h9) rfl dX4_countOf_8 ?_
      refine lv_icmp_ge (tgt := 34) hx hb dX4_countOf_11 (by decide) (fun c1 => ?_) (fun c1 => ?_)
      · have h := (k_iB h).1 c1
        refine lv_iload_n hx hb dX4_countOf_34 rfl (lv_at hl 3 rfl) ?_
        obtain rfl := Option.some.inj h
        exact fin _ _ _ _ dX4_countOf_35 hP hD hS
      · have h := (k_iB h).2 c1
        refine lv_aload_n hx hb dX4_countOf_14 rfl (lv_at hl 0 rfl) ?_
        refine lv_iload hx hb dX4_countOf_15 (lv_at hl 4 rfl) ?_
        refine lv_iload_n hx hb dX4_countOf_17 rfl (lv_at hl 1 rfl) ?_
        obtain ⟨r2, hu3, h⟩ := ob1_el h
        refine kcVi (ci := 4) (q := (RX4, TX4, 3)) (ws1 := (w_X4_countOf cI cC h0 h1 n f cols rows)) ⟨hx, hb, hml, hown, hts⟩ [0, 1] [] (c_X4_get l D cI cC cE h0 h1 _ n f cols rows x4 p1 r2 hu3) (cwV 2 hts gX4_countOf_X4_get rfl rfl rfl (by decide +kernel) ⟨Nat.le_of_ble_eq_true rfl, Nat.le_of_ble_eq_true rfl⟩) hK hP hD hS hA rfl rfl rfl rfl rfl rfl rfl rfl rfl hl.1 rfl (Nat.le_of_ble_eq_true rfl) dX4_countOf_18 ⟨Nat.le_refl 0, Nat.le_refl 0⟩ (fun H locs hP hD hS => ?_)
        refine lv_iload_n hx hb dX4_countOf_21 rfl (lv_at hl 2 rfl) ?_
        refine lv_icmp_ne (tgt := 28) hx hb dX4_countOf_22 (by decide) (fun c4 => ?_) (fun c4 => ?_)
        · have h := (k_iB h).2 c4
          refine lv_iinc (v := (x4 + 1)) (lv' := [(4, .int (x4 + 1)), (0, .ref h0), (1, .int p1), (2, .int p2), (3, .int x3)]) hx hb dX4_countOf_28 hl (k := 4) rfl rfl (by decide) rfl (fun ls hl => ?_)
          refine lv_goto (tgt := 5) hx hb dX4_countOf_31 (by decide) ?_
          exact ih x3 (x4 + 1) _ _ hP hD hS _ (lv_sub hl [1, 2, 3, 4, 0] rfl) h
        · have h := (k_iB h).1 c4
          refine lv_iinc (v := (x3 + 1)) (lv' := [(3, .int (x3 + 1)), (0, .ref h0), (1, .int p1), (2, .int p2), (4, .int x4)]) hx hb dX4_countOf_25 hl (k := 3) rfl rfl (by decide) rfl (fun ls hl => ?_)
          refine lv_iinc (v := (x4 + 1)) (lv' := [(4, .int (x4 + 1)), (3, .int (x3 + 1)), (0, .ref h0), (1, .int p1), (2, .int p2)]) hx hb dX4_countOf_28 hl (k := 4) rfl rfl (by decide) rfl (fun ls hl => ?_)
          refine lv_goto (tgt := 5) hx hb dX4_countOf_31 (by decide) ?_
          exact ih (x3 + 1) (x4 + 1) _ _ hP hD hS _ (lv_sub hl [2, 3, 4, 1, 0] rfl) h
  dsimp only [d_X4_countOf] at h
  refine lv_iconst (v := 0) hx hb dX4_countOf_0 (by decide) ?_
  refine lv_istore_n (lv' := [(3, .int 0), (0, .ref h0), (1, .int p1), (2, .int p2)]) hx hb dX4_countOf_1 rfl hl (by decide) rfl (fun ls hl => ?_)
  refine lv_iconst (v := 0) hx hb dX4_countOf_2 (by decide) ?_
  refine lv_istore (lv' := [(4, .int 0), (3, .int 0), (0, .ref h0), (1, .int p1), (2, .int p2)]) hx hb dX4_countOf_3 hl (by decide) rfl (fun ls hl => ?_)
  exact hL5   fuel 0 0 _ _ hP hD hS _ (lv_sub hl [2, 3, 4, 1, 0] rfl) h
abbrev w_X4_countOfBoth (cI cC : ClassId) (h0 h1 : Nat) (n : Nat) (f : Nat → Int32) (cols : Int32) (rows : Int32) : va_W := [(h0, .inr (4, [.ref h1, .int cols, .int rows])), (h1, .inl (cI, n, .inl f))]
def lp_X4_countOfBoth_6 (n : Nat) (f : Nat → Int32) (cols : Int32) (rows : Int32) (p1 : Int32) (p2 : Int32) (p3 : Int32) (p4 : Int32) : Nat → Int32 → Int32 → Option (Int32)
  | 0 => fun _ _ => none
  | k + 1 => fun x5 x6 =>
    if rows ≤ x6 then (some x5)
    else (ob1 (d_X4_get n x6 p1 f cols) fun r2 =>
    if r2 = p2 then (ob1 (d_X4_get n x6 p3 f cols) fun r5 =>
    if r5 = p4 then ((lp_X4_countOfBoth_6  n f cols rows p1 p2 p3 p4 k) (x5 + 1) (x6 + 1))
    else ((lp_X4_countOfBoth_6  n f cols rows p1 p2 p3 p4 k) x5 (x6 + 1)))
    else ((lp_X4_countOfBoth_6  n f cols rows p1 p2 p3 p4 k) x5 (x6 + 1)))
def d_X4_countOfBoth (n : Nat) (p1 : Int32) (p2 : Int32) (p3 : Int32) (p4 : Int32) (f : Nat → Int32) (cols : Int32) (rows : Int32) : Option (Int32) :=
    lp_X4_countOfBoth_6  n f cols rows p1 p2 p3 p4 fuel 0 0
set_option maxHeartbeats 4000000 in
set_option maxRecDepth 100000 in
theorem c_X4_countOfBoth (l : Launch) (D : va_G) (cI cC cE : ClassId) (h0 h1 : Nat) (sz : Nat) (n : Nat) (f : Nat → Int32) (cols : Int32) (rows : Int32) (p1 : Int32) (p2 : Int32) (p3 : Int32) (p4 : Int32) (r0 : Int32) (h : d_X4_countOfBoth n p1 p2 p3 p4 f cols rows = some r0) : Met l yX4_countOfBoth wsX4_countOfBoth ({ frames := 1, cells := 0, slots := 0, locals := 23 } : Room) (kP D (kT cI cC cE) [.ref h0, .int p1, .int p2, .int p3, .int p4] (w_X4_countOfBoth cI cC h0 h1 n f cols rows) sz) (kQi D (kT cI cC cE) (w_X4_countOfBoth cI cC h0 h1 n f cols rows) (w_X4_countOfBoth cI cC h0 h1 n f cols rows) sz r0) 0 0 (va_A (w_X4_countOfBoth cI cC h0 h1 n f cols rows) sz) := by
  refine kMetI (cc := cX4_countOfBoth) (maxL := 7) (own := RX4) (by decide) rfl (Nat.le_of_ble_eq_true rfl) rfl ?_
  intro p e s m below meth c A Q hx hb hml hown hts hP hK hD hA hS hname fin ls hl
  have hl : lv_has ls 7 [(0, .ref h0), (1, .int p1), (2, .int p2), (3, .int p3), (4, .int p4)] := hl
  have hiX4 : ∀ w ∈ u_ws RX4 TX4 3, w ∈ wsX4_countOfBoth := by decide +kernel
  have hL6 : ∀ (k : Nat), ∀ (x5 : Int32) (x6 : Int32) (H : Heap) (locs : List Loc), va_P D vwCl (w_X4_countOfBoth cI cC h0 h1 n f cols rows) H → va_D A (w_X4_countOfBoth cI cC h0 h1 n f cols rows) → va_S A s.heap H locs → ∀ (ls : Array Slot), lv_has ls 7 [(0, .ref h0), (1, .int p1), (2, .int p2), (3, .int p3), (4, .int p4), (5, .int x5), (6, .int x6)] → lp_X4_countOfBoth_6  n f cols rows p1 p2 p3 p4 k x5 x6 = some r0 → W p l e ({ frames := 1, cells := 0, slots := 0, locals := 23 } : Room) s m [.ref h0, .int p1, .int p2, .int p3, .int p4].toArray below meth c H locs 0 0 Q (F0 m 6 ls []) := by
    intro k
    induction k with
    | zero =>
      intro x5 x6 H locs hP hD hS ls hl h
      exact k_none h
    | succ k ih =>
      intro x5 x6 H locs hP hD hS ls hl h
      dsimp only [lp_X4_countOfBoth_6] at h
      refine lv_iload hx hb dX4_countOfBoth_6 (lv_at hl 6 rfl) ?_
      refine lv_aload_n hx hb dX4_countOfBoth_8 rfl (lv_at hl 0 rfl) ?_
      refine va_get (ci := 4) (C := RX4) (T := TX4) (N := 3) hx hb hts hiX4 hown hK hP 0 rfl rfl 2 (by decide) (hts (.fieldLink RX4 19 "RiddleTrade$Table" "rows" "I") (List.mem_of_getElem? (i := 1) rfl)) (fun _ h9 => h9) rfl dX4_countOfBoth_9 ?_
      refine lv_icmp_ge (tgt := 47) hx hb dX4_countOfBoth_12 (by decide) (fun c1 => ?_) (fun c1 => ?_)
      · have h := (k_iB h).1 c1
        refine lv_iload hx hb dX4_countOfBoth_47 (lv_at hl 5 rfl) ?_
        obtain rfl := Option.some.inj h
        exact fin _ _ _ _ dX4_countOfBoth_49 hP hD hS
      · have h := (k_iB h).2 c1
        refine lv_aload_n hx hb dX4_countOfBoth_15 rfl (lv_at hl 0 rfl) ?_
        refine lv_iload hx hb dX4_countOfBoth_16 (lv_at hl 6 rfl) ?_
        refine lv_iload_n hx hb dX4_countOfBoth_18 rfl (lv_at hl 1 rfl) ?_
        obtain ⟨r2, hu3, h⟩ := ob1_el h
        refine kcVi (ci := 4) (q := (RX4, TX4, 3)) (ws1 := (w_X4_countOfBoth cI cC h0 h1 n f cols rows)) ⟨hx, hb, hml, hown, hts⟩ [0, 1] [] (c_X4_get l D cI cC cE h0 h1 _ n f cols rows x6 p1 r2 hu3) (cwV 2 hts gX4_countOfBoth_X4_get rfl rfl rfl (by decide +kernel) ⟨Nat.le_of_ble_eq_true rfl, Nat.le_of_ble_eq_true rfl⟩) hK hP hD hS hA rfl rfl rfl rfl rfl rfl rfl rfl rfl hl.1 rfl (Nat.le_of_ble_eq_true rfl) dX4_countOfBoth_19 ⟨Nat.le_refl 0, Nat.le_refl 0⟩ (fun H locs hP hD hS => ?_)
        refine lv_iload_n hx hb dX4_countOfBoth_22 rfl (lv_at hl 2 rfl) ?_
        refine lv_icmp_ne (tgt := 41) hx hb dX4_countOfBoth_23 (by decide) (fun c4 => ?_) (fun c4 => ?_)
        · have h := (k_iB h).2 c4
          refine lv_iinc (v := (x6 + 1)) (lv' := [(6, .int (x6 + 1)), (0, .ref h0), (1, .int p1), (2, .int p2), (3, .int p3), (4, .int p4), (5, .int x5)]) hx hb dX4_countOfBoth_41 hl (k := 6) rfl rfl (by decide) rfl (fun ls hl => ?_)
          refine lv_goto (tgt := 6) hx hb dX4_countOfBoth_44 (by decide) ?_
          exact ih x5 (x6 + 1) _ _ hP hD hS _ (lv_sub hl [1, 2, 3, 4, 5, 6, 0] rfl) h
        · have h := (k_iB h).1 c4
          refine lv_aload_n hx hb dX4_countOfBoth_26 rfl (lv_at hl 0 rfl) ?_
          refine lv_iload hx hb dX4_countOfBoth_27 (lv_at hl 6 rfl) ?_
          refine lv_iload_n hx hb dX4_countOfBoth_29 rfl (lv_at hl 3 rfl) ?_
          obtain ⟨r5, hu6, h⟩ := ob1_el h
          refine kcVi (ci := 4) (q := (RX4, TX4, 3)) (ws1 := (w_X4_countOfBoth cI cC h0 h1 n f cols rows)) ⟨hx, hb, hml, hown, hts⟩ [0, 1] [] (c_X4_get l D cI cC cE h0 h1 _ n f cols rows x6 p3 r5 hu6) (cwV 2 hts gX4_countOfBoth_X4_get rfl rfl rfl (by decide +kernel) ⟨Nat.le_of_ble_eq_true rfl, Nat.le_of_ble_eq_true rfl⟩) hK hP hD hS hA rfl rfl rfl rfl rfl rfl rfl rfl rfl hl.1 rfl (Nat.le_of_ble_eq_true rfl) dX4_countOfBoth_30 ⟨Nat.le_refl 0, Nat.le_refl 0⟩ (fun H locs hP hD hS => ?_)
          refine lv_iload hx hb dX4_countOfBoth_33 (lv_at hl 4 rfl) ?_
          refine lv_icmp_ne (tgt := 41) hx hb dX4_countOfBoth_35 (by decide) (fun c7 => ?_) (fun c7 => ?_)
          · have h := (k_iB h).2 c7
            refine lv_iinc (v := (x6 + 1)) (lv' := [(6, .int (x6 + 1)), (0, .ref h0), (1, .int p1), (2, .int p2), (3, .int p3), (4, .int p4), (5, .int x5)]) hx hb dX4_countOfBoth_41 hl (k := 6) rfl rfl (by decide) rfl (fun ls hl => ?_)
            refine lv_goto (tgt := 6) hx hb dX4_countOfBoth_44 (by decide) ?_
            exact ih x5 (x6 + 1) _ _ hP hD hS _ (lv_sub hl [1, 2, 3, 4, 5, 6, 0] rfl) h
          · have h := (k_iB h).1 c7
            refine lv_iinc (v := (x5 + 1)) (lv' := [(5, .int (x5 + 1)), (0, .ref h0), (1, .int p1), (2, .int p2), (3, .int p3), (4, .int p4), (6, .int x6)]) hx hb dX4_countOfBoth_38 hl (k := 5) rfl rfl (by decide) rfl (fun ls hl => ?_)
            refine lv_iinc (v := (x6 + 1)) (lv' := [(6, .int (x6 + 1)), (5, .int (x5 + 1)), (0, .ref h0), (1, .int p1), (2, .int p2), (3, .int p3), (4, .int p4)]) hx hb dX4_countOfBoth_41 hl (k := 6) rfl rfl (by decide) rfl (fun ls hl => ?_)
            refine lv_goto (tgt := 6) hx hb dX4_countOfBoth_44 (by decide) ?_
            exact ih (x5 + 1) (x6 + 1) _ _ hP hD hS _ (lv_sub hl [2, 3, 4, 5, 6, 1, 0] rfl) h
  dsimp only [d_X4_countOfBoth] at h
  refine lv_iconst (v := 0) hx hb dX4_countOfBoth_0 (by decide) ?_
  refine lv_istore (lv' := [(5, .int 0), (0, .ref h0), (1, .int p1), (2, .int p2), (3, .int p3), (4, .int p4)]) hx hb dX4_countOfBoth_1 hl (by decide) rfl (fun ls hl => ?_)
  refine lv_iconst (v := 0) hx hb dX4_countOfBoth_3 (by decide) ?_
  refine lv_istore (lv' := [(6, .int 0), (5, .int 0), (0, .ref h0), (1, .int p1), (2, .int p2), (3, .int p3), (4, .int p4)]) hx hb dX4_countOfBoth_4 hl (by decide) rfl (fun ls hl => ?_)
  exact hL6   fuel 0 0 _ _ hP hD hS _ (lv_sub hl [2, 3, 4, 5, 6, 1, 0] rfl) h
abbrev w_X4_rowOfBoth (cI cC : ClassId) (h0 h1 : Nat) (n : Nat) (f : Nat → Int32) (cols : Int32) (rows : Int32) : va_W := [(h0, .inr (4, [.ref h1, .int cols, .int rows])), (h1, .inl (cI, n, .inl f))]
def lp_X4_rowOfBoth_3 (n : Nat) (f : Nat → Int32) (cols : Int32) (rows : Int32) (p1 : Int32) (p2 : Int32) (p3 : Int32) (p4 : Int32) : Nat → Int32 → Option (Int32)
  | 0 => fun _ => none
  | k + 1 => fun x5 =>
    if rows ≤ x5 then (some (-5))
    else (ob1 (d_X4_get n x5 p1 f cols) fun r2 =>
    if r2 = p2 then (ob1 (d_X4_get n x5 p3 f cols) fun r5 =>
    if r5 = p4 then (some x5)
    else ((lp_X4_rowOfBoth_3  n f cols rows p1 p2 p3 p4 k) (x5 + 1)))
    else ((lp_X4_rowOfBoth_3  n f cols rows p1 p2 p3 p4 k) (x5 + 1)))
def d_X4_rowOfBoth (n : Nat) (p1 : Int32) (p2 : Int32) (p3 : Int32) (p4 : Int32) (f : Nat → Int32) (cols : Int32) (rows : Int32) : Option (Int32) :=
    lp_X4_rowOfBoth_3  n f cols rows p1 p2 p3 p4 fuel 0
set_option maxHeartbeats 4000000 in
set_option maxRecDepth 100000 in
theorem c_X4_rowOfBoth (l : Launch) (D : va_G) (cI cC cE : ClassId) (h0 h1 : Nat) (sz : Nat) (n : Nat) (f : Nat → Int32) (cols : Int32) (rows : Int32) (p1 : Int32) (p2 : Int32) (p3 : Int32) (p4 : Int32) (r0 : Int32) (h : d_X4_rowOfBoth n p1 p2 p3 p4 f cols rows = some r0) : Met l yX4_rowOfBoth wsX4_rowOfBoth ({ frames := 1, cells := 0, slots := 0, locals := 23 } : Room) (kP D (kT cI cC cE) [.ref h0, .int p1, .int p2, .int p3, .int p4] (w_X4_rowOfBoth cI cC h0 h1 n f cols rows) sz) (kQi D (kT cI cC cE) (w_X4_rowOfBoth cI cC h0 h1 n f cols rows) (w_X4_rowOfBoth cI cC h0 h1 n f cols rows) sz r0) 0 0 (va_A (w_X4_rowOfBoth cI cC h0 h1 n f cols rows) sz) := by
  refine kMetI (cc := cX4_rowOfBoth) (maxL := 6) (own := RX4) (by decide) rfl (Nat.le_of_ble_eq_true rfl) rfl ?_
  intro p e s m below meth c A Q hx hb hml hown hts hP hK hD hA hS hname fin ls hl
  have hl : lv_has ls 6 [(0, .ref h0), (1, .int p1), (2, .int p2), (3, .int p3), (4, .int p4)] := hl
  have hiX4 : ∀ w ∈ u_ws RX4 TX4 3, w ∈ wsX4_rowOfBoth := by decide +kernel
  have hL3 : ∀ (k : Nat), ∀ (x5 : Int32) (H : Heap) (locs : List Loc), va_P D vwCl (w_X4_rowOfBoth cI cC h0 h1 n f cols rows) H → va_D A (w_X4_rowOfBoth cI cC h0 h1 n f cols rows) → va_S A s.heap H locs → ∀ (ls : Array Slot), lv_has ls 6 [(0, .ref h0), (1, .int p1), (2, .int p2), (3, .int p3), (4, .int p4), (5, .int x5)] → lp_X4_rowOfBoth_3  n f cols rows p1 p2 p3 p4 k x5 = some r0 → W p l e ({ frames := 1, cells := 0, slots := 0, locals := 23 } : Room) s m [.ref h0, .int p1, .int p2, .int p3, .int p4].toArray below meth c H locs 0 0 Q (F0 m 3 ls []) := by
    intro k
    induction k with
    | zero =>
      intro x5 H locs hP hD hS ls hl h
      exact k_none h
    | succ k ih =>
      intro x5 H locs hP hD hS ls hl h
      dsimp only [lp_X4_rowOfBoth_3] at h
      refine lv_iload hx hb dX4_rowOfBoth_3 (lv_at hl 5 rfl) ?_
      refine lv_aload_n hx hb dX4_rowOfBoth_5 rfl (lv_at hl 0 rfl) ?_
      refine va_get (ci := 4) (C := RX4) (T := TX4) (N := 3) hx hb hts hiX4 hown hK hP 0 rfl rfl 2 (by decide) (hts (.fieldLink RX4 19 "RiddleTrade$Table" "rows" "I") (List.mem_of_getElem? (i := 1) rfl)) (fun _ h9 => h9) rfl dX4_rowOfBoth_6 ?_
      refine lv_icmp_ge (tgt := 44) hx hb dX4_rowOfBoth_9 (by decide) (fun c1 => ?_) (fun c1 => ?_)
      · have h := (k_iB h).1 c1
        refine lv_bipush (v := (-5)) hx hb dX4_rowOfBoth_44 (by decide) ?_
        obtain rfl := Option.some.inj h
        exact fin _ _ _ _ dX4_rowOfBoth_46 hP hD hS
      · have h := (k_iB h).2 c1
        refine lv_aload_n hx hb dX4_rowOfBoth_12 rfl (lv_at hl 0 rfl) ?_
        refine lv_iload hx hb dX4_rowOfBoth_13 (lv_at hl 5 rfl) ?_
        refine lv_iload_n hx hb dX4_rowOfBoth_15 rfl (lv_at hl 1 rfl) ?_
        obtain ⟨r2, hu3, h⟩ := ob1_el h
        refine kcVi (ci := 4) (q := (RX4, TX4, 3)) (ws1 := (w_X4_rowOfBoth cI cC h0 h1 n f cols rows)) ⟨hx, hb, hml, hown, hts⟩ [0, 1] [] (c_X4_get l D cI cC cE h0 h1 _ n f cols rows x5 p1 r2 hu3) (cwV 2 hts gX4_rowOfBoth_X4_get rfl rfl rfl (by decide +kernel) ⟨Nat.le_of_ble_eq_true rfl, Nat.le_of_ble_eq_true rfl⟩) hK hP hD hS hA rfl rfl rfl rfl rfl rfl rfl rfl rfl hl.1 rfl (Nat.le_of_ble_eq_true rfl) dX4_rowOfBoth_16 ⟨Nat.le_refl 0, Nat.le_refl 0⟩ (fun H locs hP hD hS => ?_)
        refine lv_iload_n hx hb dX4_rowOfBoth_19 rfl (lv_at hl 2 rfl) ?_
        refine lv_icmp_ne (tgt := 38) hx hb dX4_rowOfBoth_20 (by decide) (fun c4 => ?_) (fun c4 => ?_)
        · have h := (k_iB h).2 c4
          refine lv_iinc (v := (x5 + 1)) (lv' := [(5, .int (x5 + 1)), (0, .ref h0), (1, .int p1), (2, .int p2), (3, .int p3), (4, .int p4)]) hx hb dX4_rowOfBoth_38 hl (k := 5) rfl rfl (by decide) rfl (fun ls hl => ?_)
          refine lv_goto (tgt := 3) hx hb dX4_rowOfBoth_41 (by decide) ?_
          exact ih (x5 + 1) _ _ hP hD hS _ (lv_sub hl [1, 2, 3, 4, 5, 0] rfl) h
        · have h := (k_iB h).1 c4
          refine lv_aload_n hx hb dX4_rowOfBoth_23 rfl (lv_at hl 0 rfl) ?_
          refine lv_iload hx hb dX4_rowOfBoth_24 (lv_at hl 5 rfl) ?_
          refine lv_iload_n hx hb dX4_rowOfBoth_26 rfl (lv_at hl 3 rfl) ?_
          obtain ⟨r5, hu6, h⟩ := ob1_el h
          refine kcVi (ci := 4) (q := (RX4, TX4, 3)) (ws1 := (w_X4_rowOfBoth cI cC h0 h1 n f cols rows)) ⟨hx, hb, hml, hown, hts⟩ [0, 1] [] (c_X4_get l D cI cC cE h0 h1 _ n f cols rows x5 p3 r5 hu6) (cwV 2 hts gX4_rowOfBoth_X4_get rfl rfl rfl (by decide +kernel) ⟨Nat.le_of_ble_eq_true rfl, Nat.le_of_ble_eq_true rfl⟩) hK hP hD hS hA rfl rfl rfl rfl rfl rfl rfl rfl rfl hl.1 rfl (Nat.le_of_ble_eq_true rfl) dX4_rowOfBoth_27 ⟨Nat.le_refl 0, Nat.le_refl 0⟩ (fun H locs hP hD hS => ?_)
          refine lv_iload hx hb dX4_rowOfBoth_30 (lv_at hl 4 rfl) ?_
          refine lv_icmp_ne (tgt := 38) hx hb dX4_rowOfBoth_32 (by decide) (fun c7 => ?_) (fun c7 => ?_)
          · have h := (k_iB h).2 c7
            refine lv_iinc (v := (x5 + 1)) (lv' := [(5, .int (x5 + 1)), (0, .ref h0), (1, .int p1), (2, .int p2), (3, .int p3), (4, .int p4)]) hx hb dX4_rowOfBoth_38 hl (k := 5) rfl rfl (by decide) rfl (fun ls hl => ?_)
            refine lv_goto (tgt := 3) hx hb dX4_rowOfBoth_41 (by decide) ?_
            exact ih (x5 + 1) _ _ hP hD hS _ (lv_sub hl [1, 2, 3, 4, 5, 0] rfl) h
          · have h := (k_iB h).1 c7
            refine lv_iload hx hb dX4_rowOfBoth_35 (lv_at hl 5 rfl) ?_
            obtain rfl := Option.some.inj h
            exact fin _ _ _ _ dX4_rowOfBoth_37 hP hD hS
  dsimp only [d_X4_rowOfBoth] at h
  refine lv_iconst (v := 0) hx hb dX4_rowOfBoth_0 (by decide) ?_
  refine lv_istore (lv' := [(5, .int 0), (0, .ref h0), (1, .int p1), (2, .int p2), (3, .int p3), (4, .int p4)]) hx hb dX4_rowOfBoth_1 hl (by decide) rfl (fun ls hl => ?_)
  exact hL3   fuel 0 _ _ hP hD hS _ (lv_sub hl [1, 2, 3, 4, 5, 0] rfl) h
abbrev w_X4_sumOf (cI cC : ClassId) (h0 h1 : Nat) (n : Nat) (f : Nat → Int32) (cols : Int32) (rows : Int32) : va_W := [(h0, .inr (4, [.ref h1, .int cols, .int rows])), (h1, .inl (cI, n, .inl f))]
def lp_X4_sumOf_4 (n : Nat) (f : Nat → Int32) (cols : Int32) (rows : Int32) (p1 : Int32) : Nat → Int32 → Int32 → Option (Int32)
  | 0 => fun _ _ => none
  | k + 1 => fun x2 x3 =>
    if rows ≤ x3 then (some x2)
    else (ob1 (d_X4_get n x3 p1 f cols) fun r2 =>
    (lp_X4_sumOf_4  n f cols rows p1 k) (x2 + r2) (x3 + 1))
def d_X4_sumOf (n : Nat) (p1 : Int32) (f : Nat → Int32) (cols : Int32) (rows : Int32) : Option (Int32) :=
    lp_X4_sumOf_4  n f cols rows p1 fuel 0 0
set_option maxHeartbeats 4000000 in
set_option maxRecDepth 100000 in
theorem c_X4_sumOf (l : Launch) (D : va_G) (cI cC cE : ClassId) (h0 h1 : Nat) (sz : Nat) (n : Nat) (f : Nat → Int32) (cols : Int32) (rows : Int32) (p1 : Int32) (r0 : Int32) (h : d_X4_sumOf n p1 f cols rows = some r0) : Met l yX4_sumOf wsX4_sumOf ({ frames := 1, cells := 0, slots := 0, locals := 23 } : Room) (kP D (kT cI cC cE) [.ref h0, .int p1] (w_X4_sumOf cI cC h0 h1 n f cols rows) sz) (kQi D (kT cI cC cE) (w_X4_sumOf cI cC h0 h1 n f cols rows) (w_X4_sumOf cI cC h0 h1 n f cols rows) sz r0) 0 0 (va_A (w_X4_sumOf cI cC h0 h1 n f cols rows) sz) := by
  refine kMetI (cc := cX4_sumOf) (maxL := 4) (own := RX4) (by decide) rfl (Nat.le_of_ble_eq_true rfl) rfl ?_
  intro p e s m below meth c A Q hx hb hml hown hts hP hK hD hA hS hname fin ls hl
  have hl : lv_has ls 4 [(0, .ref h0), (1, .int p1)] := hl
  have hiX4 : ∀ w ∈ u_ws RX4 TX4 3, w ∈ wsX4_sumOf := by decide +kernel
  have hL4 : ∀ (k : Nat), ∀ (x2 : Int32) (x3 : Int32) (H : Heap) (locs : List Loc), va_P D vwCl (w_X4_sumOf cI cC h0 h1 n f cols rows) H → va_D A (w_X4_sumOf cI cC h0 h1 n f cols rows) → va_S A s.heap H locs → ∀ (ls : Array Slot), lv_has ls 4 [(0, .ref h0), (1, .int p1), (2, .int x2), (3, .int x3)] → lp_X4_sumOf_4  n f cols rows p1 k x2 x3 = some r0 → W p l e ({ frames := 1, cells := 0, slots := 0, locals := 23 } : Room) s m [.ref h0, .int p1].toArray below meth c H locs 0 0 Q (F0 m 4 ls []) := by
    intro k
    induction k with
    | zero =>
      intro x2 x3 H locs hP hD hS ls hl h
      exact k_none h
    | succ k ih =>
      intro x2 x3 H locs hP hD hS ls hl h
      dsimp only [lp_X4_sumOf_4] at h
      refine lv_iload_n hx hb dX4_sumOf_4 rfl (lv_at hl 3 rfl) ?_
      refine lv_aload_n hx hb dX4_sumOf_5 rfl (lv_at hl 0 rfl) ?_
      refine va_get (ci := 4) (C := RX4) (T := TX4) (N := 3) hx hb hts hiX4 hown hK hP 0 rfl rfl 2 (by decide) (hts (.fieldLink RX4 19 "RiddleTrade$Table" "rows" "I") (List.mem_of_getElem? (i := 1) rfl)) (fun _ h9 => h9) rfl dX4_sumOf_6 ?_
      refine lv_icmp_ge (tgt := 27) hx hb dX4_sumOf_9 (by decide) (fun c1 => ?_) (fun c1 => ?_)
      · have h := (k_iB h).1 c1
        refine lv_iload_n hx hb dX4_sumOf_27 rfl (lv_at hl 2 rfl) ?_
        obtain rfl := Option.some.inj h
        exact fin _ _ _ _ dX4_sumOf_28 hP hD hS
      · have h := (k_iB h).2 c1
        refine lv_iload_n hx hb dX4_sumOf_12 rfl (lv_at hl 2 rfl) ?_
        refine lv_aload_n hx hb dX4_sumOf_13 rfl (lv_at hl 0 rfl) ?_
        refine lv_iload_n hx hb dX4_sumOf_14 rfl (lv_at hl 3 rfl) ?_
        refine lv_iload_n hx hb dX4_sumOf_15 rfl (lv_at hl 1 rfl) ?_
        obtain ⟨r2, hu3, h⟩ := ob1_el h
        refine kcVi (ci := 4) (q := (RX4, TX4, 3)) (ws1 := (w_X4_sumOf cI cC h0 h1 n f cols rows)) ⟨hx, hb, hml, hown, hts⟩ [0, 1] [] (c_X4_get l D cI cC cE h0 h1 _ n f cols rows x3 p1 r2 hu3) (cwV 2 hts gX4_sumOf_X4_get rfl rfl rfl (by decide +kernel) ⟨Nat.le_of_ble_eq_true rfl, Nat.le_of_ble_eq_true rfl⟩) hK hP hD hS hA rfl rfl rfl rfl rfl rfl rfl rfl rfl hl.1 rfl (Nat.le_of_ble_eq_true rfl) dX4_sumOf_16 ⟨Nat.le_refl 0, Nat.le_refl 0⟩ (fun H locs hP hD hS => ?_)
        refine lv_iadd hx hb dX4_sumOf_19 ?_
        refine lv_istore_n (lv' := [(2, .int (x2 + r2)), (0, .ref h0), (1, .int p1), (3, .int x3)]) hx hb dX4_sumOf_20 rfl hl (by decide) rfl (fun ls hl => ?_)
        refine lv_iinc (v := (x3 + 1)) (lv' := [(3, .int (x3 + 1)), (2, .int (x2 + r2)), (0, .ref h0), (1, .int p1)]) hx hb dX4_sumOf_21 hl (k := 3) rfl rfl (by decide) rfl (fun ls hl => ?_)
        refine lv_goto (tgt := 4) hx hb dX4_sumOf_24 (by decide) ?_
        exact ih (x2 + r2) (x3 + 1) _ _ hP hD hS _ (lv_sub hl [2, 3, 1, 0] rfl) h
  dsimp only [d_X4_sumOf] at h
  refine lv_iconst (v := 0) hx hb dX4_sumOf_0 (by decide) ?_
  refine lv_istore_n (lv' := [(2, .int 0), (0, .ref h0), (1, .int p1)]) hx hb dX4_sumOf_1 rfl hl (by decide) rfl (fun ls hl => ?_)
  refine lv_iconst (v := 0) hx hb dX4_sumOf_2 (by decide) ?_
  refine lv_istore_n (lv' := [(3, .int 0), (2, .int 0), (0, .ref h0), (1, .int p1)]) hx hb dX4_sumOf_3 rfl hl (by decide) rfl (fun ls hl => ?_)
  exact hL4   fuel 0 0 _ _ hP hD hS _ (lv_sub hl [2, 3, 1, 0] rfl) h
