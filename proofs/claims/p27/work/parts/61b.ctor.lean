/-! part 61b: the constructors, the rest -/
set_option maxHeartbeats 4000000 in
set_option maxRecDepth 100000 in
theorem c_X1_init (l : Launch) (D : va_G) (cI cC cE : ClassId) (hh : Nat) (sz : Nat) : Met l yX1_init wsX1_init ({ frames := 3, cells := 53, slots := 1992, locals := 69 } : Room) (kPo D (kT cI cC cE) [.ref hh] (fl [[(hh, .inr (1, [.null, .int 0, .int 0]))]]) sz) (kQn (α := Nat × (Nat → Nat → Nat)) D (kT cI cC cE) (fl [[(hh, .inr (1, [.null, .int 0, .int 0]))]]) (fun _ => True) (fun u => fl [w_X1_stateAt cI cC cE hh u.1 u.2 0 0, exW cI (u.2 0) E0, exW cI (u.2 1) E0, exW cI (u.2 2) E0, exW cI (u.2 3) E0]) sz) 53 1992 (va_A (fl [[(hh, .inr (1, [.null, .int 0, .int 0]))]]) sz) := by
  refine kMetN (cc := cX1_init) (maxL := 2) (own := RX1) (by decide) rfl (Nat.le_of_ble_eq_true rfl) rfl ?_
  intro p e s m below meth c A Q hx hb hml hown hts hP hK hD hA hS hname hN fin ls hl
  have hl : lv_has ls 2 [(0, .ref hh)] := hl
  have hiX0 : ∀ w ∈ u_ws RX0 TX0 7, w ∈ wsX1_init := by decide +kernel
  have hiX1 : ∀ w ∈ u_ws RX1 TX1 3, w ∈ wsX1_init := by decide +kernel
  refine lv_aload_n hx hb dX1_init_0 rfl (lv_at hl 0 rfl) ?_
  refine W.objInit hx hb hown (hts (.methodLink RX1 3 objectInit) (List.mem_of_getElem? (i := 1) rfl)) (hts (.instanceMethod objectInit) (List.mem_of_getElem? (i := 2) rfl)) (hts _ (List.mem_of_getElem? (i := 3) rfl)) rfl (by rw [hml]; exact hl.1) rfl dX1_init_1 (Nat.le_of_ble_eq_true rfl) (Nat.le_of_ble_eq_true rfl) ?_
  refine W.eq (g2 := F0 m 4 ls []) rfl ?_
  refine lv_aload_n hx hb dX1_init_4 rfl (lv_at hl 0 rfl) ?_
  refine lv_iconst (v := 4) hx hb dX1_init_5 (by decide) ?_
  refine kNewQ (N' := 4) hx hb hown (hts (.classLink RX1 9 RX0) (List.mem_of_getElem? (i := 4) rfl)) hN.1 hK hP hD hS hA (by decide) (by decide) (Nat.le_of_ble_eq_true rfl) (Nat.le_of_ble_eq_true rfl) (Nat.le_of_ble_eq_true rfl) dX1_init_6 (fun q1 H hP hD hS => ?_)
  have hP : va_P D vwCl (fl [[(hh, .inr (1, [.null, .int 0, .int 0])), (q1, .inl (cE, 4, .inr (.inr (.inr (.inr (fun _ => none))))))]]) H := hP
  have hD : va_D A (fl [[(hh, .inr (1, [.null, .int 0, .int 0])), (q1, .inl (cE, 4, .inr (.inr (.inr (.inr (fun _ => none))))))]]) := hD
  refine va_putF (D := D) (ci := 1) (v := .ref q1) (ty := (.array (.object "RiddleTrade$Exchange"))) (C := RX1) (T := TX1) (N := 3) hx hb hts hiX1 tyX1 tyX1_ok nmX1 hown hK hP hD hS 0 rfl rfl 0 (by decide) (hts (.fieldLink RX1 11 "RiddleTrade$History" "states" "[LRiddleTrade$Exchange;") (List.mem_of_getElem? (i := 5) rfl)) (fun _ h9 => h9) rfl hname rfl (by decide +kernel) rfl rfl (Nat.le_of_ble_eq_true rfl) dX1_init_9 (fun H locs hP hD hS => ?_)
  have hP : va_P D vwCl (fl [[(hh, .inr (1, [.ref q1, .int 0, .int 0])), (q1, .inl (cE, 4, .inr (.inr (.inr (.inr (fun _ => none))))))]]) H := hP
  have hD : va_D A (fl [[(hh, .inr (1, [.ref q1, .int 0, .int 0])), (q1, .inl (cE, 4, .inr (.inr (.inr (.inr (fun _ => none))))))]]) := hD
  refine lv_iconst (v := 0) hx hb dX1_init_12 (by decide) ?_
  refine lv_istore_n (lv' := [(1, .int 0), (0, .ref hh)]) hx hb dX1_init_13 rfl hl (by decide) rfl (fun ls hl => ?_)
  refine lv_iload_n hx hb dX1_init_14 rfl (lv_at hl 0 rfl) ?_
  refine lv_aload_n hx hb dX1_init_15 rfl (lv_at hl 1 rfl) ?_
  refine va_get (ci := 1) (C := RX1) (T := TX1) (N := 3) hx hb hts hiX1 hown hK hP 0 rfl rfl 0 (by decide) (hts (.fieldLink RX1 11 "RiddleTrade$History" "states" "[LRiddleTrade$Exchange;") (List.mem_of_getElem? (i := 5) rfl)) (fun _ h9 => h9) rfl dX1_init_16 ?_
  refine va_alen (v := 4) hx hb hK hP 1 2 rfl rfl (show Int32.ofNat 4 = 4 from rfl) dX1_init_19 ?_
  refine lv_icmp_ge (tgt := 42) hx hb dX1_init_20 (by decide) (fun c => absurd c (by decide)) (fun _ => ?_)
  refine lv_aload_n hx hb dX1_init_23 rfl (lv_at hl 1 rfl) ?_
  refine va_get (ci := 1) (C := RX1) (T := TX1) (N := 3) hx hb hts hiX1 hown hK hP 0 rfl rfl 0 (by decide) (hts (.fieldLink RX1 11 "RiddleTrade$History" "states" "[LRiddleTrade$Exchange;") (List.mem_of_getElem? (i := 5) rfl)) (fun _ h9 => h9) rfl dX1_init_24 ?_
  refine lv_iload_n hx hb dX1_init_27 rfl (lv_at hl 0 rfl) ?_
  refine va_new (ci := 0) (fs := [.null, .null, .null, .null, .null, .null, .int 0]) (C := RX0) (T := TX0) (N := 7) hx hb hts hiX0 tyX0 tyX0_ok hown (hts (.classLink RX1 9 RX0) (List.mem_of_getElem? (i := 4) rfl)) (hts (.instantiable RX0 7) (List.mem_of_getElem? (i := 6) rfl)) (hts (.initialized RX0) (List.mem_of_getElem? (i := 7) rfl)) hK hP hD hS hA rfl (fun j hj => by rcases (show j = 0 ∨ j = 1 ∨ j = 2 ∨ j = 3 ∨ j = 4 ∨ j = 5 ∨ j = 6 by omega) with rfl | rfl | rfl | rfl | rfl | rfl | rfl <;> rfl) (Nat.le_of_ble_eq_true rfl) (Nat.le_of_ble_eq_true rfl) dX1_init_28 (fun q2 H hP hD hS => ?_)
  refine lv_dup hx hb dX1_init_31 rfl ?_
  refine kcInit (wr := (fl [[(hh, .inr (1, [.ref q1, .int 0, .int 0])), (q1, .inl (cE, 4, .inr (.inr (.inr (.inr (fun _ => none))))))]])) (x := (q2, .inr (0, [.null, .null, .null, .null, .null, .null, .int 0]))) ⟨hx, hb, hml, hown, hts⟩ (c_X0_init l D cI cC cE q2 _) (cwI 0 hts gX1_init_X0_init rfl rfl rfl (hts (.initialized RX0) (List.mem_of_getElem? (i := 7) rfl)) (hts (.methodLink RX1 17 yX0_init) (List.mem_of_getElem? (i := 8) rfl)) (hts (.instanceMethod yX0_init) (List.mem_of_getElem? (i := 9) rfl)) rfl (by decide +kernel) ⟨Nat.le_of_ble_eq_true rfl, Nat.le_of_ble_eq_true rfl⟩) hN hK hP hD hS hA rfl hl.1 rfl (Nat.le_of_ble_eq_true rfl) dX1_init_32 ⟨Nat.le_of_ble_eq_true rfl, Nat.le_of_ble_eq_true rfl⟩ (fun u3 H locs hu3 hP9 hD9 hS => ?_)
  obtain rfl : u3 0 = q2 := hu3
  rw [fl_snoc] at hP9 hD9
  have hP : va_P D vwCl (fl [[(hh, .inr (1, [.ref q1, .int 0, .int 0])), (q1, .inl (cE, 4, .inr (.inr (.inr (.inr (fun _ => none))))))], exW cI u3 E0]) H := hP9
  have hD : va_D A (fl [[(hh, .inr (1, [.ref q1, .int 0, .int 0])), (q1, .inl (cE, 4, .inr (.inr (.inr (.inr (fun _ => none))))))], exW cI u3 E0]) := hD9
  refine va_astq hx hb hK hP hD hS 1 2 2 0 rfl rfl rfl rfl (k_vin (i := 0) (by decide) (by decide)) dX1_init_35 (fun H locs hP hD hS => ?_)
  have hP : va_P D vwCl (fl [[(hh, .inr (1, [.ref q1, .int 0, .int 0])), (q1, .inl (cE, 4, .inr (.inr (.inr (.inr (va_up (fun _ => none) 0 (some (u3 0))))))))], exW cI u3 E0]) H := hP
  have hD : va_D A (fl [[(hh, .inr (1, [.ref q1, .int 0, .int 0])), (q1, .inl (cE, 4, .inr (.inr (.inr (.inr (va_up (fun _ => none) 0 (some (u3 0))))))))], exW cI u3 E0]) := hD
  refine lv_iinc (v := 1) (lv' := [(1, .int 1), (0, .ref hh)]) hx hb dX1_init_36 hl (k := 0) rfl rfl (by decide) rfl (fun ls hl => ?_)
  refine lv_goto (tgt := 14) hx hb dX1_init_39 (by decide) ?_
  refine lv_iload_n hx hb dX1_init_14 rfl (lv_at hl 0 rfl) ?_
  refine lv_aload_n hx hb dX1_init_15 rfl (lv_at hl 1 rfl) ?_
  refine va_get (ci := 1) (C := RX1) (T := TX1) (N := 3) hx hb hts hiX1 hown hK hP 0 rfl rfl 0 (by decide) (hts (.fieldLink RX1 11 "RiddleTrade$History" "states" "[LRiddleTrade$Exchange;") (List.mem_of_getElem? (i := 5) rfl)) (fun _ h9 => h9) rfl dX1_init_16 ?_
  refine va_alen (v := 4) hx hb hK hP 1 2 rfl rfl (show Int32.ofNat 4 = 4 from rfl) dX1_init_19 ?_
  refine lv_icmp_ge (tgt := 42) hx hb dX1_init_20 (by decide) (fun c => absurd c (by decide)) (fun _ => ?_)
  refine lv_aload_n hx hb dX1_init_23 rfl (lv_at hl 1 rfl) ?_
  refine va_get (ci := 1) (C := RX1) (T := TX1) (N := 3) hx hb hts hiX1 hown hK hP 0 rfl rfl 0 (by decide) (hts (.fieldLink RX1 11 "RiddleTrade$History" "states" "[LRiddleTrade$Exchange;") (List.mem_of_getElem? (i := 5) rfl)) (fun _ h9 => h9) rfl dX1_init_24 ?_
  refine lv_iload_n hx hb dX1_init_27 rfl (lv_at hl 0 rfl) ?_
  refine va_new (ci := 0) (fs := [.null, .null, .null, .null, .null, .null, .int 0]) (C := RX0) (T := TX0) (N := 7) hx hb hts hiX0 tyX0 tyX0_ok hown (hts (.classLink RX1 9 RX0) (List.mem_of_getElem? (i := 4) rfl)) (hts (.instantiable RX0 7) (List.mem_of_getElem? (i := 6) rfl)) (hts (.initialized RX0) (List.mem_of_getElem? (i := 7) rfl)) hK hP hD hS hA rfl (fun j hj => by rcases (show j = 0 ∨ j = 1 ∨ j = 2 ∨ j = 3 ∨ j = 4 ∨ j = 5 ∨ j = 6 by omega) with rfl | rfl | rfl | rfl | rfl | rfl | rfl <;> rfl) (Nat.le_of_ble_eq_true rfl) (Nat.le_of_ble_eq_true rfl) dX1_init_28 (fun q4 H hP hD hS => ?_)
  refine lv_dup hx hb dX1_init_31 rfl ?_
  refine kcInit (wr := (fl [[(hh, .inr (1, [.ref q1, .int 0, .int 0])), (q1, .inl (cE, 4, .inr (.inr (.inr (.inr (va_up (fun _ => none) 0 (some (u3 0))))))))], exW cI u3 E0])) (x := (q4, .inr (0, [.null, .null, .null, .null, .null, .null, .int 0]))) ⟨hx, hb, hml, hown, hts⟩ (c_X0_init l D cI cC cE q4 _) (cwI 0 hts gX1_init_X0_init rfl rfl rfl (hts (.initialized RX0) (List.mem_of_getElem? (i := 7) rfl)) (hts (.methodLink RX1 17 yX0_init) (List.mem_of_getElem? (i := 8) rfl)) (hts (.instanceMethod yX0_init) (List.mem_of_getElem? (i := 9) rfl)) rfl (by decide +kernel) ⟨Nat.le_of_ble_eq_true rfl, Nat.le_of_ble_eq_true rfl⟩) hN hK hP hD hS hA rfl hl.1 rfl (Nat.le_of_ble_eq_true rfl) dX1_init_32 ⟨Nat.le_of_ble_eq_true rfl, Nat.le_of_ble_eq_true rfl⟩ (fun u5 H locs hu5 hP9 hD9 hS => ?_)
  obtain rfl : u5 0 = q4 := hu5
  rw [fl_snoc] at hP9 hD9
  have hP : va_P D vwCl (fl [[(hh, .inr (1, [.ref q1, .int 0, .int 0])), (q1, .inl (cE, 4, .inr (.inr (.inr (.inr (va_up (fun _ => none) 0 (some (u3 0))))))))], exW cI u3 E0, exW cI u5 E0]) H := hP9
  have hD : va_D A (fl [[(hh, .inr (1, [.ref q1, .int 0, .int 0])), (q1, .inl (cE, 4, .inr (.inr (.inr (.inr (va_up (fun _ => none) 0 (some (u3 0))))))))], exW cI u3 E0, exW cI u5 E0]) := hD9
  refine va_astq hx hb hK hP hD hS 1 2 15 0 rfl rfl rfl rfl (k_vin (i := 1) (by decide) (by decide)) dX1_init_35 (fun H locs hP hD hS => ?_)
  have hP : va_P D vwCl (fl [[(hh, .inr (1, [.ref q1, .int 0, .int 0])), (q1, .inl (cE, 4, .inr (.inr (.inr (.inr (va_up (va_up (fun _ => none) 0 (some (u3 0))) 1 (some (u5 0))))))))], exW cI u3 E0, exW cI u5 E0]) H := hP
  have hD : va_D A (fl [[(hh, .inr (1, [.ref q1, .int 0, .int 0])), (q1, .inl (cE, 4, .inr (.inr (.inr (.inr (va_up (va_up (fun _ => none) 0 (some (u3 0))) 1 (some (u5 0))))))))], exW cI u3 E0, exW cI u5 E0]) := hD
  refine lv_iinc (v := 2) (lv' := [(1, .int 2), (0, .ref hh)]) hx hb dX1_init_36 hl (k := 0) rfl rfl (by decide) rfl (fun ls hl => ?_)
  refine lv_goto (tgt := 14) hx hb dX1_init_39 (by decide) ?_
  refine lv_iload_n hx hb dX1_init_14 rfl (lv_at hl 0 rfl) ?_
  refine lv_aload_n hx hb dX1_init_15 rfl (lv_at hl 1 rfl) ?_
  refine va_get (ci := 1) (C := RX1) (T := TX1) (N := 3) hx hb hts hiX1 hown hK hP 0 rfl rfl 0 (by decide) (hts (.fieldLink RX1 11 "RiddleTrade$History" "states" "[LRiddleTrade$Exchange;") (List.mem_of_getElem? (i := 5) rfl)) (fun _ h9 => h9) rfl dX1_init_16 ?_
  refine va_alen (v := 4) hx hb hK hP 1 2 rfl rfl (show Int32.ofNat 4 = 4 from rfl) dX1_init_19 ?_
  refine lv_icmp_ge (tgt := 42) hx hb dX1_init_20 (by decide) (fun c => absurd c (by decide)) (fun _ => ?_)
  refine lv_aload_n hx hb dX1_init_23 rfl (lv_at hl 1 rfl) ?_
  refine va_get (ci := 1) (C := RX1) (T := TX1) (N := 3) hx hb hts hiX1 hown hK hP 0 rfl rfl 0 (by decide) (hts (.fieldLink RX1 11 "RiddleTrade$History" "states" "[LRiddleTrade$Exchange;") (List.mem_of_getElem? (i := 5) rfl)) (fun _ h9 => h9) rfl dX1_init_24 ?_
  refine lv_iload_n hx hb dX1_init_27 rfl (lv_at hl 0 rfl) ?_
  refine va_new (ci := 0) (fs := [.null, .null, .null, .null, .null, .null, .int 0]) (C := RX0) (T := TX0) (N := 7) hx hb hts hiX0 tyX0 tyX0_ok hown (hts (.classLink RX1 9 RX0) (List.mem_of_getElem? (i := 4) rfl)) (hts (.instantiable RX0 7) (List.mem_of_getElem? (i := 6) rfl)) (hts (.initialized RX0) (List.mem_of_getElem? (i := 7) rfl)) hK hP hD hS hA rfl (fun j hj => by rcases (show j = 0 ∨ j = 1 ∨ j = 2 ∨ j = 3 ∨ j = 4 ∨ j = 5 ∨ j = 6 by omega) with rfl | rfl | rfl | rfl | rfl | rfl | rfl <;> rfl) (Nat.le_of_ble_eq_true rfl) (Nat.le_of_ble_eq_true rfl) dX1_init_28 (fun q6 H hP hD hS => ?_)
  refine lv_dup hx hb dX1_init_31 rfl ?_
  refine kcInit (wr := (fl [[(hh, .inr (1, [.ref q1, .int 0, .int 0])), (q1, .inl (cE, 4, .inr (.inr (.inr (.inr (va_up (va_up (fun _ => none) 0 (some (u3 0))) 1 (some (u5 0))))))))], exW cI u3 E0, exW cI u5 E0])) (x := (q6, .inr (0, [.null, .null, .null, .null, .null, .null, .int 0]))) ⟨hx, hb, hml, hown, hts⟩ (c_X0_init l D cI cC cE q6 _) (cwI 0 hts gX1_init_X0_init rfl rfl rfl (hts (.initialized RX0) (List.mem_of_getElem? (i := 7) rfl)) (hts (.methodLink RX1 17 yX0_init) (List.mem_of_getElem? (i := 8) rfl)) (hts (.instanceMethod yX0_init) (List.mem_of_getElem? (i := 9) rfl)) rfl (by decide +kernel) ⟨Nat.le_of_ble_eq_true rfl, Nat.le_of_ble_eq_true rfl⟩) hN hK hP hD hS hA rfl hl.1 rfl (Nat.le_of_ble_eq_true rfl) dX1_init_32 ⟨Nat.le_of_ble_eq_true rfl, Nat.le_of_ble_eq_true rfl⟩ (fun u7 H locs hu7 hP9 hD9 hS => ?_)
  obtain rfl : u7 0 = q6 := hu7
  rw [fl_snoc] at hP9 hD9
  have hP : va_P D vwCl (fl [[(hh, .inr (1, [.ref q1, .int 0, .int 0])), (q1, .inl (cE, 4, .inr (.inr (.inr (.inr (va_up (va_up (fun _ => none) 0 (some (u3 0))) 1 (some (u5 0))))))))], exW cI u3 E0, exW cI u5 E0, exW cI u7 E0]) H := hP9
  have hD : va_D A (fl [[(hh, .inr (1, [.ref q1, .int 0, .int 0])), (q1, .inl (cE, 4, .inr (.inr (.inr (.inr (va_up (va_up (fun _ => none) 0 (some (u3 0))) 1 (some (u5 0))))))))], exW cI u3 E0, exW cI u5 E0, exW cI u7 E0]) := hD9
  refine va_astq hx hb hK hP hD hS 1 2 28 0 rfl rfl rfl rfl (k_vin (i := 2) (by decide) (by decide)) dX1_init_35 (fun H locs hP hD hS => ?_)
  have hP : va_P D vwCl (fl [[(hh, .inr (1, [.ref q1, .int 0, .int 0])), (q1, .inl (cE, 4, .inr (.inr (.inr (.inr (va_up (va_up (va_up (fun _ => none) 0 (some (u3 0))) 1 (some (u5 0))) 2 (some (u7 0))))))))], exW cI u3 E0, exW cI u5 E0, exW cI u7 E0]) H := hP
  have hD : va_D A (fl [[(hh, .inr (1, [.ref q1, .int 0, .int 0])), (q1, .inl (cE, 4, .inr (.inr (.inr (.inr (va_up (va_up (va_up (fun _ => none) 0 (some (u3 0))) 1 (some (u5 0))) 2 (some (u7 0))))))))], exW cI u3 E0, exW cI u5 E0, exW cI u7 E0]) := hD
  refine lv_iinc (v := 3) (lv' := [(1, .int 3), (0, .ref hh)]) hx hb dX1_init_36 hl (k := 0) rfl rfl (by decide) rfl (fun ls hl => ?_)
  refine lv_goto (tgt := 14) hx hb dX1_init_39 (by decide) ?_
  refine lv_iload_n hx hb dX1_init_14 rfl (lv_at hl 0 rfl) ?_
  refine lv_aload_n hx hb dX1_init_15 rfl (lv_at hl 1 rfl) ?_
  refine va_get (ci := 1) (C := RX1) (T := TX1) (N := 3) hx hb hts hiX1 hown hK hP 0 rfl rfl 0 (by decide) (hts (.fieldLink RX1 11 "RiddleTrade$History" "states" "[LRiddleTrade$Exchange;") (List.mem_of_getElem? (i := 5) rfl)) (fun _ h9 => h9) rfl dX1_init_16 ?_
  refine va_alen (v := 4) hx hb hK hP 1 2 rfl rfl (show Int32.ofNat 4 = 4 from rfl) dX1_init_19 ?_
  refine lv_icmp_ge (tgt := 42) hx hb dX1_init_20 (by decide) (fun c => absurd c (by decide)) (fun _ => ?_)
  refine lv_aload_n hx hb dX1_init_23 rfl (lv_at hl 1 rfl) ?_
  refine va_get (ci := 1) (C := RX1) (T := TX1) (N := 3) hx hb hts hiX1 hown hK hP 0 rfl rfl 0 (by decide) (hts (.fieldLink RX1 11 "RiddleTrade$History" "states" "[LRiddleTrade$Exchange;") (List.mem_of_getElem? (i := 5) rfl)) (fun _ h9 => h9) rfl dX1_init_24 ?_
  refine lv_iload_n hx hb dX1_init_27 rfl (lv_at hl 0 rfl) ?_
  refine va_new (ci := 0) (fs := [.null, .null, .null, .null, .null, .null, .int 0]) (C := RX0) (T := TX0) (N := 7) hx hb hts hiX0 tyX0 tyX0_ok hown (hts (.classLink RX1 9 RX0) (List.mem_of_getElem? (i := 4) rfl)) (hts (.instantiable RX0 7) (List.mem_of_getElem? (i := 6) rfl)) (hts (.initialized RX0) (List.mem_of_getElem? (i := 7) rfl)) hK hP hD hS hA rfl (fun j hj => by rcases (show j = 0 ∨ j = 1 ∨ j = 2 ∨ j = 3 ∨ j = 4 ∨ j = 5 ∨ j = 6 by omega) with rfl | rfl | rfl | rfl | rfl | rfl | rfl <;> rfl) (Nat.le_of_ble_eq_true rfl) (Nat.le_of_ble_eq_true rfl) dX1_init_28 (fun q8 H hP hD hS => ?_)
  refine lv_dup hx hb dX1_init_31 rfl ?_
  refine kcInit (wr := (fl [[(hh, .inr (1, [.ref q1, .int 0, .int 0])), (q1, .inl (cE, 4, .inr (.inr (.inr (.inr (va_up (va_up (va_up (fun _ => none) 0 (some (u3 0))) 1 (some (u5 0))) 2 (some (u7 0))))))))], exW cI u3 E0, exW cI u5 E0, exW cI u7 E0])) (x := (q8, .inr (0, [.null, .null, .null, .null, .null, .null, .int 0]))) ⟨hx, hb, hml, hown, hts⟩ (c_X0_init l D cI cC cE q8 _) (cwI 0 hts gX1_init_X0_init rfl rfl rfl (hts (.initialized RX0) (List.mem_of_getElem? (i := 7) rfl)) (hts (.methodLink RX1 17 yX0_init) (List.mem_of_getElem? (i := 8) rfl)) (hts (.instanceMethod yX0_init) (List.mem_of_getElem? (i := 9) rfl)) rfl (by decide +kernel) ⟨Nat.le_of_ble_eq_true rfl, Nat.le_of_ble_eq_true rfl⟩) hN hK hP hD hS hA rfl hl.1 rfl (Nat.le_of_ble_eq_true rfl) dX1_init_32 ⟨Nat.le_of_ble_eq_true rfl, Nat.le_of_ble_eq_true rfl⟩ (fun u9 H locs hu9 hP9 hD9 hS => ?_)
  obtain rfl : u9 0 = q8 := hu9
  rw [fl_snoc] at hP9 hD9
  have hP : va_P D vwCl (fl [[(hh, .inr (1, [.ref q1, .int 0, .int 0])), (q1, .inl (cE, 4, .inr (.inr (.inr (.inr (va_up (va_up (va_up (fun _ => none) 0 (some (u3 0))) 1 (some (u5 0))) 2 (some (u7 0))))))))], exW cI u3 E0, exW cI u5 E0, exW cI u7 E0, exW cI u9 E0]) H := hP9
  have hD : va_D A (fl [[(hh, .inr (1, [.ref q1, .int 0, .int 0])), (q1, .inl (cE, 4, .inr (.inr (.inr (.inr (va_up (va_up (va_up (fun _ => none) 0 (some (u3 0))) 1 (some (u5 0))) 2 (some (u7 0))))))))], exW cI u3 E0, exW cI u5 E0, exW cI u7 E0, exW cI u9 E0]) := hD9
  refine va_astq hx hb hK hP hD hS 1 2 41 0 rfl rfl rfl rfl (k_vin (i := 3) (by decide) (by decide)) dX1_init_35 (fun H locs hP hD hS => ?_)
  have hP : va_P D vwCl (fl [[(hh, .inr (1, [.ref q1, .int 0, .int 0])), (q1, .inl (cE, 4, .inr (.inr (.inr (.inr (va_up (va_up (va_up (va_up (fun _ => none) 0 (some (u3 0))) 1 (some (u5 0))) 2 (some (u7 0))) 3 (some (u9 0))))))))], exW cI u3 E0, exW cI u5 E0, exW cI u7 E0, exW cI u9 E0]) H := hP
  have hD : va_D A (fl [[(hh, .inr (1, [.ref q1, .int 0, .int 0])), (q1, .inl (cE, 4, .inr (.inr (.inr (.inr (va_up (va_up (va_up (va_up (fun _ => none) 0 (some (u3 0))) 1 (some (u5 0))) 2 (some (u7 0))) 3 (some (u9 0))))))))], exW cI u3 E0, exW cI u5 E0, exW cI u7 E0, exW cI u9 E0]) := hD
  refine lv_iinc (v := 4) (lv' := [(1, .int 4), (0, .ref hh)]) hx hb dX1_init_36 hl (k := 0) rfl rfl (by decide) rfl (fun ls hl => ?_)
  refine lv_goto (tgt := 14) hx hb dX1_init_39 (by decide) ?_
  refine lv_iload_n hx hb dX1_init_14 rfl (lv_at hl 0 rfl) ?_
  refine lv_aload_n hx hb dX1_init_15 rfl (lv_at hl 1 rfl) ?_
  refine va_get (ci := 1) (C := RX1) (T := TX1) (N := 3) hx hb hts hiX1 hown hK hP 0 rfl rfl 0 (by decide) (hts (.fieldLink RX1 11 "RiddleTrade$History" "states" "[LRiddleTrade$Exchange;") (List.mem_of_getElem? (i := 5) rfl)) (fun _ h9 => h9) rfl dX1_init_16 ?_
  refine va_alen (v := 4) hx hb hK hP 1 2 rfl rfl (show Int32.ofNat 4 = 4 from rfl) dX1_init_19 ?_
  refine lv_icmp_ge (tgt := 42) hx hb dX1_init_20 (by decide) (fun _ => ?_) (fun c => absurd (by decide) c)
  have hE : ∀ j, j < 4 → (va_up (va_up (va_up (va_up (fun _ => none) 0 (some (u3 0))) 1 (some (u5 0))) 2 (some (u7 0))) 3 (some (u9 0))) j = some ((fun k => if k = 0 then u3 else if k = 1 then u5 else if k = 2 then u7 else u9) j 0) := fun j hj => by rcases (show j = 0 ∨ j = 1 ∨ j = 2 ∨ j = 3 by omega) with rfl | rfl | rfl | rfl <;> rfl
  have hP := k_recellQ hP hE
  have hD := k_recellQD (e' := .inl (cE, 4, .inr (.inr (.inr (.inr (fun j => some ((fun k => if k = 0 then u3 else if k = 1 then u5 else if k = 2 then u7 else u9) j 0))))))) hD
  refine W.widen (k := 53) (n := 1992) (Nat.le_of_ble_eq_true rfl) (Nat.le_of_ble_eq_true rfl) ?_
  exact fin (q1, (fun k => if k = 0 then u3 else if k = 1 then u5 else if k = 2 then u7 else u9)) _ _ _ _ trivial dX1_init_42 hP hD hS
set_option maxHeartbeats 4000000 in
set_option maxRecDepth 100000 in
theorem c_X2_init (l : Launch) (D : va_G) (cI cC cE : ClassId) (oo : Nat) (sz : Nat) : Met l yX2_init wsX2_init ({ frames := 2, cells := 3, slots := 213, locals := 42 } : Room) (kPo D (kT cI cC cE) [.ref oo] [(oo, .inr (2, [.null, .null, .int 0, .int 0, .int 0]))] sz) (kQn (α := Nat × Nat × Nat) D (kT cI cC cE) [(oo, .inr (2, [.null, .null, .int 0, .int 0, .int 0]))] (fun _ => True) (fun u => ofW cI cC oo u.1 u.2.1 u.2.2 (fun _ => 0) (fun _ => 0) 0 0 0 0) sz) 3 213 (va_A [(oo, .inr (2, [.null, .null, .int 0, .int 0, .int 0]))] sz) := by
  refine kMetN (cc := cX2_init) (maxL := 1) (own := RX2) (by decide) rfl (Nat.le_of_ble_eq_true rfl) rfl ?_
  intro p e s m below meth c A Q hx hb hml hown hts hP hK hD hA hS hname hN fin ls hl
  have hl : lv_has ls 1 [(0, .ref oo)] := hl
  have hiX2 : ∀ w ∈ u_ws RX2 TX2 5, w ∈ wsX2_init := by decide +kernel
  have hiX4 : ∀ w ∈ u_ws RX4 TX4 3, w ∈ wsX2_init := by decide +kernel
  refine lv_aload_n hx hb dX2_init_0 rfl (lv_at hl 0 rfl) ?_
  refine W.objInit hx hb hown (hts (.methodLink RX2 3 objectInit) (List.mem_of_getElem? (i := 1) rfl)) (hts (.instanceMethod objectInit) (List.mem_of_getElem? (i := 2) rfl)) (hts _ (List.mem_of_getElem? (i := 3) rfl)) rfl (by rw [hml]; exact hl.1) rfl dX2_init_1 (Nat.le_of_ble_eq_true rfl) (Nat.le_of_ble_eq_true rfl) ?_
  refine W.eq (g2 := F0 m 4 ls []) rfl ?_
  refine lv_aload_n hx hb dX2_init_4 rfl (lv_at hl 0 rfl) ?_
  refine lv_bipush (v := 60) hx hb dX2_init_5 (by decide) ?_
  refine kNewC (N' := 60) hx hb (hts (.arrayClass .char) (List.mem_of_getElem? (i := 4) rfl)) hK hP hD hS hA (by decide) (by decide) (Nat.le_of_ble_eq_true rfl) (Nat.le_of_ble_eq_true rfl) (Nat.le_of_ble_eq_true rfl) dX2_init_7 (fun q1 H hP hD hS => ?_)
  have hP : va_P D vwCl [(oo, .inr (2, [.null, .null, .int 0, .int 0, .int 0])), (q1, .inl (cC, 60, .inl (fun _ => 0)))] H := hP
  have hD : va_D A [(oo, .inr (2, [.null, .null, .int 0, .int 0, .int 0])), (q1, .inl (cC, 60, .inl (fun _ => 0)))] := hD
  refine va_putF (D := D) (ci := 2) (v := .ref q1) (ty := (.array .char)) (C := RX2) (T := TX2) (N := 5) hx hb hts hiX2 tyX2 tyX2_ok nmX2 hown hK hP hD hS 0 rfl rfl 0 (by decide) (hts (.fieldLink RX2 9 "RiddleTrade$Offers" "text" "[C") (List.mem_of_getElem? (i := 5) rfl)) (fun _ h9 => h9) rfl hname rfl (by decide +kernel) rfl rfl (Nat.le_of_ble_eq_true rfl) dX2_init_9 (fun H locs hP hD hS => ?_)
  have hP : va_P D vwCl [(oo, .inr (2, [.ref q1, .null, .int 0, .int 0, .int 0])), (q1, .inl (cC, 60, .inl (fun _ => 0)))] H := hP
  have hD : va_D A [(oo, .inr (2, [.ref q1, .null, .int 0, .int 0, .int 0])), (q1, .inl (cC, 60, .inl (fun _ => 0)))] := hD
  refine lv_aload_n hx hb dX2_init_12 rfl (lv_at hl 0 rfl) ?_
  refine va_new (ci := 4) (fs := [.null, .int 0, .int 0]) (C := RX4) (T := TX4) (N := 3) hx hb hts hiX4 tyX4 tyX4_ok hown (hts (.classLink RX2 15 RX4) (List.mem_of_getElem? (i := 6) rfl)) (hts (.instantiable RX4 3) (List.mem_of_getElem? (i := 7) rfl)) (hts (.initialized RX4) (List.mem_of_getElem? (i := 8) rfl)) hK hP hD hS hA rfl (fun j hj => by rcases (show j = 0 ∨ j = 1 ∨ j = 2 by omega) with rfl | rfl | rfl <;> rfl) (Nat.le_of_ble_eq_true rfl) (Nat.le_of_ble_eq_true rfl) dX2_init_13 (fun q2 H hP hD hS => ?_)
  have hP : va_P D vwCl [(oo, .inr (2, [.ref q1, .null, .int 0, .int 0, .int 0])), (q1, .inl (cC, 60, .inl (fun _ => 0))), (q2, .inr (4, [.null, .int 0, .int 0]))] H := hP
  have hD : va_D A [(oo, .inr (2, [.ref q1, .null, .int 0, .int 0, .int 0])), (q1, .inl (cC, 60, .inl (fun _ => 0))), (q2, .inr (4, [.null, .int 0, .int 0]))] := hD
  refine lv_dup hx hb dX2_init_16 rfl ?_
  refine lv_sipush (v := 150) hx hb dX2_init_17 (by decide) ?_
  refine kNewI (N' := 150) hx hb (hts (.arrayClass .int) (List.mem_of_getElem? (i := 9) rfl)) hK hP hD hS hA (by decide) (by decide) (Nat.le_of_ble_eq_true rfl) (Nat.le_of_ble_eq_true rfl) (Nat.le_of_ble_eq_true rfl) dX2_init_20 (fun q3 H hP hD hS => ?_)
  have hP : va_P D vwCl [(oo, .inr (2, [.ref q1, .null, .int 0, .int 0, .int 0])), (q1, .inl (cC, 60, .inl (fun _ => 0))), (q2, .inr (4, [.null, .int 0, .int 0])), (q3, .inl (cI, 150, .inl (fun _ => 0)))] H := hP
  have hD : va_D A [(oo, .inr (2, [.ref q1, .null, .int 0, .int 0, .int 0])), (q1, .inl (cC, 60, .inl (fun _ => 0))), (q2, .inr (4, [.null, .int 0, .int 0])), (q3, .inl (cI, 150, .inl (fun _ => 0)))] := hD
  refine lv_iconst (v := 5) hx hb dX2_init_22 (by decide) ?_
  refine kcIv (ws1 := [(oo, .inr (2, [.ref q1, .null, .int 0, .int 0, .int 0])), (q1, .inl (cC, 60, .inl (fun _ => 0))), (q2, .inr (4, [.ref q3, .int 5, .int 0])), (q3, .inl (cI, 150, .inl (fun _ => 0)))]) ⟨hx, hb, hml, hown, hts⟩ [2, 3] [0, 1] (c_X4_init l D cI cC cE q2 q3 _ 150 (fun _ => 0) 5) (cwI 2 hts gX2_init_X4_init rfl rfl rfl (hts (.initialized RX4) (List.mem_of_getElem? (i := 8) rfl)) (hts (.methodLink RX2 17 yX4_init) (List.mem_of_getElem? (i := 11) rfl)) (hts (.instanceMethod yX4_init) (List.mem_of_getElem? (i := 12) rfl)) rfl (by decide +kernel) ⟨Nat.le_of_ble_eq_true rfl, Nat.le_of_ble_eq_true rfl⟩) hK hP hD hS hA rfl rfl rfl rfl rfl rfl rfl hl.1 rfl (Nat.le_of_ble_eq_true rfl) dX2_init_23 ⟨Nat.le_of_ble_eq_true rfl, Nat.le_of_ble_eq_true rfl⟩ (fun H locs hP hD hS => ?_)
  refine va_putF (D := D) (ci := 2) (v := .ref q2) (ty := (.object "RiddleTrade$Table")) (C := RX2) (T := TX2) (N := 5) hx hb hts hiX2 tyX2 tyX2_ok nmX2 hown hK hP hD hS 0 rfl rfl 1 (by decide) (hts (.fieldLink RX2 20 "RiddleTrade$Offers" "things" "LRiddleTrade$Table;") (List.mem_of_getElem? (i := 10) rfl)) (fun _ h9 => h9) rfl hname rfl (by decide +kernel) rfl rfl (Nat.le_of_ble_eq_true rfl) dX2_init_26 (fun H locs hP hD hS => ?_)
  have hP : va_P D vwCl [(oo, .inr (2, [.ref q1, .ref q2, .int 0, .int 0, .int 0])), (q1, .inl (cC, 60, .inl (fun _ => 0))), (q2, .inr (4, [.ref q3, .int 5, .int 0])), (q3, .inl (cI, 150, .inl (fun _ => 0)))] H := hP
  have hD : va_D A [(oo, .inr (2, [.ref q1, .ref q2, .int 0, .int 0, .int 0])), (q1, .inl (cC, 60, .inl (fun _ => 0))), (q2, .inr (4, [.ref q3, .int 5, .int 0])), (q3, .inl (cI, 150, .inl (fun _ => 0)))] := hD
  refine W.widen (k := 3) (n := 213) (Nat.le_of_ble_eq_true rfl) (Nat.le_of_ble_eq_true rfl) ?_
  exact fin (q1, q2, q3) _ _ _ _ trivial dX2_init_29 hP hD hS
set_option maxHeartbeats 4000000 in
set_option maxRecDepth 100000 in
theorem c_X5_init (l : Launch) (D : va_G) (cI cC cE : ClassId) (h0 : Nat) (sz : Nat) : Met l yX5_init wsX5_init ({ frames := 4, cells := 97, slots := 3704, locals := 90 } : Room) (kPo D (kT cI cC cE) [.ref h0] (fl [[(h0, .inr (5, [.null, .null, .null, .null, .null, .int 0, .int 0, .int 0]))]]) sz) (kQn (α := (Nat → Nat) × (Nat → Nat) × (Nat → Nat) × Nat × (Nat × (Nat → Nat → Nat)) × Nat × (Nat × Nat × Nat)) D (kT cI cC cE) (fl [[(h0, .inr (5, [.null, .null, .null, .null, .null, .int 0, .int 0, .int 0]))]]) (fun _ => True) (fun u => fl [trW h0 u.2.2.2.1 u.2.2.2.2.2.1 u.1 u.2.1 u.2.2.1 0 (-5) (-5), exW cI u.1 E0, exW cI u.2.1 E0, exW cI u.2.2.1 E0, fl [w_X1_stateAt cI cC cE u.2.2.2.1 u.2.2.2.2.1.1 u.2.2.2.2.1.2 0 0, exW cI (u.2.2.2.2.1.2 0) E0, exW cI (u.2.2.2.2.1.2 1) E0, exW cI (u.2.2.2.2.1.2 2) E0, exW cI (u.2.2.2.2.1.2 3) E0], ofW cI cC u.2.2.2.2.2.1 u.2.2.2.2.2.2.1 u.2.2.2.2.2.2.2.1 u.2.2.2.2.2.2.2.2 (fun _ => 0) (fun _ => 0) 0 0 0 0]) sz) 97 3704 (va_A (fl [[(h0, .inr (5, [.null, .null, .null, .null, .null, .int 0, .int 0, .int 0]))]]) sz) := by
  refine kMetN (cc := cX5_init) (maxL := 1) (own := RX5) (by decide) rfl (Nat.le_of_ble_eq_true rfl) rfl ?_
  intro p e s m below meth c A Q hx hb hml hown hts hP hK hD hA hS hname hN fin ls hl
  have hl : lv_has ls 1 [(0, .ref h0)] := hl
  have hiX0 : ∀ w ∈ u_ws RX0 TX0 7, w ∈ wsX5_init := by decide +kernel
  have hiX1 : ∀ w ∈ u_ws RX1 TX1 3, w ∈ wsX5_init := by decide +kernel
  have hiX2 : ∀ w ∈ u_ws RX2 TX2 5, w ∈ wsX5_init := by decide +kernel
  have hiX5 : ∀ w ∈ u_ws RX5 TX5 8, w ∈ wsX5_init := by decide +kernel
  refine lv_aload_n hx hb dX5_init_0 rfl (lv_at hl 0 rfl) ?_
  refine W.objInit hx hb hown (hts (.methodLink RX5 1 objectInit) (List.mem_of_getElem? (i := 1) rfl)) (hts (.instanceMethod objectInit) (List.mem_of_getElem? (i := 2) rfl)) (hts _ (List.mem_of_getElem? (i := 3) rfl)) rfl (by rw [hml]; exact hl.1) rfl dX5_init_1 (Nat.le_of_ble_eq_true rfl) (Nat.le_of_ble_eq_true rfl) ?_
  refine W.eq (g2 := F0 m 4 ls []) rfl ?_
  refine lv_aload_n hx hb dX5_init_4 rfl (lv_at hl 0 rfl) ?_
  refine va_new (ci := 0) (fs := [.null, .null, .null, .null, .null, .null, .int 0]) (C := RX0) (T := TX0) (N := 7) hx hb hts hiX0 tyX0 tyX0_ok hown (hts (.classLink RX5 7 RX0) (List.mem_of_getElem? (i := 4) rfl)) (hts (.instantiable RX0 7) (List.mem_of_getElem? (i := 5) rfl)) (hts (.initialized RX0) (List.mem_of_getElem? (i := 6) rfl)) hK hP hD hS hA rfl (fun j hj => by rcases (show j = 0 ∨ j = 1 ∨ j = 2 ∨ j = 3 ∨ j = 4 ∨ j = 5 ∨ j = 6 by omega) with rfl | rfl | rfl | rfl | rfl | rfl | rfl <;> rfl) (Nat.le_of_ble_eq_true rfl) (Nat.le_of_ble_eq_true rfl) dX5_init_5 (fun q1 H hP hD hS => ?_)
  refine lv_dup hx hb dX5_init_8 rfl ?_
  refine kcInit (wr := (fl [[(h0, .inr (5, [.null, .null, .null, .null, .null, .int 0, .int 0, .int 0]))]])) (x := (q1, .inr (0, [.null, .null, .null, .null, .null, .null, .int 0]))) ⟨hx, hb, hml, hown, hts⟩ (c_X0_init l D cI cC cE q1 _) (cwI 0 hts gX5_init_X0_init rfl rfl rfl (hts (.initialized RX0) (List.mem_of_getElem? (i := 6) rfl)) (hts (.methodLink RX5 9 yX0_init) (List.mem_of_getElem? (i := 20) rfl)) (hts (.instanceMethod yX0_init) (List.mem_of_getElem? (i := 21) rfl)) rfl (by decide +kernel) ⟨Nat.le_of_ble_eq_true rfl, Nat.le_of_ble_eq_true rfl⟩) hN hK hP hD hS hA rfl hl.1 rfl (Nat.le_of_ble_eq_true rfl) dX5_init_9 ⟨Nat.le_of_ble_eq_true rfl, Nat.le_of_ble_eq_true rfl⟩ (fun u2 H locs hu2 hP9 hD9 hS => ?_)
  obtain rfl : u2 0 = q1 := hu2
  rw [fl_snoc] at hP9 hD9
  have hP : va_P D vwCl (fl [[(h0, .inr (5, [.null, .null, .null, .null, .null, .int 0, .int 0, .int 0]))], exW cI u2 E0]) H := hP9
  have hD : va_D A (fl [[(h0, .inr (5, [.null, .null, .null, .null, .null, .int 0, .int 0, .int 0]))], exW cI u2 E0]) := hD9
  refine va_putF (D := D) (ci := 5) (v := .ref (u2 0)) (ty := (.object "RiddleTrade$Exchange")) (C := RX5) (T := TX5) (N := 8) hx hb hts hiX5 tyX5 tyX5_ok nmX5 hown hK hP hD hS 0 rfl rfl 0 (by decide) (hts (.fieldLink RX5 10 "RiddleTrade" "now" "LRiddleTrade$Exchange;") (List.mem_of_getElem? (i := 7) rfl)) (fun _ h9 => h9) rfl hname rfl (by decide +kernel) rfl rfl (Nat.le_of_ble_eq_true rfl) dX5_init_12 (fun H locs hP hD hS => ?_)
  have hP : va_P D vwCl (fl [[(h0, .inr (5, [.ref (u2 0), .null, .null, .null, .null, .int 0, .int 0, .int 0]))], exW cI u2 E0]) H := hP
  have hD : va_D A (fl [[(h0, .inr (5, [.ref (u2 0), .null, .null, .null, .null, .int 0, .int 0, .int 0]))], exW cI u2 E0]) := hD
  refine lv_aload_n hx hb dX5_init_15 rfl (lv_at hl 0 rfl) ?_
  refine va_new (ci := 0) (fs := [.null, .null, .null, .null, .null, .null, .int 0]) (C := RX0) (T := TX0) (N := 7) hx hb hts hiX0 tyX0 tyX0_ok hown (hts (.classLink RX5 7 RX0) (List.mem_of_getElem? (i := 4) rfl)) (hts (.instantiable RX0 7) (List.mem_of_getElem? (i := 5) rfl)) (hts (.initialized RX0) (List.mem_of_getElem? (i := 6) rfl)) hK hP hD hS hA rfl (fun j hj => by rcases (show j = 0 ∨ j = 1 ∨ j = 2 ∨ j = 3 ∨ j = 4 ∨ j = 5 ∨ j = 6 by omega) with rfl | rfl | rfl | rfl | rfl | rfl | rfl <;> rfl) (Nat.le_of_ble_eq_true rfl) (Nat.le_of_ble_eq_true rfl) dX5_init_16 (fun q3 H hP hD hS => ?_)
  refine lv_dup hx hb dX5_init_19 rfl ?_
  refine kcInit (wr := (fl [[(h0, .inr (5, [.ref (u2 0), .null, .null, .null, .null, .int 0, .int 0, .int 0]))], exW cI u2 E0])) (x := (q3, .inr (0, [.null, .null, .null, .null, .null, .null, .int 0]))) ⟨hx, hb, hml, hown, hts⟩ (c_X0_init l D cI cC cE q3 _) (cwI 0 hts gX5_init_X0_init rfl rfl rfl (hts (.initialized RX0) (List.mem_of_getElem? (i := 6) rfl)) (hts (.methodLink RX5 9 yX0_init) (List.mem_of_getElem? (i := 20) rfl)) (hts (.instanceMethod yX0_init) (List.mem_of_getElem? (i := 21) rfl)) rfl (by decide +kernel) ⟨Nat.le_of_ble_eq_true rfl, Nat.le_of_ble_eq_true rfl⟩) hN hK hP hD hS hA rfl hl.1 rfl (Nat.le_of_ble_eq_true rfl) dX5_init_20 ⟨Nat.le_of_ble_eq_true rfl, Nat.le_of_ble_eq_true rfl⟩ (fun u4 H locs hu4 hP9 hD9 hS => ?_)
  obtain rfl : u4 0 = q3 := hu4
  rw [fl_snoc] at hP9 hD9
  have hP : va_P D vwCl (fl [[(h0, .inr (5, [.ref (u2 0), .null, .null, .null, .null, .int 0, .int 0, .int 0]))], exW cI u2 E0, exW cI u4 E0]) H := hP9
  have hD : va_D A (fl [[(h0, .inr (5, [.ref (u2 0), .null, .null, .null, .null, .int 0, .int 0, .int 0]))], exW cI u2 E0, exW cI u4 E0]) := hD9
  refine va_putF (D := D) (ci := 5) (v := .ref (u4 0)) (ty := (.object "RiddleTrade$Exchange")) (C := RX5) (T := TX5) (N := 8) hx hb hts hiX5 tyX5 tyX5_ok nmX5 hown hK hP hD hS 0 rfl rfl 1 (by decide) (hts (.fieldLink RX5 16 "RiddleTrade" "trial" "LRiddleTrade$Exchange;") (List.mem_of_getElem? (i := 8) rfl)) (fun _ h9 => h9) rfl hname rfl (by decide +kernel) rfl rfl (Nat.le_of_ble_eq_true rfl) dX5_init_23 (fun H locs hP hD hS => ?_)
  have hP : va_P D vwCl (fl [[(h0, .inr (5, [.ref (u2 0), .ref (u4 0), .null, .null, .null, .int 0, .int 0, .int 0]))], exW cI u2 E0, exW cI u4 E0]) H := hP
  have hD : va_D A (fl [[(h0, .inr (5, [.ref (u2 0), .ref (u4 0), .null, .null, .null, .int 0, .int 0, .int 0]))], exW cI u2 E0, exW cI u4 E0]) := hD
  refine lv_aload_n hx hb dX5_init_26 rfl (lv_at hl 0 rfl) ?_
  refine va_new (ci := 0) (fs := [.null, .null, .null, .null, .null, .null, .int 0]) (C := RX0) (T := TX0) (N := 7) hx hb hts hiX0 tyX0 tyX0_ok hown (hts (.classLink RX5 7 RX0) (List.mem_of_getElem? (i := 4) rfl)) (hts (.instantiable RX0 7) (List.mem_of_getElem? (i := 5) rfl)) (hts (.initialized RX0) (List.mem_of_getElem? (i := 6) rfl)) hK hP hD hS hA rfl (fun j hj => by rcases (show j = 0 ∨ j = 1 ∨ j = 2 ∨ j = 3 ∨ j = 4 ∨ j = 5 ∨ j = 6 by omega) with rfl | rfl | rfl | rfl | rfl | rfl | rfl <;> rfl) (Nat.le_of_ble_eq_true rfl) (Nat.le_of_ble_eq_true rfl) dX5_init_27 (fun q5 H hP hD hS => ?_)
  refine lv_dup hx hb dX5_init_30 rfl ?_
  refine kcInit (wr := (fl [[(h0, .inr (5, [.ref (u2 0), .ref (u4 0), .null, .null, .null, .int 0, .int 0, .int 0]))], exW cI u2 E0, exW cI u4 E0])) (x := (q5, .inr (0, [.null, .null, .null, .null, .null, .null, .int 0]))) ⟨hx, hb, hml, hown, hts⟩ (c_X0_init l D cI cC cE q5 _) (cwI 0 hts gX5_init_X0_init rfl rfl rfl (hts (.initialized RX0) (List.mem_of_getElem? (i := 6) rfl)) (hts (.methodLink RX5 9 yX0_init) (List.mem_of_getElem? (i := 20) rfl)) (hts (.instanceMethod yX0_init) (List.mem_of_getElem? (i := 21) rfl)) rfl (by decide +kernel) ⟨Nat.le_of_ble_eq_true rfl, Nat.le_of_ble_eq_true rfl⟩) hN hK hP hD hS hA rfl hl.1 rfl (Nat.le_of_ble_eq_true rfl) dX5_init_31 ⟨Nat.le_of_ble_eq_true rfl, Nat.le_of_ble_eq_true rfl⟩ (fun u6 H locs hu6 hP9 hD9 hS => ?_)
  obtain rfl : u6 0 = q5 := hu6
  rw [fl_snoc] at hP9 hD9
  have hP : va_P D vwCl (fl [[(h0, .inr (5, [.ref (u2 0), .ref (u4 0), .null, .null, .null, .int 0, .int 0, .int 0]))], exW cI u2 E0, exW cI u4 E0, exW cI u6 E0]) H := hP9
  have hD : va_D A (fl [[(h0, .inr (5, [.ref (u2 0), .ref (u4 0), .null, .null, .null, .int 0, .int 0, .int 0]))], exW cI u2 E0, exW cI u4 E0, exW cI u6 E0]) := hD9
  refine va_putF (D := D) (ci := 5) (v := .ref (u6 0)) (ty := (.object "RiddleTrade$Exchange")) (C := RX5) (T := TX5) (N := 8) hx hb hts hiX5 tyX5 tyX5_ok nmX5 hown hK hP hD hS 0 rfl rfl 2 (by decide) (hts (.fieldLink RX5 19 "RiddleTrade" "snapshot" "LRiddleTrade$Exchange;") (List.mem_of_getElem? (i := 9) rfl)) (fun _ h9 => h9) rfl hname rfl (by decide +kernel) rfl rfl (Nat.le_of_ble_eq_true rfl) dX5_init_34 (fun H locs hP hD hS => ?_)
  have hP : va_P D vwCl (fl [[(h0, .inr (5, [.ref (u2 0), .ref (u4 0), .ref (u6 0), .null, .null, .int 0, .int 0, .int 0]))], exW cI u2 E0, exW cI u4 E0, exW cI u6 E0]) H := hP
  have hD : va_D A (fl [[(h0, .inr (5, [.ref (u2 0), .ref (u4 0), .ref (u6 0), .null, .null, .int 0, .int 0, .int 0]))], exW cI u2 E0, exW cI u4 E0, exW cI u6 E0]) := hD
  refine lv_aload_n hx hb dX5_init_37 rfl (lv_at hl 0 rfl) ?_
  refine va_new (ci := 1) (fs := [.null, .int 0, .int 0]) (C := RX1) (T := TX1) (N := 3) hx hb hts hiX1 tyX1 tyX1_ok hown (hts (.classLink RX5 22 RX1) (List.mem_of_getElem? (i := 10) rfl)) (hts (.instantiable RX1 3) (List.mem_of_getElem? (i := 11) rfl)) (hts (.initialized RX1) (List.mem_of_getElem? (i := 12) rfl)) hK hP hD hS hA rfl (fun j hj => by rcases (show j = 0 ∨ j = 1 ∨ j = 2 by omega) with rfl | rfl | rfl <;> rfl) (Nat.le_of_ble_eq_true rfl) (Nat.le_of_ble_eq_true rfl) dX5_init_38 (fun q7 H hP hD hS => ?_)
  refine lv_dup hx hb dX5_init_41 rfl ?_
  refine kcInit (wr := (fl [[(h0, .inr (5, [.ref (u2 0), .ref (u4 0), .ref (u6 0), .null, .null, .int 0, .int 0, .int 0]))], exW cI u2 E0, exW cI u4 E0, exW cI u6 E0])) (x := (q7, .inr (1, [.null, .int 0, .int 0]))) ⟨hx, hb, hml, hown, hts⟩ (c_X1_init l D cI cC cE q7 _) (cwI 0 hts gX5_init_X1_init rfl rfl rfl (hts (.initialized RX1) (List.mem_of_getElem? (i := 12) rfl)) (hts (.methodLink RX5 24 yX1_init) (List.mem_of_getElem? (i := 60) rfl)) (hts (.instanceMethod yX1_init) (List.mem_of_getElem? (i := 61) rfl)) rfl (by decide +kernel) ⟨Nat.le_of_ble_eq_true rfl, Nat.le_of_ble_eq_true rfl⟩) hN hK hP hD hS hA rfl hl.1 rfl (Nat.le_of_ble_eq_true rfl) dX5_init_42 ⟨Nat.le_of_ble_eq_true rfl, Nat.le_of_ble_eq_true rfl⟩ (fun u8 H locs hu8 hP9 hD9 hS => ?_)
  rw [fl_snoc] at hP9 hD9
  have hP : va_P D vwCl (fl [[(h0, .inr (5, [.ref (u2 0), .ref (u4 0), .ref (u6 0), .null, .null, .int 0, .int 0, .int 0]))], exW cI u2 E0, exW cI u4 E0, exW cI u6 E0, fl [w_X1_stateAt cI cC cE q7 u8.1 u8.2 0 0, exW cI (u8.2 0) E0, exW cI (u8.2 1) E0, exW cI (u8.2 2) E0, exW cI (u8.2 3) E0]]) H := hP9
  have hD : va_D A (fl [[(h0, .inr (5, [.ref (u2 0), .ref (u4 0), .ref (u6 0), .null, .null, .int 0, .int 0, .int 0]))], exW cI u2 E0, exW cI u4 E0, exW cI u6 E0, fl [w_X1_stateAt cI cC cE q7 u8.1 u8.2 0 0, exW cI (u8.2 0) E0, exW cI (u8.2 1) E0, exW cI (u8.2 2) E0, exW cI (u8.2 3) E0]]) := hD9
  refine va_putF (D := D) (ci := 5) (v := .ref q7) (ty := (.object "RiddleTrade$History")) (C := RX5) (T := TX5) (N := 8) hx hb hts hiX5 tyX5 tyX5_ok nmX5 hown hK hP hD hS 0 rfl rfl 3 (by decide) (hts (.fieldLink RX5 25 "RiddleTrade" "history" "LRiddleTrade$History;") (List.mem_of_getElem? (i := 13) rfl)) (fun _ h9 => h9) rfl hname rfl (by decide +kernel) rfl rfl (Nat.le_of_ble_eq_true rfl) dX5_init_45 (fun H locs hP hD hS => ?_)
  have hP : va_P D vwCl (fl [[(h0, .inr (5, [.ref (u2 0), .ref (u4 0), .ref (u6 0), .ref q7, .null, .int 0, .int 0, .int 0]))], exW cI u2 E0, exW cI u4 E0, exW cI u6 E0, fl [w_X1_stateAt cI cC cE q7 u8.1 u8.2 0 0, exW cI (u8.2 0) E0, exW cI (u8.2 1) E0, exW cI (u8.2 2) E0, exW cI (u8.2 3) E0]]) H := hP
  have hD : va_D A (fl [[(h0, .inr (5, [.ref (u2 0), .ref (u4 0), .ref (u6 0), .ref q7, .null, .int 0, .int 0, .int 0]))], exW cI u2 E0, exW cI u4 E0, exW cI u6 E0, fl [w_X1_stateAt cI cC cE q7 u8.1 u8.2 0 0, exW cI (u8.2 0) E0, exW cI (u8.2 1) E0, exW cI (u8.2 2) E0, exW cI (u8.2 3) E0]]) := hD
  refine lv_aload_n hx hb dX5_init_48 rfl (lv_at hl 0 rfl) ?_
  refine va_new (ci := 2) (fs := [.null, .null, .int 0, .int 0, .int 0]) (C := RX2) (T := TX2) (N := 5) hx hb hts hiX2 tyX2 tyX2_ok hown (hts (.classLink RX5 29 RX2) (List.mem_of_getElem? (i := 14) rfl)) (hts (.instantiable RX2 5) (List.mem_of_getElem? (i := 15) rfl)) (hts (.initialized RX2) (List.mem_of_getElem? (i := 16) rfl)) hK hP hD hS hA rfl (fun j hj => by rcases (show j = 0 ∨ j = 1 ∨ j = 2 ∨ j = 3 ∨ j = 4 by omega) with rfl | rfl | rfl | rfl | rfl <;> rfl) (Nat.le_of_ble_eq_true rfl) (Nat.le_of_ble_eq_true rfl) dX5_init_49 (fun q9 H hP hD hS => ?_)
  refine lv_dup hx hb dX5_init_52 rfl ?_
  refine kcInitN (wr := (fl [[(h0, .inr (5, [.ref (u2 0), .ref (u4 0), .ref (u6 0), .ref q7, .null, .int 0, .int 0, .int 0]))], exW cI u2 E0, exW cI u4 E0, exW cI u6 E0, fl [w_X1_stateAt cI cC cE q7 u8.1 u8.2 0 0, exW cI (u8.2 0) E0, exW cI (u8.2 1) E0, exW cI (u8.2 2) E0, exW cI (u8.2 3) E0]])) (x := (q9, .inr (2, [.null, .null, .int 0, .int 0, .int 0]))) ⟨hx, hb, hml, hown, hts⟩ (c_X2_init l D cI cC cE q9 _) ⟨va_cnB 0 hts gX5_init_X2_init_n31 rfl rfl rfl hN.2.2 (hts (.initialized RX2) (List.mem_of_getElem? (i := 16) rfl)) (by decide +kernel) ⟨Nat.le_of_ble_eq_true rfl, Nat.le_of_ble_eq_true rfl⟩, rfl, (hts (.instanceMethod yX2_init) (List.mem_of_getElem? (i := 67) rfl))⟩ hN hK hP hD hS hA rfl hl.1 rfl (Nat.le_of_ble_eq_true rfl) dX5_init_53 ⟨Nat.le_of_ble_eq_true rfl, Nat.le_of_ble_eq_true rfl⟩ (fun u10 H locs hu10 hP9 hD9 hS => ?_)
  rw [fl_snoc] at hP9 hD9
  have hP : va_P D vwCl (fl [[(h0, .inr (5, [.ref (u2 0), .ref (u4 0), .ref (u6 0), .ref q7, .null, .int 0, .int 0, .int 0]))], exW cI u2 E0, exW cI u4 E0, exW cI u6 E0, fl [w_X1_stateAt cI cC cE q7 u8.1 u8.2 0 0, exW cI (u8.2 0) E0, exW cI (u8.2 1) E0, exW cI (u8.2 2) E0, exW cI (u8.2 3) E0], ofW cI cC q9 u10.1 u10.2.1 u10.2.2 (fun _ => 0) (fun _ => 0) 0 0 0 0]) H := hP9
  have hD : va_D A (fl [[(h0, .inr (5, [.ref (u2 0), .ref (u4 0), .ref (u6 0), .ref q7, .null, .int 0, .int 0, .int 0]))], exW cI u2 E0, exW cI u4 E0, exW cI u6 E0, fl [w_X1_stateAt cI cC cE q7 u8.1 u8.2 0 0, exW cI (u8.2 0) E0, exW cI (u8.2 1) E0, exW cI (u8.2 2) E0, exW cI (u8.2 3) E0], ofW cI cC q9 u10.1 u10.2.1 u10.2.2 (fun _ => 0) (fun _ => 0) 0 0 0 0]) := hD9
  refine va_putF (D := D) (ci := 5) (v := .ref q9) (ty := (.object "RiddleTrade$Offers")) (C := RX5) (T := TX5) (N := 8) hx hb hts hiX5 tyX5 tyX5_ok nmX5 hown hK hP hD hS 0 rfl rfl 4 (by decide) (hts (.fieldLink RX5 32 "RiddleTrade" "offers" "LRiddleTrade$Offers;") (List.mem_of_getElem? (i := 17) rfl)) (fun _ h9 => h9) rfl hname rfl (by decide +kernel) rfl rfl (Nat.le_of_ble_eq_true rfl) dX5_init_56 (fun H locs hP hD hS => ?_)
  have hP : va_P D vwCl (fl [[(h0, .inr (5, [.ref (u2 0), .ref (u4 0), .ref (u6 0), .ref q7, .ref q9, .int 0, .int 0, .int 0]))], exW cI u2 E0, exW cI u4 E0, exW cI u6 E0, fl [w_X1_stateAt cI cC cE q7 u8.1 u8.2 0 0, exW cI (u8.2 0) E0, exW cI (u8.2 1) E0, exW cI (u8.2 2) E0, exW cI (u8.2 3) E0], ofW cI cC q9 u10.1 u10.2.1 u10.2.2 (fun _ => 0) (fun _ => 0) 0 0 0 0]) H := hP
  have hD : va_D A (fl [[(h0, .inr (5, [.ref (u2 0), .ref (u4 0), .ref (u6 0), .ref q7, .ref q9, .int 0, .int 0, .int 0]))], exW cI u2 E0, exW cI u4 E0, exW cI u6 E0, fl [w_X1_stateAt cI cC cE q7 u8.1 u8.2 0 0, exW cI (u8.2 0) E0, exW cI (u8.2 1) E0, exW cI (u8.2 2) E0, exW cI (u8.2 3) E0], ofW cI cC q9 u10.1 u10.2.1 u10.2.2 (fun _ => 0) (fun _ => 0) 0 0 0 0]) := hD
  refine lv_aload_n hx hb dX5_init_59 rfl (lv_at hl 0 rfl) ?_
  refine lv_bipush (v := (-5)) hx hb dX5_init_60 (by decide) ?_
  refine va_put (ci := 5) (ty := .int) (C := RX5) (T := TX5) (N := 8) hx hb hts hiX5 tyX5 tyX5_ok nmX5 hown hK hP hD hS 0 rfl rfl 6 (by decide) (hts (.fieldLink RX5 36 "RiddleTrade" "stoppedNumber" "I") (List.mem_of_getElem? (i := 18) rfl)) (fun _ h9 => h9) rfl (by decide +kernel) rfl rfl (Nat.le_of_ble_eq_true rfl) dX5_init_62 (fun H locs hP hD hS => ?_)
  have hP : va_P D vwCl (fl [[(h0, .inr (5, [.ref (u2 0), .ref (u4 0), .ref (u6 0), .ref q7, .ref q9, .int 0, .int (-5), .int 0]))], exW cI u2 E0, exW cI u4 E0, exW cI u6 E0, fl [w_X1_stateAt cI cC cE q7 u8.1 u8.2 0 0, exW cI (u8.2 0) E0, exW cI (u8.2 1) E0, exW cI (u8.2 2) E0, exW cI (u8.2 3) E0], ofW cI cC q9 u10.1 u10.2.1 u10.2.2 (fun _ => 0) (fun _ => 0) 0 0 0 0]) H := hP
  have hD : va_D A (fl [[(h0, .inr (5, [.ref (u2 0), .ref (u4 0), .ref (u6 0), .ref q7, .ref q9, .int 0, .int (-5), .int 0]))], exW cI u2 E0, exW cI u4 E0, exW cI u6 E0, fl [w_X1_stateAt cI cC cE q7 u8.1 u8.2 0 0, exW cI (u8.2 0) E0, exW cI (u8.2 1) E0, exW cI (u8.2 2) E0, exW cI (u8.2 3) E0], ofW cI cC q9 u10.1 u10.2.1 u10.2.2 (fun _ => 0) (fun _ => 0) 0 0 0 0]) := hD
  refine lv_aload_n hx hb dX5_init_65 rfl (lv_at hl 0 rfl) ?_
  refine lv_bipush (v := (-5)) hx hb dX5_init_66 (by decide) ?_
  refine va_put (ci := 5) (ty := .int) (C := RX5) (T := TX5) (N := 8) hx hb hts hiX5 tyX5 tyX5_ok nmX5 hown hK hP hD hS 0 rfl rfl 7 (by decide) (hts (.fieldLink RX5 40 "RiddleTrade" "stoppedError" "I") (List.mem_of_getElem? (i := 19) rfl)) (fun _ h9 => h9) rfl (by decide +kernel) rfl rfl (Nat.le_of_ble_eq_true rfl) dX5_init_68 (fun H locs hP hD hS => ?_)
  have hP : va_P D vwCl (fl [[(h0, .inr (5, [.ref (u2 0), .ref (u4 0), .ref (u6 0), .ref q7, .ref q9, .int 0, .int (-5), .int (-5)]))], exW cI u2 E0, exW cI u4 E0, exW cI u6 E0, fl [w_X1_stateAt cI cC cE q7 u8.1 u8.2 0 0, exW cI (u8.2 0) E0, exW cI (u8.2 1) E0, exW cI (u8.2 2) E0, exW cI (u8.2 3) E0], ofW cI cC q9 u10.1 u10.2.1 u10.2.2 (fun _ => 0) (fun _ => 0) 0 0 0 0]) H := hP
  have hD : va_D A (fl [[(h0, .inr (5, [.ref (u2 0), .ref (u4 0), .ref (u6 0), .ref q7, .ref q9, .int 0, .int (-5), .int (-5)]))], exW cI u2 E0, exW cI u4 E0, exW cI u6 E0, fl [w_X1_stateAt cI cC cE q7 u8.1 u8.2 0 0, exW cI (u8.2 0) E0, exW cI (u8.2 1) E0, exW cI (u8.2 2) E0, exW cI (u8.2 3) E0], ofW cI cC q9 u10.1 u10.2.1 u10.2.2 (fun _ => 0) (fun _ => 0) 0 0 0 0]) := hD
  refine W.widen (k := 97) (n := 3704) (Nat.le_of_ble_eq_true rfl) (Nat.le_of_ble_eq_true rfl) ?_
  exact fin (u2, u4, u6, q7, u8, q9, u10) _ _ _ _ trivial dX5_init_71 hP hD hS
