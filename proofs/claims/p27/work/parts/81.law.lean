/-! part 81: the law's body -/
def j_L_law_289 (L : Nat) (xs : Nat → Int32) (x3 : Int32) (t : Td) (u : Td) : Option (Int32 × Td × Td) :=
    if x3 = 0 then (some (0, t, u))
    else (ob1 (q_count 0 t) fun r12 =>
    ob1 (q_count 0 u) fun r14 =>
    if r12 = r14 then (ob1 (q_count 4 t) fun r17 =>
    ob1 (q_count 4 u) fun r19 =>
    if r17 = r19 then (ob1 (q_count 9 t) fun r22 =>
    ob1 (q_count 9 u) fun r24 =>
    if r22 = r24 then (ob2 (zb2 (d_L_hangs t)) fun r27 t29 =>
    if r27 = 0 then (some (0, t29, u))
    else (ob2 (zb2 (d_L_hangs u)) fun r31 u33 =>
    if r31 = 0 then (some (0, t29, u33))
    else (some (1, t29, u33))))
    else (some (0, t, u)))
    else (some (0, t, u)))
    else (some (0, t, u)))
def lp_L_law_251 (L : Nat) (xs : Nat → Int32) : Nat → Int32 → Int32 → Td → Td → Option (Int32 × Td × Td)
  | 0 => fun _ _ _ _ => none
  | k + 1 => fun x3 x6 t u =>
    if 8 ≤ x6 then (j_L_law_289  L xs x3 t u)
    else (if x3 = 0 then (j_L_law_289  L xs x3 t u)
    else (ob1 (q_account x6 t) fun r36 =>
    ob1 (q_account x6 u) fun r38 =>
    if r36 = r38 then ((lp_L_law_251  L xs k) 1 (x6 + 1) t u)
    else ((lp_L_law_251  L xs k) 0 (x6 + 1) t u)))
def j_L_law_227 (L : Nat) (xs : Nat → Int32) (x3 : Int32) (x4 : Int32) (x5 : Int32) (t : Td) (u : Td) : Option (Int32 × Td × Td) :=
    if x3 = 0 then (lp_L_law_251  L xs fuel 0 0 t u)
    else (ob2 (q_pass x4 u) fun r41 u43 =>
    if r41 = x5 then (lp_L_law_251  L xs fuel 1 0 t u43)
    else (lp_L_law_251  L xs fuel 0 0 t u43))
def lp_L_law_200 (L : Nat) (xs : Nat → Int32) : Nat → Int32 → Int32 → Int32 → Int32 → Td → Td → Option (Int32 × Td × Td)
  | 0 => fun _ _ _ _ _ _ => none
  | k + 1 => fun x3 x4 x5 x6 t u =>
    if x4 ≤ x6 then (j_L_law_227  L xs x3 x4 x5 t u)
    else (if x3 = 0 then (j_L_law_227  L xs x3 x4 x5 t u)
    else (ob2 (q_pass 1 t) fun r46 t48 =>
    (lp_L_law_200  L xs k) x3 x4 (x5 + r46) (x6 + 1) t48 u))
def j_L_law_181 (L : Nat) (xs : Nat → Int32) (x3 : Int32) (t : Td) (u : Td) : Option (Int32 × Td × Td) :=
    ob1 (celI L xs 44) fun r6 =>
    lp_L_law_200  L xs fuel x3 (2 + (r6 - r6 / 20 * 20)) 0 0 t u
def j_L_law_124 (LP78 : Int32 → Int32 → Td → Td → Option (Int32 × Td × Td)) (L : Nat) (xs : Nat → Int32) (x4 : Int32) (x5 : Int32) (x6 : Int32) (t : Td) (u : Td) : Option (Int32 × Td × Td) :=
    ob2 (d_L_acts x5 u) fun r56 u58 =>
    if r56 = x6 then (ob1 (zb1 (d_L_same t u58)) fun r60 =>
    if r60 = 0 then (LP78 0 (x4 + 1) t u58)
    else (if 0 < (x4 - x4 / 4 * 4) then (LP78 1 (x4 + 1) t u58)
    else (if (x4 - x4 / 8 * 8) = 0 then (ob2 (zb2 (d_L_hangs t)) fun r69 t71 =>
    if r69 = 0 then (LP78 0 (x4 + 1) t71 u58)
    else (LP78 1 (x4 + 1) t71 u58))
    else (ob2 (zb2 (d_L_hangs u58)) fun r65 u67 =>
    if r65 = 0 then (LP78 0 (x4 + 1) t u67)
    else (LP78 1 (x4 + 1) t u67)))))
    else (LP78 0 (x4 + 1) t u58)
def lp_L_law_78 (L : Nat) (xs : Nat → Int32) : Nat → Int32 → Int32 → Td → Td → Option (Int32 × Td × Td)
  | 0 => fun _ _ _ _ => none
  | k + 1 => fun x3 x4 t u =>
    if 44 ≤ x4 then (j_L_law_181  L xs x3 t u)
    else (if x3 = 0 then (j_L_law_181  L xs x3 t u)
    else (ob1 (celI L xs x4) fun r50 =>
    ob2 (d_L_acts r50 t) fun r52 t54 =>
    if 0 < (x4 - x4 / 3 * 3) then (j_L_law_124 (lp_L_law_78  L xs k) L xs x4 r50 r52 t54 u)
    else (ob2 (zb2 (d_L_refuses (r50 - r50 / 100000 * 100000) u)) fun r73 u75 =>
    if r73 = 0 then ((lp_L_law_78  L xs k) 0 (x4 + 1) t54 u75)
    else (j_L_law_124 (lp_L_law_78  L xs k) L xs x4 r50 r52 t54 u75))))
def d_L_law (L : Nat) (xs : Nat → Int32) (t : Td) (u : Td) : Option (Int32 × Td × Td) :=
    ob2 (q_undo t) fun r1 t3 =>
    if r1 = (-5) then (ob2 (q_restore t3) fun r77 t79 =>
    if r77 = (-5) then (ob2 (q_perform t79) fun r81 t83 =>
    if r81 = (-100) then (ob1 (q_stopped 0 t83) fun r85 =>
    if r85 = (-5) then (ob2 (q_adjust t83) fun r88 t90 =>
    if r88 = (-5) then (ob2 (zb2 (d_L_hangs t90)) fun r92 t94 =>
    if r92 = 0 then (lp_L_law_78  L xs fuel 0 0 t94 u)
    else (lp_L_law_78  L xs fuel 1 0 t94 u))
    else (lp_L_law_78  L xs fuel 0 0 t90 u))
    else (lp_L_law_78  L xs fuel 0 0 t83 u))
    else (lp_L_law_78  L xs fuel 0 0 t83 u))
    else (lp_L_law_78  L xs fuel 0 0 t79 u))
    else (lp_L_law_78  L xs fuel 0 0 t3 u)
set_option maxHeartbeats 16000000 in
set_option maxRecDepth 100000 in
theorem t_L_law_289 {p : Program} {l : Launch} {e : Env} {s : State} {m : MethodId} {below : List Frame} {meth : Method} {c : Code} {D : va_G} {cI cC cE : ClassId} {b L : Nat} {xs : Nat → Int32} {a b_ : Nat → Nat} {t0 u0 : Td} (hr : meth.sig.returnType = ret) (hlocks : meth.locks = false) (hx : p.tables.exec = Jvm.exec) (hb : c.code = code) (hml : c.maxLocals = 7) (hown : s.vm.findClass RL = some m.cls) (hts : ∀ w ∈ wsL_law, w.before #[Value.ref b] s = true) (hX : va_X b L xs s s.heap) (hbl : b < s.heap.size) (hK : va_K D vwCl (kT cI cC cE) s) (hA : ∀ q : Nat, s.heap.size ≤ q → lwA s q) (hbA : ¬ lwA s b) (hLen : L < 2 ^ 31) : ∀ (x3 : Int32) (t : Td) (u : Td) (H : Heap) (locs : List Loc), va_P D vwCl (fl [tdW cI cC cE a t, tdW cI cC cE b_ u]) H → va_D (lwA s) (fl [tdW cI cC cE a t, tdW cI cC cE b_ u]) → va_S (lwA s) s.heap H locs → ∀ (ls : Array Slot), lv_has ls 7 [(1, .ref (a 0)), (2, .ref (b_ 0)), (3, .int x3)] → j_L_law_289  L xs x3 t u = some (1, t0, u0) → W p l e room_1 s m #[Value.ref b] below meth c H locs 600000 7302250 (lw_Z below #[Value.ref b] s) (F0 m 289 ls []) := by
  intro x3 t u H locs hP hD hS ls hl h
  dsimp only [j_L_law_289] at h
  refine lv_iload_n hx hb dL_law_289 rfl (lv_at hl 2 rfl) ?_
  refine lv_if_eq (tgt := 352) hx hb dL_law_290 (by decide) (fun c11 => ?_) (fun c11 => ?_)
  · have h := (k_iB h).1 c11
    refine lv_iconst (v := 0) hx hb dL_law_352 (by decide) ?_
    exact absurd (inj3 (Option.some.inj h)).1 (by decide)
  · have h := (k_iB h).2 c11
    refine lv_aload_n hx hb dL_law_293 rfl (lv_at hl 0 rfl) ?_
    refine lv_iconst (v := 0) hx hb dL_law_294 (by decide) ?_
    obtain ⟨r12, hu13, h⟩ := ob1_el h
    refine kbi (ci := 5) (q := (RX5, TX5, 8)) (bs := [tdW cI cC cE a t, tdW cI cC cE b_ u]) (cs := [tdW cI cC cE a t]) (cs' := [tdW cI cC cE a t]) (bs1 := [tdW cI cC cE a t, tdW cI cC cE b_ u]) ⟨hx, hb, hml, hown, hts⟩ [0] [1] (cq_count l D cI cC cE a _ t 0 r12 hu13) (cwV 1 hts gL_law_X5_count rfl rfl rfl (by decide +kernel) ⟨Nat.le_of_ble_eq_true rfl, Nat.le_of_ble_eq_true rfl⟩) hK hP hD hS hA rfl rfl rfl rfl rfl rfl rfl rfl rfl hl.1 rfl (Nat.le_of_ble_eq_true rfl) dL_law_295 ⟨Nat.le_of_ble_eq_true rfl, Nat.le_of_ble_eq_true rfl⟩ (fun H locs hP hD hS => ?_)
    refine lv_aload_n hx hb dL_law_298 rfl (lv_at hl 1 rfl) ?_
    refine lv_iconst (v := 0) hx hb dL_law_299 (by decide) ?_
    obtain ⟨r14, hu15, h⟩ := ob1_el h
    refine kbi (ci := 5) (q := (RX5, TX5, 8)) (bs := [tdW cI cC cE a t, tdW cI cC cE b_ u]) (cs := [tdW cI cC cE b_ u]) (cs' := [tdW cI cC cE b_ u]) (bs1 := [tdW cI cC cE a t, tdW cI cC cE b_ u]) ⟨hx, hb, hml, hown, hts⟩ [1] [0] (cq_count l D cI cC cE b_ _ u 0 r14 hu15) (cwV 1 hts gL_law_X5_count rfl rfl rfl (by decide +kernel) ⟨Nat.le_of_ble_eq_true rfl, Nat.le_of_ble_eq_true rfl⟩) hK hP hD hS hA rfl rfl rfl rfl rfl rfl rfl rfl rfl hl.1 rfl (Nat.le_of_ble_eq_true rfl) dL_law_300 ⟨Nat.le_of_ble_eq_true rfl, Nat.le_of_ble_eq_true rfl⟩ (fun H locs hP hD hS => ?_)
    refine lv_icmp_ne (tgt := 352) hx hb dL_law_303 (by decide) (fun c16 => ?_) (fun c16 => ?_)
    · have h := (k_iB h).2 c16
      refine lv_iconst (v := 0) hx hb dL_law_352 (by decide) ?_
      exact absurd (inj3 (Option.some.inj h)).1 (by decide)
    · have h := (k_iB h).1 c16
      refine lv_aload_n hx hb dL_law_306 rfl (lv_at hl 0 rfl) ?_
      refine lv_iconst (v := 4) hx hb dL_law_307 (by decide) ?_
      obtain ⟨r17, hu18, h⟩ := ob1_el h
      refine kbi (ci := 5) (q := (RX5, TX5, 8)) (bs := [tdW cI cC cE a t, tdW cI cC cE b_ u]) (cs := [tdW cI cC cE a t]) (cs' := [tdW cI cC cE a t]) (bs1 := [tdW cI cC cE a t, tdW cI cC cE b_ u]) ⟨hx, hb, hml, hown, hts⟩ [0] [1] (cq_count l D cI cC cE a _ t 4 r17 hu18) (cwV 1 hts gL_law_X5_count rfl rfl rfl (by decide +kernel) ⟨Nat.le_of_ble_eq_true rfl, Nat.le_of_ble_eq_true rfl⟩) hK hP hD hS hA rfl rfl rfl rfl rfl rfl rfl rfl rfl hl.1 rfl (Nat.le_of_ble_eq_true rfl) dL_law_308 ⟨Nat.le_of_ble_eq_true rfl, Nat.le_of_ble_eq_true rfl⟩ (fun H locs hP hD hS => ?_)
      refine lv_aload_n hx hb dL_law_311 rfl (lv_at hl 1 rfl) ?_
      refine lv_iconst (v := 4) hx hb dL_law_312 (by decide) ?_
      obtain ⟨r19, hu20, h⟩ := ob1_el h
      refine kbi (ci := 5) (q := (RX5, TX5, 8)) (bs := [tdW cI cC cE a t, tdW cI cC cE b_ u]) (cs := [tdW cI cC cE b_ u]) (cs' := [tdW cI cC cE b_ u]) (bs1 := [tdW cI cC cE a t, tdW cI cC cE b_ u]) ⟨hx, hb, hml, hown, hts⟩ [1] [0] (cq_count l D cI cC cE b_ _ u 4 r19 hu20) (cwV 1 hts gL_law_X5_count rfl rfl rfl (by decide +kernel) ⟨Nat.le_of_ble_eq_true rfl, Nat.le_of_ble_eq_true rfl⟩) hK hP hD hS hA rfl rfl rfl rfl rfl rfl rfl rfl rfl hl.1 rfl (Nat.le_of_ble_eq_true rfl) dL_law_313 ⟨Nat.le_of_ble_eq_true rfl, Nat.le_of_ble_eq_true rfl⟩ (fun H locs hP hD hS => ?_)
      refine lv_icmp_ne (tgt := 352) hx hb dL_law_316 (by decide) (fun c21 => ?_) (fun c21 => ?_)
      · have h := (k_iB h).2 c21
        refine lv_iconst (v := 0) hx hb dL_law_352 (by decide) ?_
        exact absurd (inj3 (Option.some.inj h)).1 (by decide)
      · have h := (k_iB h).1 c21
        refine lv_aload_n hx hb dL_law_319 rfl (lv_at hl 0 rfl) ?_
        refine lv_bipush (v := 9) hx hb dL_law_320 (by decide) ?_
        obtain ⟨r22, hu23, h⟩ := ob1_el h
        refine kbi (ci := 5) (q := (RX5, TX5, 8)) (bs := [tdW cI cC cE a t, tdW cI cC cE b_ u]) (cs := [tdW cI cC cE a t]) (cs' := [tdW cI cC cE a t]) (bs1 := [tdW cI cC cE a t, tdW cI cC cE b_ u]) ⟨hx, hb, hml, hown, hts⟩ [0] [1] (cq_count l D cI cC cE a _ t 9 r22 hu23) (cwV 1 hts gL_law_X5_count rfl rfl rfl (by decide +kernel) ⟨Nat.le_of_ble_eq_true rfl, Nat.le_of_ble_eq_true rfl⟩) hK hP hD hS hA rfl rfl rfl rfl rfl rfl rfl rfl rfl hl.1 rfl (Nat.le_of_ble_eq_true rfl) dL_law_322 ⟨Nat.le_of_ble_eq_true rfl, Nat.le_of_ble_eq_true rfl⟩ (fun H locs hP hD hS => ?_)
        refine lv_aload_n hx hb dL_law_325 rfl (lv_at hl 1 rfl) ?_
        refine lv_bipush (v := 9) hx hb dL_law_326 (by decide) ?_
        obtain ⟨r24, hu25, h⟩ := ob1_el h
        refine kbi (ci := 5) (q := (RX5, TX5, 8)) (bs := [tdW cI cC cE a t, tdW cI cC cE b_ u]) (cs := [tdW cI cC cE b_ u]) (cs' := [tdW cI cC cE b_ u]) (bs1 := [tdW cI cC cE a t, tdW cI cC cE b_ u]) ⟨hx, hb, hml, hown, hts⟩ [1] [0] (cq_count l D cI cC cE b_ _ u 9 r24 hu25) (cwV 1 hts gL_law_X5_count rfl rfl rfl (by decide +kernel) ⟨Nat.le_of_ble_eq_true rfl, Nat.le_of_ble_eq_true rfl⟩) hK hP hD hS hA rfl rfl rfl rfl rfl rfl rfl rfl rfl hl.1 rfl (Nat.le_of_ble_eq_true rfl) dL_law_328 ⟨Nat.le_of_ble_eq_true rfl, Nat.le_of_ble_eq_true rfl⟩ (fun H locs hP hD hS => ?_)
        refine lv_icmp_ne (tgt := 352) hx hb dL_law_331 (by decide) (fun c26 => ?_) (fun c26 => ?_)
        · have h := (k_iB h).2 c26
          refine lv_iconst (v := 0) hx hb dL_law_352 (by decide) ?_
          exact absurd (inj3 (Option.some.inj h)).1 (by decide)
        · have h := (k_iB h).1 c26
          refine lv_aload_n hx hb dL_law_334 rfl (lv_at hl 0 rfl) ?_
          obtain ⟨r27, t29, hu28, h⟩ := ob2_el h
          refine kbSi (bs := [tdW cI cC cE a t, tdW cI cC cE b_ u]) (cs := [tdW cI cC cE a t]) (cs' := [tdW cI cC cE a t29]) (bs1 := [tdW cI cC cE a t29, tdW cI cC cE b_ u]) ⟨hx, hb, hml, hown, hts⟩ [0] [1] (c_L_hangs l D cI cC cE a _ t  r27 t29 (zb2_el hu28).1 (zb2_el hu28).2) (va_cwS 1 hts gL_law_L_hangs rfl rfl rfl (by decide +kernel) ⟨Nat.le_of_ble_eq_true rfl, Nat.le_of_ble_eq_true rfl⟩) hK hP hD hS hA rfl rfl rfl rfl rfl rfl rfl hl.1 rfl (Nat.le_of_ble_eq_true rfl) dL_law_335 ⟨Nat.le_of_ble_eq_true rfl, Nat.le_of_ble_eq_true rfl⟩ (fun H locs hP hD hS => ?_)
          refine lv_if_eq (tgt := 352) hx hb dL_law_338 (by decide) (fun c30 => ?_) (fun c30 => ?_)
          · have h := (k_iB h).1 c30
            refine lv_iconst (v := 0) hx hb dL_law_352 (by decide) ?_
            exact absurd (inj3 (Option.some.inj h)).1 (by decide)
          · have h := (k_iB h).2 c30
            refine lv_aload_n hx hb dL_law_341 rfl (lv_at hl 1 rfl) ?_
            obtain ⟨r31, u33, hu32, h⟩ := ob2_el h
            refine kbSi (bs := [tdW cI cC cE a t29, tdW cI cC cE b_ u]) (cs := [tdW cI cC cE b_ u]) (cs' := [tdW cI cC cE b_ u33]) (bs1 := [tdW cI cC cE a t29, tdW cI cC cE b_ u33]) ⟨hx, hb, hml, hown, hts⟩ [1] [0] (c_L_hangs l D cI cC cE b_ _ u  r31 u33 (zb2_el hu32).1 (zb2_el hu32).2) (va_cwS 1 hts gL_law_L_hangs rfl rfl rfl (by decide +kernel) ⟨Nat.le_of_ble_eq_true rfl, Nat.le_of_ble_eq_true rfl⟩) hK hP hD hS hA rfl rfl rfl rfl rfl rfl rfl hl.1 rfl (Nat.le_of_ble_eq_true rfl) dL_law_342 ⟨Nat.le_of_ble_eq_true rfl, Nat.le_of_ble_eq_true rfl⟩ (fun H locs hP hD hS => ?_)
            refine lv_if_eq (tgt := 352) hx hb dL_law_345 (by decide) (fun c34 => ?_) (fun c34 => ?_)
            · have h := (k_iB h).1 c34
              refine lv_iconst (v := 0) hx hb dL_law_352 (by decide) ?_
              exact absurd (inj3 (Option.some.inj h)).1 (by decide)
            · have h := (k_iB h).2 c34
              refine lv_iconst (v := 1) hx hb dL_law_348 (by decide) ?_
              refine lv_goto (tgt := 353) hx hb dL_law_349 (by decide) ?_
              refine va_forget (fun q hq => hS.2.2 q hq) ?_
              exact lw_ret hx hb hr hlocks dL_law_353
set_option maxHeartbeats 16000000 in
set_option maxRecDepth 100000 in
theorem t_L_law_251 {p : Program} {l : Launch} {e : Env} {s : State} {m : MethodId} {below : List Frame} {meth : Method} {c : Code} {D : va_G} {cI cC cE : ClassId} {b L : Nat} {xs : Nat → Int32} {a b_ : Nat → Nat} {t0 u0 : Td} (hr : meth.sig.returnType = ret) (hlocks : meth.locks = false) (hx : p.tables.exec = Jvm.exec) (hb : c.code = code) (hml : c.maxLocals = 7) (hown : s.vm.findClass RL = some m.cls) (hts : ∀ w ∈ wsL_law, w.before #[Value.ref b] s = true) (hX : va_X b L xs s s.heap) (hbl : b < s.heap.size) (hK : va_K D vwCl (kT cI cC cE) s) (hA : ∀ q : Nat, s.heap.size ≤ q → lwA s q) (hbA : ¬ lwA s b) (hLen : L < 2 ^ 31) : ∀ (k : Nat), ∀ (x3 : Int32) (x6 : Int32) (t : Td) (u : Td) (H : Heap) (locs : List Loc), va_P D vwCl (fl [tdW cI cC cE a t, tdW cI cC cE b_ u]) H → va_D (lwA s) (fl [tdW cI cC cE a t, tdW cI cC cE b_ u]) → va_S (lwA s) s.heap H locs → ∀ (ls : Array Slot), lv_has ls 7 [(1, .ref (a 0)), (2, .ref (b_ 0)), (3, .int x3), (6, .int x6)] → lp_L_law_251  L xs k x3 x6 t u = some (1, t0, u0) → W p l e room_1 s m #[Value.ref b] below meth c H locs 600000 7302250 (lw_Z below #[Value.ref b] s) (F0 m 251 ls []) := by
  intro k
  induction k with
  | zero =>
    intro x3 x6 t u H locs hP hD hS ls hl h
    exact k_none h
  | succ k ih =>
    intro x3 x6 t u H locs hP hD hS ls hl h
    dsimp only [lp_L_law_251] at h
    refine lv_iload hx hb dL_law_251 (lv_at hl 3 rfl) ?_
    refine lv_bipush (v := 8) hx hb dL_law_253 (by decide) ?_
    refine lv_icmp_ge (tgt := 289) hx hb dL_law_255 (by decide) (fun c10 => ?_) (fun c10 => ?_)
    · have h := (k_iB h).1 c10
      exact (t_L_law_289 hr hlocks hx hb hml hown hts hX hbl hK hA hbA hLen)   x3 t u _ _ hP hD hS _ (lv_sub hl [0, 1, 2] rfl) h
    · have h := (k_iB h).2 c10
      refine lv_iload_n hx hb dL_law_258 rfl (lv_at hl 2 rfl) ?_
      refine lv_if_eq (tgt := 289) hx hb dL_law_259 (by decide) (fun c35 => ?_) (fun c35 => ?_)
      · have h := (k_iB h).1 c35
        exact (t_L_law_289 hr hlocks hx hb hml hown hts hX hbl hK hA hbA hLen)   x3 t u _ _ hP hD hS _ (lv_sub hl [0, 1, 2] rfl) h
      · have h := (k_iB h).2 c35
        refine lv_aload_n hx hb dL_law_262 rfl (lv_at hl 0 rfl) ?_
        refine lv_iload hx hb dL_law_263 (lv_at hl 3 rfl) ?_
        obtain ⟨r36, hu37, h⟩ := ob1_el h
        refine kbi (ci := 5) (q := (RX5, TX5, 8)) (bs := [tdW cI cC cE a t, tdW cI cC cE b_ u]) (cs := [tdW cI cC cE a t]) (cs' := [tdW cI cC cE a t]) (bs1 := [tdW cI cC cE a t, tdW cI cC cE b_ u]) ⟨hx, hb, hml, hown, hts⟩ [0] [1] (cq_account l D cI cC cE a _ t x6 r36 hu37) (cwV 1 hts gL_law_X5_account rfl rfl rfl (by decide +kernel) ⟨Nat.le_of_ble_eq_true rfl, Nat.le_of_ble_eq_true rfl⟩) hK hP hD hS hA rfl rfl rfl rfl rfl rfl rfl rfl rfl hl.1 rfl (Nat.le_of_ble_eq_true rfl) dL_law_265 ⟨Nat.le_of_ble_eq_true rfl, Nat.le_of_ble_eq_true rfl⟩ (fun H locs hP hD hS => ?_)
        refine lv_aload_n hx hb dL_law_268 rfl (lv_at hl 1 rfl) ?_
        refine lv_iload hx hb dL_law_269 (lv_at hl 3 rfl) ?_
        obtain ⟨r38, hu39, h⟩ := ob1_el h
        refine kbi (ci := 5) (q := (RX5, TX5, 8)) (bs := [tdW cI cC cE a t, tdW cI cC cE b_ u]) (cs := [tdW cI cC cE b_ u]) (cs' := [tdW cI cC cE b_ u]) (bs1 := [tdW cI cC cE a t, tdW cI cC cE b_ u]) ⟨hx, hb, hml, hown, hts⟩ [1] [0] (cq_account l D cI cC cE b_ _ u x6 r38 hu39) (cwV 1 hts gL_law_X5_account rfl rfl rfl (by decide +kernel) ⟨Nat.le_of_ble_eq_true rfl, Nat.le_of_ble_eq_true rfl⟩) hK hP hD hS hA rfl rfl rfl rfl rfl rfl rfl rfl rfl hl.1 rfl (Nat.le_of_ble_eq_true rfl) dL_law_271 ⟨Nat.le_of_ble_eq_true rfl, Nat.le_of_ble_eq_true rfl⟩ (fun H locs hP hD hS => ?_)
        refine lv_icmp_ne (tgt := 281) hx hb dL_law_274 (by decide) (fun c40 => ?_) (fun c40 => ?_)
        · have h := (k_iB h).2 c40
          refine lv_iconst (v := 0) hx hb dL_law_281 (by decide) ?_
          refine lv_istore_n (lv' := [(3, .int 0), (1, .ref (a 0)), (2, .ref (b_ 0)), (6, .int x6)]) hx hb dL_law_282 rfl hl (by decide) rfl (fun ls hl => ?_)
          refine lv_iinc (v := (x6 + 1)) (lv' := [(6, .int (x6 + 1)), (3, .int 0), (1, .ref (a 0)), (2, .ref (b_ 0))]) hx hb dL_law_283 hl (k := 3) rfl rfl (by decide) rfl (fun ls hl => ?_)
          refine lv_goto (tgt := 251) hx hb dL_law_286 (by decide) ?_
          exact ih 0 (x6 + 1) t u _ _ hP hD hS _ (lv_sub hl [2, 3, 1, 0] rfl) h
        · have h := (k_iB h).1 c40
          refine lv_iconst (v := 1) hx hb dL_law_277 (by decide) ?_
          refine lv_goto (tgt := 282) hx hb dL_law_278 (by decide) ?_
          refine lv_istore_n (lv' := [(3, .int 1), (1, .ref (a 0)), (2, .ref (b_ 0)), (6, .int x6)]) hx hb dL_law_282 rfl hl (by decide) rfl (fun ls hl => ?_)
          refine lv_iinc (v := (x6 + 1)) (lv' := [(6, .int (x6 + 1)), (3, .int 1), (1, .ref (a 0)), (2, .ref (b_ 0))]) hx hb dL_law_283 hl (k := 3) rfl rfl (by decide) rfl (fun ls hl => ?_)
          refine lv_goto (tgt := 251) hx hb dL_law_286 (by decide) ?_
          exact ih 1 (x6 + 1) t u _ _ hP hD hS _ (lv_sub hl [2, 3, 1, 0] rfl) h
set_option maxHeartbeats 16000000 in
set_option maxRecDepth 100000 in
theorem t_L_law_227 {p : Program} {l : Launch} {e : Env} {s : State} {m : MethodId} {below : List Frame} {meth : Method} {c : Code} {D : va_G} {cI cC cE : ClassId} {b L : Nat} {xs : Nat → Int32} {a b_ : Nat → Nat} {t0 u0 : Td} (hr : meth.sig.returnType = ret) (hlocks : meth.locks = false) (hx : p.tables.exec = Jvm.exec) (hb : c.code = code) (hml : c.maxLocals = 7) (hown : s.vm.findClass RL = some m.cls) (hts : ∀ w ∈ wsL_law, w.before #[Value.ref b] s = true) (hX : va_X b L xs s s.heap) (hbl : b < s.heap.size) (hK : va_K D vwCl (kT cI cC cE) s) (hA : ∀ q : Nat, s.heap.size ≤ q → lwA s q) (hbA : ¬ lwA s b) (hLen : L < 2 ^ 31) : ∀ (x3 : Int32) (x4 : Int32) (x5 : Int32) (t : Td) (u : Td) (H : Heap) (locs : List Loc), va_P D vwCl (fl [tdW cI cC cE a t, tdW cI cC cE b_ u]) H → va_D (lwA s) (fl [tdW cI cC cE a t, tdW cI cC cE b_ u]) → va_S (lwA s) s.heap H locs → ∀ (ls : Array Slot), lv_has ls 7 [(1, .ref (a 0)), (2, .ref (b_ 0)), (3, .int x3), (4, .int x4), (5, .int x5)] → j_L_law_227  L xs x3 x4 x5 t u = some (1, t0, u0) → W p l e room_1 s m #[Value.ref b] below meth c H locs 600000 7302250 (lw_Z below #[Value.ref b] s) (F0 m 227 ls []) := by
  intro x3 x4 x5 t u H locs hP hD hS ls hl h
  dsimp only [j_L_law_227] at h
  refine lv_iload_n hx hb dL_law_227 rfl (lv_at hl 2 rfl) ?_
  refine lv_if_eq (tgt := 246) hx hb dL_law_228 (by decide) (fun c9 => ?_) (fun c9 => ?_)
  · have h := (k_iB h).1 c9
    refine lv_iconst (v := 0) hx hb dL_law_246 (by decide) ?_
    refine lv_istore_n (lv' := [(3, .int 0), (1, .ref (a 0)), (2, .ref (b_ 0)), (4, .int x4), (5, .int x5)]) hx hb dL_law_247 rfl hl (by decide) rfl (fun ls hl => ?_)
    refine lv_iconst (v := 0) hx hb dL_law_248 (by decide) ?_
    refine lv_istore (lv' := [(6, .int 0), (3, .int 0), (1, .ref (a 0)), (2, .ref (b_ 0)), (4, .int x4), (5, .int x5)]) hx hb dL_law_249 hl (by decide) rfl (fun ls hl => ?_)
    exact (t_L_law_251 hr hlocks hx hb hml hown hts hX hbl hK hA hbA hLen)   fuel 0 0 t u _ _ hP hD hS _ (lv_sub hl [2, 3, 1, 0] rfl) h
  · have h := (k_iB h).2 c9
    refine lv_aload_n hx hb dL_law_231 rfl (lv_at hl 1 rfl) ?_
    refine lv_iload hx hb dL_law_232 (lv_at hl 3 rfl) ?_
    obtain ⟨r41, u43, hu42, h⟩ := ob2_el h
    refine kbi (ci := 5) (q := (RX5, TX5, 8)) (bs := [tdW cI cC cE a t, tdW cI cC cE b_ u]) (cs := [tdW cI cC cE b_ u]) (cs' := [tdW cI cC cE b_ u43]) (bs1 := [tdW cI cC cE a t, tdW cI cC cE b_ u43]) ⟨hx, hb, hml, hown, hts⟩ [1] [0] (cq_pass l D cI cC cE b_ _ u x4 r41 u43 hu42) (cwV 1 hts gL_law_X5_pass rfl rfl rfl (by decide +kernel) ⟨Nat.le_of_ble_eq_true rfl, Nat.le_of_ble_eq_true rfl⟩) hK hP hD hS hA rfl rfl rfl rfl rfl rfl rfl rfl rfl hl.1 rfl (Nat.le_of_ble_eq_true rfl) dL_law_234 ⟨Nat.le_of_ble_eq_true rfl, Nat.le_of_ble_eq_true rfl⟩ (fun H locs hP hD hS => ?_)
    refine lv_iload hx hb dL_law_237 (lv_at hl 4 rfl) ?_
    refine lv_icmp_ne (tgt := 246) hx hb dL_law_239 (by decide) (fun c44 => ?_) (fun c44 => ?_)
    · have h := (k_iB h).2 c44
      refine lv_iconst (v := 0) hx hb dL_law_246 (by decide) ?_
      refine lv_istore_n (lv' := [(3, .int 0), (1, .ref (a 0)), (2, .ref (b_ 0)), (4, .int x4), (5, .int x5)]) hx hb dL_law_247 rfl hl (by decide) rfl (fun ls hl => ?_)
      refine lv_iconst (v := 0) hx hb dL_law_248 (by decide) ?_
      refine lv_istore (lv' := [(6, .int 0), (3, .int 0), (1, .ref (a 0)), (2, .ref (b_ 0)), (4, .int x4), (5, .int x5)]) hx hb dL_law_249 hl (by decide) rfl (fun ls hl => ?_)
      exact (t_L_law_251 hr hlocks hx hb hml hown hts hX hbl hK hA hbA hLen)   fuel 0 0 t u43 _ _ hP hD hS _ (lv_sub hl [2, 3, 1, 0] rfl) h
    · have h := (k_iB h).1 c44
      refine lv_iconst (v := 1) hx hb dL_law_242 (by decide) ?_
      refine lv_goto (tgt := 247) hx hb dL_law_243 (by decide) ?_
      refine lv_istore_n (lv' := [(3, .int 1), (1, .ref (a 0)), (2, .ref (b_ 0)), (4, .int x4), (5, .int x5)]) hx hb dL_law_247 rfl hl (by decide) rfl (fun ls hl => ?_)
      refine lv_iconst (v := 0) hx hb dL_law_248 (by decide) ?_
      refine lv_istore (lv' := [(6, .int 0), (3, .int 1), (1, .ref (a 0)), (2, .ref (b_ 0)), (4, .int x4), (5, .int x5)]) hx hb dL_law_249 hl (by decide) rfl (fun ls hl => ?_)
      exact (t_L_law_251 hr hlocks hx hb hml hown hts hX hbl hK hA hbA hLen)   fuel 1 0 t u43 _ _ hP hD hS _ (lv_sub hl [2, 3, 1, 0] rfl) h
set_option maxHeartbeats 16000000 in
set_option maxRecDepth 100000 in
theorem t_L_law_200 {p : Program} {l : Launch} {e : Env} {s : State} {m : MethodId} {below : List Frame} {meth : Method} {c : Code} {D : va_G} {cI cC cE : ClassId} {b L : Nat} {xs : Nat → Int32} {a b_ : Nat → Nat} {t0 u0 : Td} (hr : meth.sig.returnType = ret) (hlocks : meth.locks = false) (hx : p.tables.exec = Jvm.exec) (hb : c.code = code) (hml : c.maxLocals = 7) (hown : s.vm.findClass RL = some m.cls) (hts : ∀ w ∈ wsL_law, w.before #[Value.ref b] s = true) (hX : va_X b L xs s s.heap) (hbl : b < s.heap.size) (hK : va_K D vwCl (kT cI cC cE) s) (hA : ∀ q : Nat, s.heap.size ≤ q → lwA s q) (hbA : ¬ lwA s b) (hLen : L < 2 ^ 31) : ∀ (k : Nat), ∀ (x3 : Int32) (x4 : Int32) (x5 : Int32) (x6 : Int32) (t : Td) (u : Td) (H : Heap) (locs : List Loc), va_P D vwCl (fl [tdW cI cC cE a t, tdW cI cC cE b_ u]) H → va_D (lwA s) (fl [tdW cI cC cE a t, tdW cI cC cE b_ u]) → va_S (lwA s) s.heap H locs → ∀ (ls : Array Slot), lv_has ls 7 [(1, .ref (a 0)), (2, .ref (b_ 0)), (3, .int x3), (4, .int x4), (5, .int x5), (6, .int x6)] → lp_L_law_200  L xs k x3 x4 x5 x6 t u = some (1, t0, u0) → W p l e room_1 s m #[Value.ref b] below meth c H locs 600000 7302250 (lw_Z below #[Value.ref b] s) (F0 m 200 ls []) := by
  intro k
  induction k with
  | zero =>
    intro x3 x4 x5 x6 t u H locs hP hD hS ls hl h
    exact k_none h
  | succ k ih =>
    intro x3 x4 x5 x6 t u H locs hP hD hS ls hl h
    dsimp only [lp_L_law_200] at h
    refine lv_iload hx hb dL_law_200 (lv_at hl 5 rfl) ?_
    refine lv_iload hx hb dL_law_202 (lv_at hl 3 rfl) ?_
    refine lv_icmp_ge (tgt := 227) hx hb dL_law_204 (by decide) (fun c8 => ?_) (fun c8 => ?_)
    · have h := (k_iB h).1 c8
      exact (t_L_law_227 hr hlocks hx hb hml hown hts hX hbl hK hA hbA hLen)   x3 x4 x5 t u _ _ hP hD hS _ (lv_sub hl [0, 1, 2, 3, 4] rfl) h
    · have h := (k_iB h).2 c8
      refine lv_iload_n hx hb dL_law_207 rfl (lv_at hl 2 rfl) ?_
      refine lv_if_eq (tgt := 227) hx hb dL_law_208 (by decide) (fun c45 => ?_) (fun c45 => ?_)
      · have h := (k_iB h).1 c45
        exact (t_L_law_227 hr hlocks hx hb hml hown hts hX hbl hK hA hbA hLen)   x3 x4 x5 t u _ _ hP hD hS _ (lv_sub hl [0, 1, 2, 3, 4] rfl) h
      · have h := (k_iB h).2 c45
        refine lv_iload hx hb dL_law_211 (lv_at hl 4 rfl) ?_
        refine lv_aload_n hx hb dL_law_213 rfl (lv_at hl 0 rfl) ?_
        refine lv_iconst (v := 1) hx hb dL_law_214 (by decide) ?_
        obtain ⟨r46, t48, hu47, h⟩ := ob2_el h
        refine kbi (ci := 5) (q := (RX5, TX5, 8)) (bs := [tdW cI cC cE a t, tdW cI cC cE b_ u]) (cs := [tdW cI cC cE a t]) (cs' := [tdW cI cC cE a t48]) (bs1 := [tdW cI cC cE a t48, tdW cI cC cE b_ u]) ⟨hx, hb, hml, hown, hts⟩ [0] [1] (cq_pass l D cI cC cE a _ t 1 r46 t48 hu47) (cwV 1 hts gL_law_X5_pass rfl rfl rfl (by decide +kernel) ⟨Nat.le_of_ble_eq_true rfl, Nat.le_of_ble_eq_true rfl⟩) hK hP hD hS hA rfl rfl rfl rfl rfl rfl rfl rfl rfl hl.1 rfl (Nat.le_of_ble_eq_true rfl) dL_law_215 ⟨Nat.le_of_ble_eq_true rfl, Nat.le_of_ble_eq_true rfl⟩ (fun H locs hP hD hS => ?_)
        refine lv_iadd hx hb dL_law_218 ?_
        refine lv_istore (lv' := [(5, .int (x5 + r46)), (1, .ref (a 0)), (2, .ref (b_ 0)), (3, .int x3), (4, .int x4), (6, .int x6)]) hx hb dL_law_219 hl (by decide) rfl (fun ls hl => ?_)
        refine lv_iinc (v := (x6 + 1)) (lv' := [(6, .int (x6 + 1)), (5, .int (x5 + r46)), (1, .ref (a 0)), (2, .ref (b_ 0)), (3, .int x3), (4, .int x4)]) hx hb dL_law_221 hl (k := 5) rfl rfl (by decide) rfl (fun ls hl => ?_)
        refine lv_goto (tgt := 200) hx hb dL_law_224 (by decide) ?_
        exact ih x3 x4 (x5 + r46) (x6 + 1) t48 u _ _ hP hD hS _ (lv_sub hl [2, 3, 4, 5, 1, 0] rfl) h
set_option maxHeartbeats 16000000 in
set_option maxRecDepth 100000 in
theorem t_L_law_181 {p : Program} {l : Launch} {e : Env} {s : State} {m : MethodId} {below : List Frame} {meth : Method} {c : Code} {D : va_G} {cI cC cE : ClassId} {b L : Nat} {xs : Nat → Int32} {a b_ : Nat → Nat} {t0 u0 : Td} (hr : meth.sig.returnType = ret) (hlocks : meth.locks = false) (hx : p.tables.exec = Jvm.exec) (hb : c.code = code) (hml : c.maxLocals = 7) (hown : s.vm.findClass RL = some m.cls) (hts : ∀ w ∈ wsL_law, w.before #[Value.ref b] s = true) (hX : va_X b L xs s s.heap) (hbl : b < s.heap.size) (hK : va_K D vwCl (kT cI cC cE) s) (hA : ∀ q : Nat, s.heap.size ≤ q → lwA s q) (hbA : ¬ lwA s b) (hLen : L < 2 ^ 31) : ∀ (x3 : Int32) (t : Td) (u : Td) (H : Heap) (locs : List Loc), va_P D vwCl (fl [tdW cI cC cE a t, tdW cI cC cE b_ u]) H → va_D (lwA s) (fl [tdW cI cC cE a t, tdW cI cC cE b_ u]) → va_S (lwA s) s.heap H locs → ∀ (ls : Array Slot), lv_has ls 7 [(0, .ref b), (1, .ref (a 0)), (2, .ref (b_ 0)), (3, .int x3)] → j_L_law_181  L xs x3 t u = some (1, t0, u0) → W p l e room_1 s m #[Value.ref b] below meth c H locs 600000 7302250 (lw_Z below #[Value.ref b] s) (F0 m 181 ls []) := by
  intro x3 t u H locs hP hD hS ls hl h
  dsimp only [j_L_law_181] at h
  refine lv_iconst (v := 2) hx hb dL_law_181 (by decide) ?_
  refine lv_aload_n hx hb dL_law_182 rfl (lv_at hl 0 rfl) ?_
  refine lv_bipush (v := 44) hx hb dL_law_183 (by decide) ?_
  obtain ⟨r6, hu7, h⟩ := ob1_el h
  refine kCell (bs := [tdW cI cC cE a t, tdW cI cC cE b_ u]) ⟨hx, hb, hml, hown, hts⟩ (c_L_cell l D cI cC cE b L _ xs (Nat.lt_of_lt_of_le hbl hS.1) hLen 44 r6 hu7) (va_cwS 2 hts gL_law_L_cell rfl rfl rfl (by decide +kernel) ⟨Nat.le_of_ble_eq_true rfl, Nat.le_of_ble_eq_true rfl⟩) hK hX hbl hbA hP hD hS hA rfl rfl rfl rfl hl.1 rfl (Nat.le_of_ble_eq_true rfl) dL_law_185 ⟨Nat.le_of_ble_eq_true rfl, Nat.le_of_ble_eq_true rfl⟩ (fun H locs hP hD hS => ?_)
  refine lv_bipush (v := 20) hx hb dL_law_188 (by decide) ?_
  refine lv_irem hx hb dL_law_190 (by decide) ?_
  refine lv_iadd hx hb dL_law_191 ?_
  refine lv_istore (lv' := [(4, .int (2 + (r6 - r6 / 20 * 20))), (0, .ref b), (1, .ref (a 0)), (2, .ref (b_ 0)), (3, .int x3)]) hx hb dL_law_192 hl (by decide) rfl (fun ls hl => ?_)
  refine lv_iconst (v := 0) hx hb dL_law_194 (by decide) ?_
  refine lv_istore (lv' := [(5, .int 0), (4, .int (2 + (r6 - r6 / 20 * 20))), (0, .ref b), (1, .ref (a 0)), (2, .ref (b_ 0)), (3, .int x3)]) hx hb dL_law_195 hl (by decide) rfl (fun ls hl => ?_)
  refine lv_iconst (v := 0) hx hb dL_law_197 (by decide) ?_
  refine lv_istore (lv' := [(6, .int 0), (5, .int 0), (4, .int (2 + (r6 - r6 / 20 * 20))), (0, .ref b), (1, .ref (a 0)), (2, .ref (b_ 0)), (3, .int x3)]) hx hb dL_law_198 hl (by decide) rfl (fun ls hl => ?_)
  exact (t_L_law_200 hr hlocks hx hb hml hown hts hX hbl hK hA hbA hLen)   fuel x3 (2 + (r6 - r6 / 20 * 20)) 0 0 t u _ _ hP hD hS _ (lv_sub hl [4, 5, 6, 2, 1, 0] rfl) h
set_option maxHeartbeats 16000000 in
set_option maxRecDepth 100000 in
theorem t_L_law_124 {p : Program} {l : Launch} {e : Env} {s : State} {m : MethodId} {below : List Frame} {meth : Method} {c : Code} {D : va_G} {cI cC cE : ClassId} {b L : Nat} {xs : Nat → Int32} {a b_ : Nat → Nat} {t0 u0 : Td} (hr : meth.sig.returnType = ret) (hlocks : meth.locks = false) (hx : p.tables.exec = Jvm.exec) (hb : c.code = code) (hml : c.maxLocals = 7) (hown : s.vm.findClass RL = some m.cls) (hts : ∀ w ∈ wsL_law, w.before #[Value.ref b] s = true) (hX : va_X b L xs s s.heap) (hbl : b < s.heap.size) (hK : va_K D vwCl (kT cI cC cE) s) (hA : ∀ q : Nat, s.heap.size ≤ q → lwA s q) (hbA : ¬ lwA s b) (hLen : L < 2 ^ 31) : ∀ (LP78 : Int32 → Int32 → Td → Td → Option (Int32 × Td × Td)), (∀ (x3 : Int32) (x4 : Int32) (t : Td) (u : Td) (H : Heap) (locs : List Loc), va_P D vwCl (fl [tdW cI cC cE a t, tdW cI cC cE b_ u]) H → va_D (lwA s) (fl [tdW cI cC cE a t, tdW cI cC cE b_ u]) → va_S (lwA s) s.heap H locs → ∀ (ls : Array Slot), lv_has ls 7 [(0, .ref b), (1, .ref (a 0)), (2, .ref (b_ 0)), (3, .int x3), (4, .int x4)] → LP78 x3 x4 t u = some (1, t0, u0) → W p l e room_1 s m #[Value.ref b] below meth c H locs 600000 7302250 (lw_Z below #[Value.ref b] s) (F0 m 78 ls [])) → ∀ (x4 : Int32) (x5 : Int32) (x6 : Int32) (t : Td) (u : Td) (H : Heap) (locs : List Loc), va_P D vwCl (fl [tdW cI cC cE a t, tdW cI cC cE b_ u]) H → va_D (lwA s) (fl [tdW cI cC cE a t, tdW cI cC cE b_ u]) → va_S (lwA s) s.heap H locs → ∀ (ls : Array Slot), lv_has ls 7 [(0, .ref b), (1, .ref (a 0)), (2, .ref (b_ 0)), (4, .int x4), (5, .int x5), (6, .int x6)] → j_L_law_124 LP78 L xs x4 x5 x6 t u = some (1, t0, u0) → W p l e room_1 s m #[Value.ref b] below meth c H locs 600000 7302250 (lw_Z below #[Value.ref b] s) (F0 m 124 ls []) := by
  intro LP78 hLP78
  intro x4 x5 x6 t u H locs hP hD hS ls hl h
  dsimp only [j_L_law_124] at h
  refine lv_aload_n hx hb dL_law_124 rfl (lv_at hl 2 rfl) ?_
  refine lv_iload hx hb dL_law_125 (lv_at hl 4 rfl) ?_
  obtain ⟨r56, u58, hu57, h⟩ := ob2_el h
  refine kbSi (bs := [tdW cI cC cE a t, tdW cI cC cE b_ u]) (cs := [tdW cI cC cE b_ u]) (cs' := [tdW cI cC cE b_ u58]) (bs1 := [tdW cI cC cE a t, tdW cI cC cE b_ u58]) ⟨hx, hb, hml, hown, hts⟩ [1] [0] (c_L_acts l D cI cC cE b_ _ u x5 r56 u58 hu57) (va_cwS 2 hts gL_law_L_acts rfl rfl rfl (by decide +kernel) ⟨Nat.le_of_ble_eq_true rfl, Nat.le_of_ble_eq_true rfl⟩) hK hP hD hS hA rfl rfl rfl rfl rfl rfl rfl hl.1 rfl (Nat.le_of_ble_eq_true rfl) dL_law_127 ⟨Nat.le_of_ble_eq_true rfl, Nat.le_of_ble_eq_true rfl⟩ (fun H locs hP hD hS => ?_)
  refine lv_iload hx hb dL_law_130 (lv_at hl 5 rfl) ?_
  refine lv_icmp_ne (tgt := 173) hx hb dL_law_132 (by decide) (fun c59 => ?_) (fun c59 => ?_)
  · have h := (k_iB h).2 c59
    refine lv_iconst (v := 0) hx hb dL_law_173 (by decide) ?_
    refine lv_istore_n (lv' := [(3, .int 0), (0, .ref b), (1, .ref (a 0)), (2, .ref (b_ 0)), (4, .int x4), (5, .int x5), (6, .int x6)]) hx hb dL_law_174 rfl hl (by decide) rfl (fun ls hl => ?_)
    refine lv_iinc (v := (x4 + 1)) (lv' := [(4, .int (x4 + 1)), (3, .int 0), (0, .ref b), (1, .ref (a 0)), (2, .ref (b_ 0)), (5, .int x5), (6, .int x6)]) hx hb dL_law_175 hl (k := 4) rfl rfl (by decide) rfl (fun ls hl => ?_)
    refine lv_goto (tgt := 78) hx hb dL_law_178 (by decide) ?_
    exact hLP78 0 (x4 + 1) t u58 _ _ hP hD hS _ (lv_sub hl [2, 3, 4, 1, 0] rfl) h
  · have h := (k_iB h).1 c59
    refine lv_aload_n hx hb dL_law_135 rfl (lv_at hl 1 rfl) ?_
    refine lv_aload_n hx hb dL_law_136 rfl (lv_at hl 2 rfl) ?_
    obtain ⟨r60, hu61, h⟩ := ob1_el h
    refine kbSi (bs := [tdW cI cC cE a t, tdW cI cC cE b_ u58]) (cs := [tdW cI cC cE a t, tdW cI cC cE b_ u58]) (cs' := [tdW cI cC cE a t, tdW cI cC cE b_ u58]) (bs1 := [tdW cI cC cE a t, tdW cI cC cE b_ u58]) ⟨hx, hb, hml, hown, hts⟩ [0, 1] [] (c_L_same l D cI cC cE a b_ _ t u58  r60 (zb1_el hu61).1 (zb1_el hu61).2) (va_cwS 2 hts gL_law_L_same rfl rfl rfl (by decide +kernel) ⟨Nat.le_of_ble_eq_true rfl, Nat.le_of_ble_eq_true rfl⟩) hK hP hD hS hA rfl rfl rfl rfl rfl rfl rfl hl.1 rfl (Nat.le_of_ble_eq_true rfl) dL_law_137 ⟨Nat.le_of_ble_eq_true rfl, Nat.le_of_ble_eq_true rfl⟩ (fun H locs hP hD hS => ?_)
    refine lv_if_eq (tgt := 173) hx hb dL_law_140 (by decide) (fun c62 => ?_) (fun c62 => ?_)
    · have h := (k_iB h).1 c62
      refine lv_iconst (v := 0) hx hb dL_law_173 (by decide) ?_
      refine lv_istore_n (lv' := [(3, .int 0), (0, .ref b), (1, .ref (a 0)), (2, .ref (b_ 0)), (4, .int x4), (5, .int x5), (6, .int x6)]) hx hb dL_law_174 rfl hl (by decide) rfl (fun ls hl => ?_)
      refine lv_iinc (v := (x4 + 1)) (lv' := [(4, .int (x4 + 1)), (3, .int 0), (0, .ref b), (1, .ref (a 0)), (2, .ref (b_ 0)), (5, .int x5), (6, .int x6)]) hx hb dL_law_175 hl (k := 4) rfl rfl (by decide) rfl (fun ls hl => ?_)
      refine lv_goto (tgt := 78) hx hb dL_law_178 (by decide) ?_
      exact hLP78 0 (x4 + 1) t u58 _ _ hP hD hS _ (lv_sub hl [2, 3, 4, 1, 0] rfl) h
    · have h := (k_iB h).2 c62
      refine lv_iload hx hb dL_law_143 (lv_at hl 3 rfl) ?_
      refine lv_iconst (v := 4) hx hb dL_law_145 (by decide) ?_
      refine lv_irem hx hb dL_law_146 (by decide) ?_
      refine lv_if_gt (tgt := 169) hx hb dL_law_147 (by decide) (fun c63 => ?_) (fun c63 => ?_)
      · have h := (k_iB h).1 c63
        refine lv_iconst (v := 1) hx hb dL_law_169 (by decide) ?_
        refine lv_goto (tgt := 174) hx hb dL_law_170 (by decide) ?_
        refine lv_istore_n (lv' := [(3, .int 1), (0, .ref b), (1, .ref (a 0)), (2, .ref (b_ 0)), (4, .int x4), (5, .int x5), (6, .int x6)]) hx hb dL_law_174 rfl hl (by decide) rfl (fun ls hl => ?_)
        refine lv_iinc (v := (x4 + 1)) (lv' := [(4, .int (x4 + 1)), (3, .int 1), (0, .ref b), (1, .ref (a 0)), (2, .ref (b_ 0)), (5, .int x5), (6, .int x6)]) hx hb dL_law_175 hl (k := 4) rfl rfl (by decide) rfl (fun ls hl => ?_)
        refine lv_goto (tgt := 78) hx hb dL_law_178 (by decide) ?_
        exact hLP78 1 (x4 + 1) t u58 _ _ hP hD hS _ (lv_sub hl [2, 3, 4, 1, 0] rfl) h
      · have h := (k_iB h).2 c63
        refine lv_iload hx hb dL_law_150 (lv_at hl 3 rfl) ?_
        refine lv_bipush (v := 8) hx hb dL_law_152 (by decide) ?_
        refine lv_irem hx hb dL_law_154 (by decide) ?_
        refine lv_if_ne (tgt := 162) hx hb dL_law_155 (by decide) (fun c64 => ?_) (fun c64 => ?_)
        · have h := (k_iB h).2 c64
          refine lv_aload_n hx hb dL_law_162 rfl (lv_at hl 2 rfl) ?_
          obtain ⟨r65, u67, hu66, h⟩ := ob2_el h
          refine kbSi (bs := [tdW cI cC cE a t, tdW cI cC cE b_ u58]) (cs := [tdW cI cC cE b_ u58]) (cs' := [tdW cI cC cE b_ u67]) (bs1 := [tdW cI cC cE a t, tdW cI cC cE b_ u67]) ⟨hx, hb, hml, hown, hts⟩ [1] [0] (c_L_hangs l D cI cC cE b_ _ u58  r65 u67 (zb2_el hu66).1 (zb2_el hu66).2) (va_cwS 1 hts gL_law_L_hangs rfl rfl rfl (by decide +kernel) ⟨Nat.le_of_ble_eq_true rfl, Nat.le_of_ble_eq_true rfl⟩) hK hP hD hS hA rfl rfl rfl rfl rfl rfl rfl hl.1 rfl (Nat.le_of_ble_eq_true rfl) dL_law_163 ⟨Nat.le_of_ble_eq_true rfl, Nat.le_of_ble_eq_true rfl⟩ (fun H locs hP hD hS => ?_)
          refine lv_if_eq (tgt := 173) hx hb dL_law_166 (by decide) (fun c68 => ?_) (fun c68 => ?_)
          · have h := (k_iB h).1 c68
            refine lv_iconst (v := 0) hx hb dL_law_173 (by decide) ?_
            refine lv_istore_n (lv' := [(3, .int 0), (0, .ref b), (1, .ref (a 0)), (2, .ref (b_ 0)), (4, .int x4), (5, .int x5), (6, .int x6)]) hx hb dL_law_174 rfl hl (by decide) rfl (fun ls hl => ?_)
            refine lv_iinc (v := (x4 + 1)) (lv' := [(4, .int (x4 + 1)), (3, .int 0), (0, .ref b), (1, .ref (a 0)), (2, .ref (b_ 0)), (5, .int x5), (6, .int x6)]) hx hb dL_law_175 hl (k := 4) rfl rfl (by decide) rfl (fun ls hl => ?_)
            refine lv_goto (tgt := 78) hx hb dL_law_178 (by decide) ?_
            exact hLP78 0 (x4 + 1) t u67 _ _ hP hD hS _ (lv_sub hl [2, 3, 4, 1, 0] rfl) h
          · have h := (k_iB h).2 c68
            refine lv_iconst (v := 1) hx hb dL_law_169 (by decide) ?_
            refine lv_goto (tgt := 174) hx hb dL_law_170 (by decide) ?_
            refine lv_istore_n (lv' := [(3, .int 1), (0, .ref b), (1, .ref (a 0)), (2, .ref (b_ 0)), (4, .int x4), (5, .int x5), (6, .int x6)]) hx hb dL_law_174 rfl hl (by decide) rfl (fun ls hl => ?_)
            refine lv_iinc (v := (x4 + 1)) (lv' := [(4, .int (x4 + 1)), (3, .int 1), (0, .ref b), (1, .ref (a 0)), (2, .ref (b_ 0)), (5, .int x5), (6, .int x6)]) hx hb dL_law_175 hl (k := 4) rfl rfl (by decide) rfl (fun ls hl => ?_)
            refine lv_goto (tgt := 78) hx hb dL_law_178 (by decide) ?_
            exact hLP78 1 (x4 + 1) t u67 _ _ hP hD hS _ (lv_sub hl [2, 3, 4, 1, 0] rfl) h
        · have h := (k_iB h).1 c64
          refine lv_aload_n hx hb dL_law_158 rfl (lv_at hl 1 rfl) ?_
          refine lv_goto (tgt := 163) hx hb dL_law_159 (by decide) ?_
          obtain ⟨r69, t71, hu70, h⟩ := ob2_el h
          refine kbSi (bs := [tdW cI cC cE a t, tdW cI cC cE b_ u58]) (cs := [tdW cI cC cE a t]) (cs' := [tdW cI cC cE a t71]) (bs1 := [tdW cI cC cE a t71, tdW cI cC cE b_ u58]) ⟨hx, hb, hml, hown, hts⟩ [0] [1] (c_L_hangs l D cI cC cE a _ t  r69 t71 (zb2_el hu70).1 (zb2_el hu70).2) (va_cwS 1 hts gL_law_L_hangs rfl rfl rfl (by decide +kernel) ⟨Nat.le_of_ble_eq_true rfl, Nat.le_of_ble_eq_true rfl⟩) hK hP hD hS hA rfl rfl rfl rfl rfl rfl rfl hl.1 rfl (Nat.le_of_ble_eq_true rfl) dL_law_163 ⟨Nat.le_of_ble_eq_true rfl, Nat.le_of_ble_eq_true rfl⟩ (fun H locs hP hD hS => ?_)
          refine lv_if_eq (tgt := 173) hx hb dL_law_166 (by decide) (fun c72 => ?_) (fun c72 => ?_)
          · have h := (k_iB h).1 c72
            refine lv_iconst (v := 0) hx hb dL_law_173 (by decide) ?_
            refine lv_istore_n (lv' := [(3, .int 0), (0, .ref b), (1, .ref (a 0)), (2, .ref (b_ 0)), (4, .int x4), (5, .int x5), (6, .int x6)]) hx hb dL_law_174 rfl hl (by decide) rfl (fun ls hl => ?_)
            refine lv_iinc (v := (x4 + 1)) (lv' := [(4, .int (x4 + 1)), (3, .int 0), (0, .ref b), (1, .ref (a 0)), (2, .ref (b_ 0)), (5, .int x5), (6, .int x6)]) hx hb dL_law_175 hl (k := 4) rfl rfl (by decide) rfl (fun ls hl => ?_)
            refine lv_goto (tgt := 78) hx hb dL_law_178 (by decide) ?_
            exact hLP78 0 (x4 + 1) t71 u58 _ _ hP hD hS _ (lv_sub hl [2, 3, 4, 1, 0] rfl) h
          · have h := (k_iB h).2 c72
            refine lv_iconst (v := 1) hx hb dL_law_169 (by decide) ?_
            refine lv_goto (tgt := 174) hx hb dL_law_170 (by decide) ?_
            refine lv_istore_n (lv' := [(3, .int 1), (0, .ref b), (1, .ref (a 0)), (2, .ref (b_ 0)), (4, .int x4), (5, .int x5), (6, .int x6)]) hx hb dL_law_174 rfl hl (by decide) rfl (fun ls hl => ?_)
            refine lv_iinc (v := (x4 + 1)) (lv' := [(4, .int (x4 + 1)), (3, .int 1), (0, .ref b), (1, .ref (a 0)), (2, .ref (b_ 0)), (5, .int x5), (6, .int x6)]) hx hb dL_law_175 hl (k := 4) rfl rfl (by decide) rfl (fun ls hl => ?_)
            refine lv_goto (tgt := 78) hx hb dL_law_178 (by decide) ?_
            exact hLP78 1 (x4 + 1) t71 u58 _ _ hP hD hS _ (lv_sub hl [2, 3, 4, 1, 0] rfl) h
set_option maxHeartbeats 16000000 in
set_option maxRecDepth 100000 in
theorem t_L_law_78 {p : Program} {l : Launch} {e : Env} {s : State} {m : MethodId} {below : List Frame} {meth : Method} {c : Code} {D : va_G} {cI cC cE : ClassId} {b L : Nat} {xs : Nat → Int32} {a b_ : Nat → Nat} {t0 u0 : Td} (hr : meth.sig.returnType = ret) (hlocks : meth.locks = false) (hx : p.tables.exec = Jvm.exec) (hb : c.code = code) (hml : c.maxLocals = 7) (hown : s.vm.findClass RL = some m.cls) (hts : ∀ w ∈ wsL_law, w.before #[Value.ref b] s = true) (hX : va_X b L xs s s.heap) (hbl : b < s.heap.size) (hK : va_K D vwCl (kT cI cC cE) s) (hA : ∀ q : Nat, s.heap.size ≤ q → lwA s q) (hbA : ¬ lwA s b) (hLen : L < 2 ^ 31) : ∀ (k : Nat), ∀ (x3 : Int32) (x4 : Int32) (t : Td) (u : Td) (H : Heap) (locs : List Loc), va_P D vwCl (fl [tdW cI cC cE a t, tdW cI cC cE b_ u]) H → va_D (lwA s) (fl [tdW cI cC cE a t, tdW cI cC cE b_ u]) → va_S (lwA s) s.heap H locs → ∀ (ls : Array Slot), lv_has ls 7 [(0, .ref b), (1, .ref (a 0)), (2, .ref (b_ 0)), (3, .int x3), (4, .int x4)] → lp_L_law_78  L xs k x3 x4 t u = some (1, t0, u0) → W p l e room_1 s m #[Value.ref b] below meth c H locs 600000 7302250 (lw_Z below #[Value.ref b] s) (F0 m 78 ls []) := by
  intro k
  induction k with
  | zero =>
    intro x3 x4 t u H locs hP hD hS ls hl h
    exact k_none h
  | succ k ih =>
    intro x3 x4 t u H locs hP hD hS ls hl h
    dsimp only [lp_L_law_78] at h
    refine lv_iload hx hb dL_law_78 (lv_at hl 4 rfl) ?_
    refine lv_bipush (v := 44) hx hb dL_law_80 (by decide) ?_
    refine lv_icmp_ge (tgt := 181) hx hb dL_law_82 (by decide) (fun c5 => ?_) (fun c5 => ?_)
    · have h := (k_iB h).1 c5
      exact (t_L_law_181 hr hlocks hx hb hml hown hts hX hbl hK hA hbA hLen)   x3 t u _ _ hP hD hS _ (lv_sub hl [0, 1, 2, 3] rfl) h
    · have h := (k_iB h).2 c5
      refine lv_iload_n hx hb dL_law_85 rfl (lv_at hl 3 rfl) ?_
      refine lv_if_eq (tgt := 181) hx hb dL_law_86 (by decide) (fun c49 => ?_) (fun c49 => ?_)
      · have h := (k_iB h).1 c49
        exact (t_L_law_181 hr hlocks hx hb hml hown hts hX hbl hK hA hbA hLen)   x3 t u _ _ hP hD hS _ (lv_sub hl [0, 1, 2, 3] rfl) h
      · have h := (k_iB h).2 c49
        refine lv_aload_n hx hb dL_law_89 rfl (lv_at hl 0 rfl) ?_
        refine lv_iload hx hb dL_law_90 (lv_at hl 4 rfl) ?_
        obtain ⟨r50, hu51, h⟩ := ob1_el h
        refine kCell (bs := [tdW cI cC cE a t, tdW cI cC cE b_ u]) ⟨hx, hb, hml, hown, hts⟩ (c_L_cell l D cI cC cE b L _ xs (Nat.lt_of_lt_of_le hbl hS.1) hLen x4 r50 hu51) (va_cwS 2 hts gL_law_L_cell rfl rfl rfl (by decide +kernel) ⟨Nat.le_of_ble_eq_true rfl, Nat.le_of_ble_eq_true rfl⟩) hK hX hbl hbA hP hD hS hA rfl rfl rfl rfl hl.1 rfl (Nat.le_of_ble_eq_true rfl) dL_law_92 ⟨Nat.le_of_ble_eq_true rfl, Nat.le_of_ble_eq_true rfl⟩ (fun H locs hP hD hS => ?_)
        refine lv_istore (lv' := [(5, .int r50), (0, .ref b), (1, .ref (a 0)), (2, .ref (b_ 0)), (3, .int x3), (4, .int x4)]) hx hb dL_law_95 hl (by decide) rfl (fun ls hl => ?_)
        refine lv_aload_n hx hb dL_law_97 rfl (lv_at hl 2 rfl) ?_
        refine lv_iload hx hb dL_law_98 (lv_at hl 0 rfl) ?_
        obtain ⟨r52, t54, hu53, h⟩ := ob2_el h
        refine kbSi (bs := [tdW cI cC cE a t, tdW cI cC cE b_ u]) (cs := [tdW cI cC cE a t]) (cs' := [tdW cI cC cE a t54]) (bs1 := [tdW cI cC cE a t54, tdW cI cC cE b_ u]) ⟨hx, hb, hml, hown, hts⟩ [0] [1] (c_L_acts l D cI cC cE a _ t r50 r52 t54 hu53) (va_cwS 2 hts gL_law_L_acts rfl rfl rfl (by decide +kernel) ⟨Nat.le_of_ble_eq_true rfl, Nat.le_of_ble_eq_true rfl⟩) hK hP hD hS hA rfl rfl rfl rfl rfl rfl rfl hl.1 rfl (Nat.le_of_ble_eq_true rfl) dL_law_100 ⟨Nat.le_of_ble_eq_true rfl, Nat.le_of_ble_eq_true rfl⟩ (fun H locs hP hD hS => ?_)
        refine lv_istore (lv' := [(6, .int r52), (5, .int r50), (0, .ref b), (1, .ref (a 0)), (2, .ref (b_ 0)), (3, .int x3), (4, .int x4)]) hx hb dL_law_103 hl (by decide) rfl (fun ls hl => ?_)
        refine lv_iload hx hb dL_law_105 (lv_at hl 6 rfl) ?_
        refine lv_iconst (v := 3) hx hb dL_law_107 (by decide) ?_
        refine lv_irem hx hb dL_law_108 (by decide) ?_
        refine lv_if_gt (tgt := 124) hx hb dL_law_109 (by decide) (fun c55 => ?_) (fun c55 => ?_)
        · have h := (k_iB h).1 c55
          exact (t_L_law_124 hr hlocks hx hb hml hown hts hX hbl hK hA hbA hLen) (lp_L_law_78  L xs k) ih x4 r50 r52 t54 u _ _ hP hD hS _ (lv_sub hl [2, 3, 4, 6, 1, 0] rfl) h
        · have h := (k_iB h).2 c55
          refine lv_aload_n hx hb dL_law_112 rfl (lv_at hl 4 rfl) ?_
          refine lv_iload hx hb dL_law_113 (lv_at hl 1 rfl) ?_
          refine lv_ldc (v := 100000) hx hb hown (hts (.constant RL 68 (100000)) (List.mem_of_getElem? (i := 3) rfl)) dL_law_115 ?_
          refine lv_irem hx hb dL_law_117 (by decide) ?_
          obtain ⟨r73, u75, hu74, h⟩ := ob2_el h
          refine kbSi (bs := [tdW cI cC cE a t54, tdW cI cC cE b_ u]) (cs := [tdW cI cC cE b_ u]) (cs' := [tdW cI cC cE b_ u75]) (bs1 := [tdW cI cC cE a t54, tdW cI cC cE b_ u75]) ⟨hx, hb, hml, hown, hts⟩ [1] [0] (c_L_refuses l D cI cC cE b_ _ u (r50 - r50 / 100000 * 100000) r73 u75 (zb2_el hu74).1 (zb2_el hu74).2) (va_cwS 2 hts gL_law_L_refuses rfl rfl rfl (by decide +kernel) ⟨Nat.le_of_ble_eq_true rfl, Nat.le_of_ble_eq_true rfl⟩) hK hP hD hS hA rfl rfl rfl rfl rfl rfl rfl hl.1 rfl (Nat.le_of_ble_eq_true rfl) dL_law_118 ⟨Nat.le_of_ble_eq_true rfl, Nat.le_of_ble_eq_true rfl⟩ (fun H locs hP hD hS => ?_)
          refine lv_if_eq (tgt := 173) hx hb dL_law_121 (by decide) (fun c76 => ?_) (fun c76 => ?_)
          · have h := (k_iB h).1 c76
            refine lv_iconst (v := 0) hx hb dL_law_173 (by decide) ?_
            refine lv_istore_n (lv' := [(3, .int 0), (6, .int r52), (5, .int r50), (0, .ref b), (1, .ref (a 0)), (2, .ref (b_ 0)), (4, .int x4)]) hx hb dL_law_174 rfl hl (by decide) rfl (fun ls hl => ?_)
            refine lv_iinc (v := (x4 + 1)) (lv' := [(4, .int (x4 + 1)), (3, .int 0), (6, .int r52), (5, .int r50), (0, .ref b), (1, .ref (a 0)), (2, .ref (b_ 0))]) hx hb dL_law_175 hl (k := 6) rfl rfl (by decide) rfl (fun ls hl => ?_)
            refine lv_goto (tgt := 78) hx hb dL_law_178 (by decide) ?_
            exact ih 0 (x4 + 1) t54 u75 _ _ hP hD hS _ (lv_sub hl [4, 5, 6, 1, 0] rfl) h
          · have h := (k_iB h).2 c76
            exact (t_L_law_124 hr hlocks hx hb hml hown hts hX hbl hK hA hbA hLen) (lp_L_law_78  L xs k) ih x4 r50 r52 t54 u75 _ _ hP hD hS _ (lv_sub hl [2, 3, 4, 6, 1, 0] rfl) h
set_option maxHeartbeats 16000000 in
set_option maxRecDepth 100000 in
theorem law_body {p : Program} {l : Launch} {e : Env} {s : State} {m : MethodId} {below : List Frame} {meth : Method} {c : Code} {D : va_G} {cI cC cE : ClassId} {b L : Nat} {xs : Nat → Int32} (hr : meth.sig.returnType = ret) (hlocks : meth.locks = false) (C0 : LCtx p s m c b L xs D cI cC cE) (hL : L ≤ 260) (a b_ : Nat → Nat) (t u t0 u0 : Td) (h : d_L_law L xs t u = some (1, t0, u0)) (H : Heap) (locs : List Loc) (ls : Array Slot) (hP : va_P D vwCl (fl [tdW cI cC cE a t, tdW cI cC cE b_ u]) H) (hD : va_D (lwA s) (fl [tdW cI cC cE a t, tdW cI cC cE b_ u])) (hS : va_S (lwA s) s.heap H locs) (hl : lv_has ls 7 [(0, .ref b), (1, .ref (a 0)), (2, .ref (b_ 0))]) : W p l e room_1 s m #[Value.ref b] below meth c H locs 600000 7302250 (lw_Z below #[Value.ref b] s) (F0 m 16 ls []) := by
  obtain ⟨hx, hb, hml, hown, hts, hX, hbl, hK⟩ := C0
  have hA : ∀ q : Nat, s.heap.size ≤ q → lwA s q := fun _ h => h
  have hbA : ¬ lwA s b := Nat.not_le.mpr hbl
  have hLen : L < 2 ^ 31 := by omega
  dsimp only [d_L_law] at h
  refine lv_aload_n hx hb dL_law_16 rfl (lv_at hl 1 rfl) ?_
  obtain ⟨r1, t3, hu2, h⟩ := ob2_el h
  refine kbi (ci := 5) (q := (RX5, TX5, 8)) (bs := [tdW cI cC cE a t, tdW cI cC cE b_ u]) (cs := [tdW cI cC cE a t]) (cs' := [tdW cI cC cE a t3]) (bs1 := [tdW cI cC cE a t3, tdW cI cC cE b_ u]) ⟨hx, hb, hml, hown, hts⟩ [0] [1] (cq_undo l D cI cC cE a _ t  r1 t3 hu2) (cwV 0 hts gL_law_X5_undo rfl rfl rfl (by decide +kernel) ⟨Nat.le_of_ble_eq_true rfl, Nat.le_of_ble_eq_true rfl⟩) hK hP hD hS hA rfl rfl rfl rfl rfl rfl rfl rfl rfl hl.1 rfl (Nat.le_of_ble_eq_true rfl) dL_law_17 ⟨Nat.le_of_ble_eq_true rfl, Nat.le_of_ble_eq_true rfl⟩ (fun H locs hP hD hS => ?_)
  refine lv_bipush (v := (-5)) hx hb dL_law_20 (by decide) ?_
  refine lv_icmp_ne (tgt := 73) hx hb dL_law_22 (by decide) (fun c4 => ?_) (fun c4 => ?_)
  · have h := (k_iB h).2 c4
    refine lv_iconst (v := 0) hx hb dL_law_73 (by decide) ?_
    refine lv_istore_n (lv' := [(3, .int 0), (0, .ref b), (1, .ref (a 0)), (2, .ref (b_ 0))]) hx hb dL_law_74 rfl hl (by decide) rfl (fun ls hl => ?_)
    refine lv_iconst (v := 0) hx hb dL_law_75 (by decide) ?_
    refine lv_istore (lv' := [(4, .int 0), (3, .int 0), (0, .ref b), (1, .ref (a 0)), (2, .ref (b_ 0))]) hx hb dL_law_76 hl (by decide) rfl (fun ls hl => ?_)
    exact (t_L_law_78 hr hlocks hx hb hml hown hts hX hbl hK hA hbA hLen)   fuel 0 0 t3 u _ _ hP hD hS _ (lv_sub hl [2, 3, 4, 1, 0] rfl) h
  · have h := (k_iB h).1 c4
    refine lv_aload_n hx hb dL_law_25 rfl (lv_at hl 1 rfl) ?_
    obtain ⟨r77, t79, hu78, h⟩ := ob2_el h
    refine kbi (ci := 5) (q := (RX5, TX5, 8)) (bs := [tdW cI cC cE a t3, tdW cI cC cE b_ u]) (cs := [tdW cI cC cE a t3]) (cs' := [tdW cI cC cE a t79]) (bs1 := [tdW cI cC cE a t79, tdW cI cC cE b_ u]) ⟨hx, hb, hml, hown, hts⟩ [0] [1] (cq_restore l D cI cC cE a _ t3  r77 t79 hu78) (cwV 0 hts gL_law_X5_restore rfl rfl rfl (by decide +kernel) ⟨Nat.le_of_ble_eq_true rfl, Nat.le_of_ble_eq_true rfl⟩) hK hP hD hS hA rfl rfl rfl rfl rfl rfl rfl rfl rfl hl.1 rfl (Nat.le_of_ble_eq_true rfl) dL_law_26 ⟨Nat.le_of_ble_eq_true rfl, Nat.le_of_ble_eq_true rfl⟩ (fun H locs hP hD hS => ?_)
    refine lv_bipush (v := (-5)) hx hb dL_law_29 (by decide) ?_
    refine lv_icmp_ne (tgt := 73) hx hb dL_law_31 (by decide) (fun c80 => ?_) (fun c80 => ?_)
    · have h := (k_iB h).2 c80
      refine lv_iconst (v := 0) hx hb dL_law_73 (by decide) ?_
      refine lv_istore_n (lv' := [(3, .int 0), (0, .ref b), (1, .ref (a 0)), (2, .ref (b_ 0))]) hx hb dL_law_74 rfl hl (by decide) rfl (fun ls hl => ?_)
      refine lv_iconst (v := 0) hx hb dL_law_75 (by decide) ?_
      refine lv_istore (lv' := [(4, .int 0), (3, .int 0), (0, .ref b), (1, .ref (a 0)), (2, .ref (b_ 0))]) hx hb dL_law_76 hl (by decide) rfl (fun ls hl => ?_)
      exact (t_L_law_78 hr hlocks hx hb hml hown hts hX hbl hK hA hbA hLen)   fuel 0 0 t79 u _ _ hP hD hS _ (lv_sub hl [2, 3, 4, 1, 0] rfl) h
    · have h := (k_iB h).1 c80
      refine lv_aload_n hx hb dL_law_34 rfl (lv_at hl 1 rfl) ?_
      obtain ⟨r81, t83, hu82, h⟩ := ob2_el h
      refine kbi (ci := 5) (q := (RX5, TX5, 8)) (bs := [tdW cI cC cE a t79, tdW cI cC cE b_ u]) (cs := [tdW cI cC cE a t79]) (cs' := [tdW cI cC cE a t83]) (bs1 := [tdW cI cC cE a t83, tdW cI cC cE b_ u]) ⟨hx, hb, hml, hown, hts⟩ [0] [1] (cq_perform l D cI cC cE a _ t79  r81 t83 hu82) (cwV 0 hts gL_law_X5_perform rfl rfl rfl (by decide +kernel) ⟨Nat.le_of_ble_eq_true rfl, Nat.le_of_ble_eq_true rfl⟩) hK hP hD hS hA rfl rfl rfl rfl rfl rfl rfl rfl rfl hl.1 rfl (Nat.le_of_ble_eq_true rfl) dL_law_35 ⟨Nat.le_of_ble_eq_true rfl, Nat.le_of_ble_eq_true rfl⟩ (fun H locs hP hD hS => ?_)
      refine lv_bipush (v := (-100)) hx hb dL_law_38 (by decide) ?_
      refine lv_icmp_ne (tgt := 73) hx hb dL_law_40 (by decide) (fun c84 => ?_) (fun c84 => ?_)
      · have h := (k_iB h).2 c84
        refine lv_iconst (v := 0) hx hb dL_law_73 (by decide) ?_
        refine lv_istore_n (lv' := [(3, .int 0), (0, .ref b), (1, .ref (a 0)), (2, .ref (b_ 0))]) hx hb dL_law_74 rfl hl (by decide) rfl (fun ls hl => ?_)
        refine lv_iconst (v := 0) hx hb dL_law_75 (by decide) ?_
        refine lv_istore (lv' := [(4, .int 0), (3, .int 0), (0, .ref b), (1, .ref (a 0)), (2, .ref (b_ 0))]) hx hb dL_law_76 hl (by decide) rfl (fun ls hl => ?_)
        exact (t_L_law_78 hr hlocks hx hb hml hown hts hX hbl hK hA hbA hLen)   fuel 0 0 t83 u _ _ hP hD hS _ (lv_sub hl [2, 3, 4, 1, 0] rfl) h
      · have h := (k_iB h).1 c84
        refine lv_aload_n hx hb dL_law_43 rfl (lv_at hl 1 rfl) ?_
        refine lv_iconst (v := 0) hx hb dL_law_44 (by decide) ?_
        obtain ⟨r85, hu86, h⟩ := ob1_el h
        refine kbi (ci := 5) (q := (RX5, TX5, 8)) (bs := [tdW cI cC cE a t83, tdW cI cC cE b_ u]) (cs := [tdW cI cC cE a t83]) (cs' := [tdW cI cC cE a t83]) (bs1 := [tdW cI cC cE a t83, tdW cI cC cE b_ u]) ⟨hx, hb, hml, hown, hts⟩ [0] [1] (cq_stopped l D cI cC cE a _ t83 0 r85 hu86) (cwV 1 hts gL_law_X5_stopped rfl rfl rfl (by decide +kernel) ⟨Nat.le_of_ble_eq_true rfl, Nat.le_of_ble_eq_true rfl⟩) hK hP hD hS hA rfl rfl rfl rfl rfl rfl rfl rfl rfl hl.1 rfl (Nat.le_of_ble_eq_true rfl) dL_law_45 ⟨Nat.le_of_ble_eq_true rfl, Nat.le_of_ble_eq_true rfl⟩ (fun H locs hP hD hS => ?_)
        refine lv_bipush (v := (-5)) hx hb dL_law_48 (by decide) ?_
        refine lv_icmp_ne (tgt := 73) hx hb dL_law_50 (by decide) (fun c87 => ?_) (fun c87 => ?_)
        · have h := (k_iB h).2 c87
          refine lv_iconst (v := 0) hx hb dL_law_73 (by decide) ?_
          refine lv_istore_n (lv' := [(3, .int 0), (0, .ref b), (1, .ref (a 0)), (2, .ref (b_ 0))]) hx hb dL_law_74 rfl hl (by decide) rfl (fun ls hl => ?_)
          refine lv_iconst (v := 0) hx hb dL_law_75 (by decide) ?_
          refine lv_istore (lv' := [(4, .int 0), (3, .int 0), (0, .ref b), (1, .ref (a 0)), (2, .ref (b_ 0))]) hx hb dL_law_76 hl (by decide) rfl (fun ls hl => ?_)
          exact (t_L_law_78 hr hlocks hx hb hml hown hts hX hbl hK hA hbA hLen)   fuel 0 0 t83 u _ _ hP hD hS _ (lv_sub hl [2, 3, 4, 1, 0] rfl) h
        · have h := (k_iB h).1 c87
          refine lv_aload_n hx hb dL_law_53 rfl (lv_at hl 1 rfl) ?_
          obtain ⟨r88, t90, hu89, h⟩ := ob2_el h
          refine kbi (ci := 5) (q := (RX5, TX5, 8)) (bs := [tdW cI cC cE a t83, tdW cI cC cE b_ u]) (cs := [tdW cI cC cE a t83]) (cs' := [tdW cI cC cE a t90]) (bs1 := [tdW cI cC cE a t90, tdW cI cC cE b_ u]) ⟨hx, hb, hml, hown, hts⟩ [0] [1] (cq_adjust l D cI cC cE a _ t83  r88 t90 hu89) (cwV 0 hts gL_law_X5_adjust rfl rfl rfl (by decide +kernel) ⟨Nat.le_of_ble_eq_true rfl, Nat.le_of_ble_eq_true rfl⟩) hK hP hD hS hA rfl rfl rfl rfl rfl rfl rfl rfl rfl hl.1 rfl (Nat.le_of_ble_eq_true rfl) dL_law_54 ⟨Nat.le_of_ble_eq_true rfl, Nat.le_of_ble_eq_true rfl⟩ (fun H locs hP hD hS => ?_)
          refine lv_bipush (v := (-5)) hx hb dL_law_57 (by decide) ?_
          refine lv_icmp_ne (tgt := 73) hx hb dL_law_59 (by decide) (fun c91 => ?_) (fun c91 => ?_)
          · have h := (k_iB h).2 c91
            refine lv_iconst (v := 0) hx hb dL_law_73 (by decide) ?_
            refine lv_istore_n (lv' := [(3, .int 0), (0, .ref b), (1, .ref (a 0)), (2, .ref (b_ 0))]) hx hb dL_law_74 rfl hl (by decide) rfl (fun ls hl => ?_)
            refine lv_iconst (v := 0) hx hb dL_law_75 (by decide) ?_
            refine lv_istore (lv' := [(4, .int 0), (3, .int 0), (0, .ref b), (1, .ref (a 0)), (2, .ref (b_ 0))]) hx hb dL_law_76 hl (by decide) rfl (fun ls hl => ?_)
            exact (t_L_law_78 hr hlocks hx hb hml hown hts hX hbl hK hA hbA hLen)   fuel 0 0 t90 u _ _ hP hD hS _ (lv_sub hl [2, 3, 4, 1, 0] rfl) h
          · have h := (k_iB h).1 c91
            refine lv_aload_n hx hb dL_law_62 rfl (lv_at hl 1 rfl) ?_
            obtain ⟨r92, t94, hu93, h⟩ := ob2_el h
            refine kbSi (bs := [tdW cI cC cE a t90, tdW cI cC cE b_ u]) (cs := [tdW cI cC cE a t90]) (cs' := [tdW cI cC cE a t94]) (bs1 := [tdW cI cC cE a t94, tdW cI cC cE b_ u]) ⟨hx, hb, hml, hown, hts⟩ [0] [1] (c_L_hangs l D cI cC cE a _ t90  r92 t94 (zb2_el hu93).1 (zb2_el hu93).2) (va_cwS 1 hts gL_law_L_hangs rfl rfl rfl (by decide +kernel) ⟨Nat.le_of_ble_eq_true rfl, Nat.le_of_ble_eq_true rfl⟩) hK hP hD hS hA rfl rfl rfl rfl rfl rfl rfl hl.1 rfl (Nat.le_of_ble_eq_true rfl) dL_law_63 ⟨Nat.le_of_ble_eq_true rfl, Nat.le_of_ble_eq_true rfl⟩ (fun H locs hP hD hS => ?_)
            refine lv_if_eq (tgt := 73) hx hb dL_law_66 (by decide) (fun c95 => ?_) (fun c95 => ?_)
            · have h := (k_iB h).1 c95
              refine lv_iconst (v := 0) hx hb dL_law_73 (by decide) ?_
              refine lv_istore_n (lv' := [(3, .int 0), (0, .ref b), (1, .ref (a 0)), (2, .ref (b_ 0))]) hx hb dL_law_74 rfl hl (by decide) rfl (fun ls hl => ?_)
              refine lv_iconst (v := 0) hx hb dL_law_75 (by decide) ?_
              refine lv_istore (lv' := [(4, .int 0), (3, .int 0), (0, .ref b), (1, .ref (a 0)), (2, .ref (b_ 0))]) hx hb dL_law_76 hl (by decide) rfl (fun ls hl => ?_)
              exact (t_L_law_78 hr hlocks hx hb hml hown hts hX hbl hK hA hbA hLen)   fuel 0 0 t94 u _ _ hP hD hS _ (lv_sub hl [2, 3, 4, 1, 0] rfl) h
            · have h := (k_iB h).2 c95
              refine lv_iconst (v := 1) hx hb dL_law_69 (by decide) ?_
              refine lv_goto (tgt := 74) hx hb dL_law_70 (by decide) ?_
              refine lv_istore_n (lv' := [(3, .int 1), (0, .ref b), (1, .ref (a 0)), (2, .ref (b_ 0))]) hx hb dL_law_74 rfl hl (by decide) rfl (fun ls hl => ?_)
              refine lv_iconst (v := 0) hx hb dL_law_75 (by decide) ?_
              refine lv_istore (lv' := [(4, .int 0), (3, .int 1), (0, .ref b), (1, .ref (a 0)), (2, .ref (b_ 0))]) hx hb dL_law_76 hl (by decide) rfl (fun ls hl => ?_)
              exact (t_L_law_78 hr hlocks hx hb hml hown hts hX hbl hK hA hbA hLen)   fuel 1 0 t94 u _ _ hP hD hS _ (lv_sub hl [2, 3, 4, 1, 0] rfl) h
