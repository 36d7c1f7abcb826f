def j_L_refuses_505 (p1 : Int32) (t : Td) : Option (Int32 × Td) :=
    ob1 (q_count 12 t) fun r23 =>
    if r23 = 9 then (ob1 (q_count 13 t) fun r26 =>
    if r26 = 9 then (ob2 (q_adjust t) fun r29 t31 =>
    if r29 = (-5) then (some (1, t31))
    else (some (0, t31)))
    else (some (1, t)))
    else (some (1, t))
def j_L_refuses_483 (p1 : Int32) (t : Td) : Option (Int32 × Td) :=
    ob1 (q_count 3 t) fun r20 =>
    if r20 = 0 then (j_L_refuses_505  p1 t)
    else (ob1 (q_answer 0 (9 + p1) t) fun r33 =>
    if r33 = (-2) then (j_L_refuses_505  p1 t)
    else (some (0, t)))
def j_L_refuses_378 (p1 : Int32) (x5 : Int32) (t : Td) : Option (Int32 × Td) :=
    ob2 (q_clearText t) fun r8 t10 =>
    if x5 = 0 then (some (0, t10))
    else (if r8 < 0 then (some (0, t10))
    else (ob2 (q_perform t10) fun r13 t15 =>
    if r13 = (-100) then (ob1 (q_count 1 t15) fun r17 =>
    if r17 = 0 then (j_L_refuses_483  p1 t15)
    else (ob1 (q_riddle 0 (7 + p1) t15) fun r36 =>
    if r36 = (-2) then (ob1 (q_riddle 0 0 t15) fun r39 =>
    ob2 (q_deliver r39 0 0 (100 + p1) t15) fun r41 t43 =>
    if r41 = (-2) then (ob1 (q_riddle 0 0 t43) fun r45 =>
    ob2 (q_deliver r45 0 0 1 t43) fun r47 t49 =>
    if r47 = (-4) then (ob1 (q_riddle 0 3 t49) fun r51 =>
    if r51 = 0 then (j_L_refuses_483  p1 t49)
    else (ob2 (q_withdraw 0 t49) fun r54 t56 =>
    if r54 = (-4) then (j_L_refuses_483  p1 t56)
    else (some (0, t56))))
    else (some (0, t49)))
    else (some (0, t43)))
    else (some (0, t15))))
    else (some (0, t15))))
def j_L_refuses_375 (p1 : Int32) (t : Td) : Option (Int32 × Td) :=
    j_L_refuses_378  p1 0 t
def j_L_refuses_58 (p1 : Int32) (x2 : Int32) (x3 : Int32) (x4 : Int32) (t : Td) : Option (Int32 × Td) :=
    ob2 (q_ask x2 0 0 t) fun r4 t6 =>
    if r4 = (-1) then (ob2 (q_ask 0 (51 + p1) 0 t6) fun r58 t60 =>
    if r58 = (-2) then (ob2 (q_ask 0 1 (100 + p1) t60) fun r62 t64 =>
    if r62 = (-2) then (ob2 (q_withdraw x3 t64) fun r66 t68 =>
    if r66 = (-1) then (ob2 (q_deliver 0 x3 0 0 t68) fun r70 t72 =>
    if r70 = (-1) then (ob2 (q_deliver x2 0 0 1 t72) fun r74 t76 =>
    if r74 = (-1) then (ob2 (q_set (4 + p1) 0 t76) fun r78 t80 =>
    if r78 = (-1) then (ob2 (q_set 0 (10 + p1) t80) fun r82 t84 =>
    if r82 = (-2) then (ob2 (q_set 2 0 t84) fun r86 t88 =>
    if r86 = (-2) then (ob1 (q_count 15 t88) fun r90 =>
    ob2 (q_set 1 r90 t88) fun r92 t94 =>
    if r92 = (-5) then (ob2 (q_pass 0 t94) fun r96 t98 =>
    if r96 = (-2) then (ob2 (q_pass (100 + p1) t98) fun r100 t102 =>
    if r100 = (-2) then (ob1 (q_stopped (2 + p1) t102) fun r104 =>
    if r104 = (-2) then (ob1 (q_trader x2 0 t102) fun r107 =>
    if r107 = (-1) then (ob1 (q_trader 0 (8 + p1) t102) fun r110 =>
    if r110 = (-2) then (ob1 (q_riddle x3 0 t102) fun r113 =>
    if r113 = (-1) then (ob1 (q_answer x4 0 t102) fun r116 =>
    if r116 = (-1) then (ob1 (q_waits ((-1) - p1) t102) fun r119 =>
    if r119 = (-2) then (ob1 (q_weigh (2 + p1) 1 t102) fun r122 =>
    if r122 = (-1) then (ob1 (q_weigh 0 (100 + p1) t102) fun r125 =>
    if r125 = (-2) then (ob1 (q_reason x4 t102) fun r128 =>
    if r128 = (-1) then (ob2 (q_settledIn x4 t102) fun r131 t133 =>
    if r131 = (-1) then (ob2 (q_ifRounds (100 + p1) 1 t133) fun r135 t137 =>
    if r135 = (-2) then (ob1 (q_account x2 t137) fun r139 =>
    if r139 = (-1) then (ob1 (q_count (20 + p1) t137) fun r142 =>
    if r142 = (-2) then (ob1 (q_count ((-1) - p1) t137) fun r145 =>
    if r145 = (-2) then (j_L_refuses_378  p1 1 t137)
    else (j_L_refuses_375  p1 t137))
    else (j_L_refuses_375  p1 t137))
    else (j_L_refuses_375  p1 t137))
    else (j_L_refuses_375  p1 t137))
    else (j_L_refuses_375  p1 t133))
    else (j_L_refuses_375  p1 t102))
    else (j_L_refuses_375  p1 t102))
    else (j_L_refuses_375  p1 t102))
    else (j_L_refuses_375  p1 t102))
    else (j_L_refuses_375  p1 t102))
    else (j_L_refuses_375  p1 t102))
    else (j_L_refuses_375  p1 t102))
    else (j_L_refuses_375  p1 t102))
    else (j_L_refuses_375  p1 t102))
    else (j_L_refuses_375  p1 t102))
    else (j_L_refuses_375  p1 t98))
    else (j_L_refuses_375  p1 t94))
    else (j_L_refuses_375  p1 t88))
    else (j_L_refuses_375  p1 t84))
    else (j_L_refuses_375  p1 t80))
    else (j_L_refuses_375  p1 t76))
    else (j_L_refuses_375  p1 t72))
    else (j_L_refuses_375  p1 t68))
    else (j_L_refuses_375  p1 t64))
    else (j_L_refuses_375  p1 t60))
    else (j_L_refuses_375  p1 t6)
def j_L_refuses_37 (p1 : Int32) (x2 : Int32) (x3 : Int32) (t : Td) : Option (Int32 × Td) :=
    if (p1 - p1 / 2 * 2) = 0 then (ob1 (q_count 3 t) fun r148 =>
    j_L_refuses_58  p1 x2 x3 (r148 + p1) t)
    else (j_L_refuses_58  p1 x2 x3 ((-1) - p1) t)
def j_L_refuses_17 (p1 : Int32) (x2 : Int32) (t : Td) : Option (Int32 × Td) :=
    if (p1 - p1 / 2 * 2) = 0 then (ob1 (q_count 1 t) fun r150 =>
    j_L_refuses_37  p1 x2 (r150 + p1) t)
    else (j_L_refuses_37  p1 x2 ((-1) - p1) t)
def d_L_refuses (p1 : Int32) (t : Td) : Option (Int32 × Td) :=
    if (p1 - p1 / 2 * 2) = 0 then (j_L_refuses_17  p1 (8 + p1) t)
    else (j_L_refuses_17  p1 ((-1) - p1) t)
set_option maxHeartbeats 16000000 in
set_option maxRecDepth 100000 in
theorem t_L_refuses_505 {p : Program} {l : Launch} {e : Env} {s : State} {m : MethodId} {below : List Frame} {meth : Method} {c : Code} {A : Nat → Prop} {Q : State → Prop} {D : va_G} {cI cC cE : ClassId} {a : Nat → Nat} {p1 : Int32} {r0 : Int32} {o_t : Td} (hx : p.tables.exec = Jvm.exec) (hb : c.code = cL_refuses) (hml : c.maxLocals = 7) (hown : s.vm.findClass RL = some m.cls) (hts : ∀ w ∈ wsL_refuses, w.before [.ref (a 0), .int p1].toArray s = true) (hK : va_K D vwCl (kT cI cC cE) s) (hA : ∀ q, s.heap.size ≤ q → A q) (fin : ∀ (pc : Nat) (ls : Array Slot) (H : Heap) (locs : List Loc), (narrow .boolean (.int r0) = .int r0) → decode cL_refuses pc = .ok (.ireturn, 1) → va_P D vwCl (fl [tdW cI cC cE a o_t]) H → va_D A (fl [tdW cI cC cE a o_t]) → va_S A s.heap H locs → W p l e ({ frames := 8, cells := 0, slots := 0, locals := 187 } : Room) s m [.ref (a 0), .int p1].toArray below meth c H locs 0 0 Q (F0 m pc ls [.int r0])) (hz : narrow .boolean (.int r0) = .int r0) : ∀ (t : Td) (H : Heap) (locs : List Loc), va_P D vwCl (fl [tdW cI cC cE a t]) H → va_D A (fl [tdW cI cC cE a t]) → va_S A s.heap H locs → ∀ (ls : Array Slot), lv_has ls 7 [(0, .ref (a 0))] → j_L_refuses_505  p1 t = some (r0, o_t) → W p l e ({ frames := 8, cells := 0, slots := 0, locals := 187 } : Room) s m [.ref (a 0), .int p1].toArray below meth c H locs 0 0 Q (F0 m 505 ls []) := by
  intro t H locs hP hD hS ls hl h
  dsimp only [j_L_refuses_505] at h
  refine lv_aload_n hx hb dL_refuses_505 rfl (lv_at hl 0 rfl) ?_
  refine lv_bipush (v := 12) hx hb dL_refuses_506 (by decide) ?_
  obtain ⟨r23, hu24, h⟩ := ob1_el h
  refine kbi (ci := 5) (q := (RX5, TX5, 8)) (bs := [tdW cI cC cE a t]) (cs := [tdW cI cC cE a t]) (cs' := [tdW cI cC cE a t]) (bs1 := [tdW cI cC cE a t]) ⟨hx, hb, hml, hown, hts⟩ [0] [] (cq_count l D cI cC cE a _ t 12 r23 hu24) (cwV 1 hts gL_refuses_X5_count rfl rfl rfl (by decide +kernel) ⟨Nat.le_of_ble_eq_true rfl, Nat.le_of_ble_eq_true rfl⟩) hK hP hD hS hA rfl rfl rfl rfl rfl rfl rfl rfl rfl hl.1 rfl (Nat.le_of_ble_eq_true rfl) dL_refuses_508 ⟨Nat.le_refl 0, Nat.le_refl 0⟩ (fun H locs hP hD hS => ?_)
  refine lv_bipush (v := 9) hx hb dL_refuses_511 (by decide) ?_
  refine lv_icmp_ne (tgt := 536) hx hb dL_refuses_513 (by decide) (fun c25 => ?_) (fun c25 => ?_)
  · have h := (k_iB h).2 c25
    refine lv_iconst (v := 1) hx hb dL_refuses_536 (by decide) ?_
    refine lv_goto (tgt := 541) hx hb dL_refuses_537 (by decide) ?_
    obtain ⟨rfl, rfl⟩ := inj2 (Option.some.inj h)
    exact fin _ _ _ _ hz dL_refuses_541 hP hD hS
  · have h := (k_iB h).1 c25
    refine lv_aload_n hx hb dL_refuses_516 rfl (lv_at hl 0 rfl) ?_
    refine lv_bipush (v := 13) hx hb dL_refuses_517 (by decide) ?_
    obtain ⟨r26, hu27, h⟩ := ob1_el h
    refine kbi (ci := 5) (q := (RX5, TX5, 8)) (bs := [tdW cI cC cE a t]) (cs := [tdW cI cC cE a t]) (cs' := [tdW cI cC cE a t]) (bs1 := [tdW cI cC cE a t]) ⟨hx, hb, hml, hown, hts⟩ [0] [] (cq_count l D cI cC cE a _ t 13 r26 hu27) (cwV 1 hts gL_refuses_X5_count rfl rfl rfl (by decide +kernel) ⟨Nat.le_of_ble_eq_true rfl, Nat.le_of_ble_eq_true rfl⟩) hK hP hD hS hA rfl rfl rfl rfl rfl rfl rfl rfl rfl hl.1 rfl (Nat.le_of_ble_eq_true rfl) dL_refuses_519 ⟨Nat.le_refl 0, Nat.le_refl 0⟩ (fun H locs hP hD hS => ?_)
    refine lv_bipush (v := 9) hx hb dL_refuses_522 (by decide) ?_
    refine lv_icmp_ne (tgt := 536) hx hb dL_refuses_524 (by decide) (fun c28 => ?_) (fun c28 => ?_)
    · have h := (k_iB h).2 c28
      refine lv_iconst (v := 1) hx hb dL_refuses_536 (by decide) ?_
      refine lv_goto (tgt := 541) hx hb dL_refuses_537 (by decide) ?_
      obtain ⟨rfl, rfl⟩ := inj2 (Option.some.inj h)
      exact fin _ _ _ _ hz dL_refuses_541 hP hD hS
    · have h := (k_iB h).1 c28
      refine lv_aload_n hx hb dL_refuses_527 rfl (lv_at hl 0 rfl) ?_
      obtain ⟨r29, t31, hu30, h⟩ := ob2_el h
      refine kbi (ci := 5) (q := (RX5, TX5, 8)) (bs := [tdW cI cC cE a t]) (cs := [tdW cI cC cE a t]) (cs' := [tdW cI cC cE a t31]) (bs1 := [tdW cI cC cE a t31]) ⟨hx, hb, hml, hown, hts⟩ [0] [] (cq_adjust l D cI cC cE a _ t  r29 t31 hu30) (cwV 0 hts gL_refuses_X5_adjust rfl rfl rfl (by decide +kernel) ⟨Nat.le_of_ble_eq_true rfl, Nat.le_of_ble_eq_true rfl⟩) hK hP hD hS hA rfl rfl rfl rfl rfl rfl rfl rfl rfl hl.1 rfl (Nat.le_of_ble_eq_true rfl) dL_refuses_528 ⟨Nat.le_refl 0, Nat.le_refl 0⟩ (fun H locs hP hD hS => ?_)
      refine lv_bipush (v := (-5)) hx hb dL_refuses_531 (by decide) ?_
      refine lv_icmp_ne (tgt := 540) hx hb dL_refuses_533 (by decide) (fun c32 => ?_) (fun c32 => ?_)
      · have h := (k_iB h).2 c32
        refine lv_iconst (v := 0) hx hb dL_refuses_540 (by decide) ?_
        obtain ⟨rfl, rfl⟩ := inj2 (Option.some.inj h)
        exact fin _ _ _ _ hz dL_refuses_541 hP hD hS
      · have h := (k_iB h).1 c32
        refine lv_iconst (v := 1) hx hb dL_refuses_536 (by decide) ?_
        refine lv_goto (tgt := 541) hx hb dL_refuses_537 (by decide) ?_
        obtain ⟨rfl, rfl⟩ := inj2 (Option.some.inj h)
        exact fin _ _ _ _ hz dL_refuses_541 hP hD hS
set_option maxHeartbeats 16000000 in
set_option maxRecDepth 100000 in
theorem t_L_refuses_483 {p : Program} {l : Launch} {e : Env} {s : State} {m : MethodId} {below : List Frame} {meth : Method} {c : Code} {A : Nat → Prop} {Q : State → Prop} {D : va_G} {cI cC cE : ClassId} {a : Nat → Nat} {p1 : Int32} {r0 : Int32} {o_t : Td} (hx : p.tables.exec = Jvm.exec) (hb : c.code = cL_refuses) (hml : c.maxLocals = 7) (hown : s.vm.findClass RL = some m.cls) (hts : ∀ w ∈ wsL_refuses, w.before [.ref (a 0), .int p1].toArray s = true) (hK : va_K D vwCl (kT cI cC cE) s) (hA : ∀ q, s.heap.size ≤ q → A q) (fin : ∀ (pc : Nat) (ls : Array Slot) (H : Heap) (locs : List Loc), (narrow .boolean (.int r0) = .int r0) → decode cL_refuses pc = .ok (.ireturn, 1) → va_P D vwCl (fl [tdW cI cC cE a o_t]) H → va_D A (fl [tdW cI cC cE a o_t]) → va_S A s.heap H locs → W p l e ({ frames := 8, cells := 0, slots := 0, locals := 187 } : Room) s m [.ref (a 0), .int p1].toArray below meth c H locs 0 0 Q (F0 m pc ls [.int r0])) (hz : narrow .boolean (.int r0) = .int r0) : ∀ (t : Td) (H : Heap) (locs : List Loc), va_P D vwCl (fl [tdW cI cC cE a t]) H → va_D A (fl [tdW cI cC cE a t]) → va_S A s.heap H locs → ∀ (ls : Array Slot), lv_has ls 7 [(0, .ref (a 0)), (1, .int p1)] → j_L_refuses_483  p1 t = some (r0, o_t) → W p l e ({ frames := 8, cells := 0, slots := 0, locals := 187 } : Room) s m [.ref (a 0), .int p1].toArray below meth c H locs 0 0 Q (F0 m 483 ls []) := by
  intro t H locs hP hD hS ls hl h
  dsimp only [j_L_refuses_483] at h
  refine lv_aload_n hx hb dL_refuses_483 rfl (lv_at hl 0 rfl) ?_
  refine lv_iconst (v := 3) hx hb dL_refuses_484 (by decide) ?_
  obtain ⟨r20, hu21, h⟩ := ob1_el h
  refine kbi (ci := 5) (q := (RX5, TX5, 8)) (bs := [tdW cI cC cE a t]) (cs := [tdW cI cC cE a t]) (cs' := [tdW cI cC cE a t]) (bs1 := [tdW cI cC cE a t]) ⟨hx, hb, hml, hown, hts⟩ [0] [] (cq_count l D cI cC cE a _ t 3 r20 hu21) (cwV 1 hts gL_refuses_X5_count rfl rfl rfl (by decide +kernel) ⟨Nat.le_of_ble_eq_true rfl, Nat.le_of_ble_eq_true rfl⟩) hK hP hD hS hA rfl rfl rfl rfl rfl rfl rfl rfl rfl hl.1 rfl (Nat.le_of_ble_eq_true rfl) dL_refuses_485 ⟨Nat.le_refl 0, Nat.le_refl 0⟩ (fun H locs hP hD hS => ?_)
  refine lv_if_eq (tgt := 505) hx hb dL_refuses_488 (by decide) (fun c22 => ?_) (fun c22 => ?_)
  · have h := (k_iB h).1 c22
    exact (t_L_refuses_505 hx hb hml hown hts hK hA fin hz)   t _ _ hP hD hS _ (lv_sub hl [0] rfl) h
  · have h := (k_iB h).2 c22
    refine lv_aload_n hx hb dL_refuses_491 rfl (lv_at hl 0 rfl) ?_
    refine lv_iconst (v := 0) hx hb dL_refuses_492 (by decide) ?_
    refine lv_bipush (v := 9) hx hb dL_refuses_493 (by decide) ?_
    refine lv_iload_n hx hb dL_refuses_495 rfl (lv_at hl 1 rfl) ?_
    refine lv_iadd hx hb dL_refuses_496 ?_
    obtain ⟨r33, hu34, h⟩ := ob1_el h
    refine kbi (ci := 5) (q := (RX5, TX5, 8)) (bs := [tdW cI cC cE a t]) (cs := [tdW cI cC cE a t]) (cs' := [tdW cI cC cE a t]) (bs1 := [tdW cI cC cE a t]) ⟨hx, hb, hml, hown, hts⟩ [0] [] (cq_answer l D cI cC cE a _ t 0 (9 + p1) r33 hu34) (cwV 2 hts gL_refuses_X5_answer rfl rfl rfl (by decide +kernel) ⟨Nat.le_of_ble_eq_true rfl, Nat.le_of_ble_eq_true rfl⟩) hK hP hD hS hA rfl rfl rfl rfl rfl rfl rfl rfl rfl hl.1 rfl (Nat.le_of_ble_eq_true rfl) dL_refuses_497 ⟨Nat.le_refl 0, Nat.le_refl 0⟩ (fun H locs hP hD hS => ?_)
    refine lv_bipush (v := (-2)) hx hb dL_refuses_500 (by decide) ?_
    refine lv_icmp_ne (tgt := 540) hx hb dL_refuses_502 (by decide) (fun c35 => ?_) (fun c35 => ?_)
    · have h := (k_iB h).2 c35
      refine lv_iconst (v := 0) hx hb dL_refuses_540 (by decide) ?_
      obtain ⟨rfl, rfl⟩ := inj2 (Option.some.inj h)
      exact fin _ _ _ _ hz dL_refuses_541 hP hD hS
    · have h := (k_iB h).1 c35
      exact (t_L_refuses_505 hx hb hml hown hts hK hA fin hz)   t _ _ hP hD hS _ (lv_sub hl [0] rfl) h
set_option maxHeartbeats 16000000 in
set_option maxRecDepth 100000 in
theorem t_L_refuses_378 {p : Program} {l : Launch} {e : Env} {s : State} {m : MethodId} {below : List Frame} {meth : Method} {c : Code} {A : Nat → Prop} {Q : State → Prop} {D : va_G} {cI cC cE : ClassId} {a : Nat → Nat} {p1 : Int32} {r0 : Int32} {o_t : Td} (hx : p.tables.exec = Jvm.exec) (hb : c.code = cL_refuses) (hml : c.maxLocals = 7) (hown : s.vm.findClass RL = some m.cls) (hts : ∀ w ∈ wsL_refuses, w.before [.ref (a 0), .int p1].toArray s = true) (hK : va_K D vwCl (kT cI cC cE) s) (hA : ∀ q, s.heap.size ≤ q → A q) (fin : ∀ (pc : Nat) (ls : Array Slot) (H : Heap) (locs : List Loc), (narrow .boolean (.int r0) = .int r0) → decode cL_refuses pc = .ok (.ireturn, 1) → va_P D vwCl (fl [tdW cI cC cE a o_t]) H → va_D A (fl [tdW cI cC cE a o_t]) → va_S A s.heap H locs → W p l e ({ frames := 8, cells := 0, slots := 0, locals := 187 } : Room) s m [.ref (a 0), .int p1].toArray below meth c H locs 0 0 Q (F0 m pc ls [.int r0])) (hz : narrow .boolean (.int r0) = .int r0) : ∀ (x5 : Int32) (t : Td) (H : Heap) (locs : List Loc), va_P D vwCl (fl [tdW cI cC cE a t]) H → va_D A (fl [tdW cI cC cE a t]) → va_S A s.heap H locs → ∀ (ls : Array Slot), lv_has ls 7 [(0, .ref (a 0)), (1, .int p1), (5, .int x5)] → j_L_refuses_378  p1 x5 t = some (r0, o_t) → W p l e ({ frames := 8, cells := 0, slots := 0, locals := 187 } : Room) s m [.ref (a 0), .int p1].toArray below meth c H locs 0 0 Q (F0 m 378 ls []) := by
  intro x5 t H locs hP hD hS ls hl h
  dsimp only [j_L_refuses_378] at h
  refine lv_aload_n hx hb dL_refuses_378 rfl (lv_at hl 0 rfl) ?_
  obtain ⟨r8, t10, hu9, h⟩ := ob2_el h
  refine kbi (ci := 5) (q := (RX5, TX5, 8)) (bs := [tdW cI cC cE a t]) (cs := [tdW cI cC cE a t]) (cs' := [tdW cI cC cE a t10]) (bs1 := [tdW cI cC cE a t10]) ⟨hx, hb, hml, hown, hts⟩ [0] [] (cq_clearText l D cI cC cE a _ t  r8 t10 hu9) (cwV 0 hts gL_refuses_X5_clearText rfl rfl rfl (by decide +kernel) ⟨Nat.le_of_ble_eq_true rfl, Nat.le_of_ble_eq_true rfl⟩) hK hP hD hS hA rfl rfl rfl rfl rfl rfl rfl rfl rfl hl.1 rfl (Nat.le_of_ble_eq_true rfl) dL_refuses_379 ⟨Nat.le_refl 0, Nat.le_refl 0⟩ (fun H locs hP hD hS => ?_)
  refine lv_istore (lv' := [(6, .int r8), (0, .ref (a 0)), (1, .int p1), (5, .int x5)]) hx hb dL_refuses_382 hl (by decide) rfl (fun ls hl => ?_)
  refine lv_iload hx hb dL_refuses_384 (lv_at hl 3 rfl) ?_
  refine lv_if_eq (tgt := 540) hx hb dL_refuses_386 (by decide) (fun c11 => ?_) (fun c11 => ?_)
  · have h := (k_iB h).1 c11
    refine lv_iconst (v := 0) hx hb dL_refuses_540 (by decide) ?_
    obtain ⟨rfl, rfl⟩ := inj2 (Option.some.inj h)
    exact fin _ _ _ _ hz dL_refuses_541 hP hD hS
  · have h := (k_iB h).2 c11
    refine lv_iload hx hb dL_refuses_389 (lv_at hl 0 rfl) ?_
    refine lv_if_lt (tgt := 540) hx hb dL_refuses_391 (by decide) (fun c12 => ?_) (fun c12 => ?_)
    · have h := (k_iB h).1 c12
      refine lv_iconst (v := 0) hx hb dL_refuses_540 (by decide) ?_
      obtain ⟨rfl, rfl⟩ := inj2 (Option.some.inj h)
      exact fin _ _ _ _ hz dL_refuses_541 hP hD hS
    · have h := (k_iB h).2 c12
      refine lv_aload_n hx hb dL_refuses_394 rfl (lv_at hl 1 rfl) ?_
      obtain ⟨r13, t15, hu14, h⟩ := ob2_el h
      refine kbi (ci := 5) (q := (RX5, TX5, 8)) (bs := [tdW cI cC cE a t10]) (cs := [tdW cI cC cE a t10]) (cs' := [tdW cI cC cE a t15]) (bs1 := [tdW cI cC cE a t15]) ⟨hx, hb, hml, hown, hts⟩ [0] [] (cq_perform l D cI cC cE a _ t10  r13 t15 hu14) (cwV 0 hts gL_refuses_X5_perform rfl rfl rfl (by decide +kernel) ⟨Nat.le_of_ble_eq_true rfl, Nat.le_of_ble_eq_true rfl⟩) hK hP hD hS hA rfl rfl rfl rfl rfl rfl rfl rfl rfl hl.1 rfl (Nat.le_of_ble_eq_true rfl) dL_refuses_395 ⟨Nat.le_refl 0, Nat.le_refl 0⟩ (fun H locs hP hD hS => ?_)
      refine lv_bipush (v := (-100)) hx hb dL_refuses_398 (by decide) ?_
      refine lv_icmp_ne (tgt := 540) hx hb dL_refuses_400 (by decide) (fun c16 => ?_) (fun c16 => ?_)
      · have h := (k_iB h).2 c16
        refine lv_iconst (v := 0) hx hb dL_refuses_540 (by decide) ?_
        obtain ⟨rfl, rfl⟩ := inj2 (Option.some.inj h)
        exact fin _ _ _ _ hz dL_refuses_541 hP hD hS
      · have h := (k_iB h).1 c16
        refine lv_aload_n hx hb dL_refuses_403 rfl (lv_at hl 1 rfl) ?_
        refine lv_iconst (v := 1) hx hb dL_refuses_404 (by decide) ?_
        obtain ⟨r17, hu18, h⟩ := ob1_el h
        refine kbi (ci := 5) (q := (RX5, TX5, 8)) (bs := [tdW cI cC cE a t15]) (cs := [tdW cI cC cE a t15]) (cs' := [tdW cI cC cE a t15]) (bs1 := [tdW cI cC cE a t15]) ⟨hx, hb, hml, hown, hts⟩ [0] [] (cq_count l D cI cC cE a _ t15 1 r17 hu18) (cwV 1 hts gL_refuses_X5_count rfl rfl rfl (by decide +kernel) ⟨Nat.le_of_ble_eq_true rfl, Nat.le_of_ble_eq_true rfl⟩) hK hP hD hS hA rfl rfl rfl rfl rfl rfl rfl rfl rfl hl.1 rfl (Nat.le_of_ble_eq_true rfl) dL_refuses_405 ⟨Nat.le_refl 0, Nat.le_refl 0⟩ (fun H locs hP hD hS => ?_)
        refine lv_if_eq (tgt := 483) hx hb dL_refuses_408 (by decide) (fun c19 => ?_) (fun c19 => ?_)
        · have h := (k_iB h).1 c19
          exact (t_L_refuses_483 hx hb hml hown hts hK hA fin hz)   t15 _ _ hP hD hS _ (lv_sub hl [1, 2] rfl) h
        · have h := (k_iB h).2 c19
          refine lv_aload_n hx hb dL_refuses_411 rfl (lv_at hl 1 rfl) ?_
          refine lv_iconst (v := 0) hx hb dL_refuses_412 (by decide) ?_
          refine lv_bipush (v := 7) hx hb dL_refuses_413 (by decide) ?_
          refine lv_iload_n hx hb dL_refuses_415 rfl (lv_at hl 2 rfl) ?_
          refine lv_iadd hx hb dL_refuses_416 ?_
          obtain ⟨r36, hu37, h⟩ := ob1_el h
          refine kbi (ci := 5) (q := (RX5, TX5, 8)) (bs := [tdW cI cC cE a t15]) (cs := [tdW cI cC cE a t15]) (cs' := [tdW cI cC cE a t15]) (bs1 := [tdW cI cC cE a t15]) ⟨hx, hb, hml, hown, hts⟩ [0] [] (cq_riddle l D cI cC cE a _ t15 0 (7 + p1) r36 hu37) (cwV 2 hts gL_refuses_X5_riddle rfl rfl rfl (by decide +kernel) ⟨Nat.le_of_ble_eq_true rfl, Nat.le_of_ble_eq_true rfl⟩) hK hP hD hS hA rfl rfl rfl rfl rfl rfl rfl rfl rfl hl.1 rfl (Nat.le_of_ble_eq_true rfl) dL_refuses_417 ⟨Nat.le_refl 0, Nat.le_refl 0⟩ (fun H locs hP hD hS => ?_)
          refine lv_bipush (v := (-2)) hx hb dL_refuses_420 (by decide) ?_
          refine lv_icmp_ne (tgt := 540) hx hb dL_refuses_422 (by decide) (fun c38 => ?_) (fun c38 => ?_)
          · have h := (k_iB h).2 c38
            refine lv_iconst (v := 0) hx hb dL_refuses_540 (by decide) ?_
            obtain ⟨rfl, rfl⟩ := inj2 (Option.some.inj h)
            exact fin _ _ _ _ hz dL_refuses_541 hP hD hS
          · have h := (k_iB h).1 c38
            refine lv_aload_n hx hb dL_refuses_425 rfl (lv_at hl 1 rfl) ?_
            refine lv_aload_n hx hb dL_refuses_426 rfl (lv_at hl 1 rfl) ?_
            refine lv_iconst (v := 0) hx hb dL_refuses_427 (by decide) ?_
            refine lv_iconst (v := 0) hx hb dL_refuses_428 (by decide) ?_
            obtain ⟨r39, hu40, h⟩ := ob1_el h
            refine kbi (ci := 5) (q := (RX5, TX5, 8)) (bs := [tdW cI cC cE a t15]) (cs := [tdW cI cC cE a t15]) (cs' := [tdW cI cC cE a t15]) (bs1 := [tdW cI cC cE a t15]) ⟨hx, hb, hml, hown, hts⟩ [0] [] (cq_riddle l D cI cC cE a _ t15 0 0 r39 hu40) (cwV 2 hts gL_refuses_X5_riddle rfl rfl rfl (by decide +kernel) ⟨Nat.le_of_ble_eq_true rfl, Nat.le_of_ble_eq_true rfl⟩) hK hP hD hS hA rfl rfl rfl rfl rfl rfl rfl rfl rfl hl.1 rfl (Nat.le_of_ble_eq_true rfl) dL_refuses_429 ⟨Nat.le_refl 0, Nat.le_refl 0⟩ (fun H locs hP hD hS => ?_)
            refine lv_iconst (v := 0) hx hb dL_refuses_432 (by decide) ?_
            refine lv_iconst (v := 0) hx hb dL_refuses_433 (by decide) ?_
            refine lv_bipush (v := 100) hx hb dL_refuses_434 (by decide) ?_
            refine lv_iload_n hx hb dL_refuses_436 rfl (lv_at hl 2 rfl) ?_
            refine lv_iadd hx hb dL_refuses_437 ?_
            obtain ⟨r41, t43, hu42, h⟩ := ob2_el h
            refine kbi (ci := 5) (q := (RX5, TX5, 8)) (bs := [tdW cI cC cE a t15]) (cs := [tdW cI cC cE a t15]) (cs' := [tdW cI cC cE a t43]) (bs1 := [tdW cI cC cE a t43]) ⟨hx, hb, hml, hown, hts⟩ [0] [] (cq_deliver l D cI cC cE a _ t15 r39 0 0 (100 + p1) r41 t43 hu42) (cwV 4 hts gL_refuses_X5_deliver rfl rfl rfl (by decide +kernel) ⟨Nat.le_of_ble_eq_true rfl, Nat.le_of_ble_eq_true rfl⟩) hK hP hD hS hA rfl rfl rfl rfl rfl rfl rfl rfl rfl hl.1 rfl (Nat.le_of_ble_eq_true rfl) dL_refuses_438 ⟨Nat.le_refl 0, Nat.le_refl 0⟩ (fun H locs hP hD hS => ?_)
            refine lv_bipush (v := (-2)) hx hb dL_refuses_441 (by decide) ?_
            refine lv_icmp_ne (tgt := 540) hx hb dL_refuses_443 (by decide) (fun c44 => ?_) (fun c44 => ?_)
            · have h := (k_iB h).2 c44
              refine lv_iconst (v := 0) hx hb dL_refuses_540 (by decide) ?_
              obtain ⟨rfl, rfl⟩ := inj2 (Option.some.inj h)
              exact fin _ _ _ _ hz dL_refuses_541 hP hD hS
            · have h := (k_iB h).1 c44
              refine lv_aload_n hx hb dL_refuses_446 rfl (lv_at hl 1 rfl) ?_
              refine lv_aload_n hx hb dL_refuses_447 rfl (lv_at hl 1 rfl) ?_
              refine lv_iconst (v := 0) hx hb dL_refuses_448 (by decide) ?_
              refine lv_iconst (v := 0) hx hb dL_refuses_449 (by decide) ?_
              obtain ⟨r45, hu46, h⟩ := ob1_el h
              refine kbi (ci := 5) (q := (RX5, TX5, 8)) (bs := [tdW cI cC cE a t43]) (cs := [tdW cI cC cE a t43]) (cs' := [tdW cI cC cE a t43]) (bs1 := [tdW cI cC cE a t43]) ⟨hx, hb, hml, hown, hts⟩ [0] [] (cq_riddle l D cI cC cE a _ t43 0 0 r45 hu46) (cwV 2 hts gL_refuses_X5_riddle rfl rfl rfl (by decide +kernel) ⟨Nat.le_of_ble_eq_true rfl, Nat.le_of_ble_eq_true rfl⟩) hK hP hD hS hA rfl rfl rfl rfl rfl rfl rfl rfl rfl hl.1 rfl (Nat.le_of_ble_eq_true rfl) dL_refuses_450 ⟨Nat.le_refl 0, Nat.le_refl 0⟩ (fun H locs hP hD hS => ?_)
              refine lv_iconst (v := 0) hx hb dL_refuses_453 (by decide) ?_
              refine lv_iconst (v := 0) hx hb dL_refuses_454 (by decide) ?_
              refine lv_iconst (v := 1) hx hb dL_refuses_455 (by decide) ?_
              obtain ⟨r47, t49, hu48, h⟩ := ob2_el h
              refine kbi (ci := 5) (q := (RX5, TX5, 8)) (bs := [tdW cI cC cE a t43]) (cs := [tdW cI cC cE a t43]) (cs' := [tdW cI cC cE a t49]) (bs1 := [tdW cI cC cE a t49]) ⟨hx, hb, hml, hown, hts⟩ [0] [] (cq_deliver l D cI cC cE a _ t43 r45 0 0 1 r47 t49 hu48) (cwV 4 hts gL_refuses_X5_deliver rfl rfl rfl (by decide +kernel) ⟨Nat.le_of_ble_eq_true rfl, Nat.le_of_ble_eq_true rfl⟩) hK hP hD hS hA rfl rfl rfl rfl rfl rfl rfl rfl rfl hl.1 rfl (Nat.le_of_ble_eq_true rfl) dL_refuses_456 ⟨Nat.le_refl 0, Nat.le_refl 0⟩ (fun H locs hP hD hS => ?_)
              refine lv_bipush (v := (-4)) hx hb dL_refuses_459 (by decide) ?_
              refine lv_icmp_ne (tgt := 540) hx hb dL_refuses_461 (by decide) (fun c50 => ?_) (fun c50 => ?_)
              · have h := (k_iB h).2 c50
                refine lv_iconst (v := 0) hx hb dL_refuses_540 (by decide) ?_
                obtain ⟨rfl, rfl⟩ := inj2 (Option.some.inj h)
                exact fin _ _ _ _ hz dL_refuses_541 hP hD hS
              · have h := (k_iB h).1 c50
                refine lv_aload_n hx hb dL_refuses_464 rfl (lv_at hl 1 rfl) ?_
                refine lv_iconst (v := 0) hx hb dL_refuses_465 (by decide) ?_
                refine lv_iconst (v := 3) hx hb dL_refuses_466 (by decide) ?_
                obtain ⟨r51, hu52, h⟩ := ob1_el h
                refine kbi (ci := 5) (q := (RX5, TX5, 8)) (bs := [tdW cI cC cE a t49]) (cs := [tdW cI cC cE a t49]) (cs' := [tdW cI cC cE a t49]) (bs1 := [tdW cI cC cE a t49]) ⟨hx, hb, hml, hown, hts⟩ [0] [] (cq_riddle l D cI cC cE a _ t49 0 3 r51 hu52) (cwV 2 hts gL_refuses_X5_riddle rfl rfl rfl (by decide +kernel) ⟨Nat.le_of_ble_eq_true rfl, Nat.le_of_ble_eq_true rfl⟩) hK hP hD hS hA rfl rfl rfl rfl rfl rfl rfl rfl rfl hl.1 rfl (Nat.le_of_ble_eq_true rfl) dL_refuses_467 ⟨Nat.le_refl 0, Nat.le_refl 0⟩ (fun H locs hP hD hS => ?_)
                refine lv_if_eq (tgt := 483) hx hb dL_refuses_470 (by decide) (fun c53 => ?_) (fun c53 => ?_)
                · have h := (k_iB h).1 c53
                  exact (t_L_refuses_483 hx hb hml hown hts hK hA fin hz)   t49 _ _ hP hD hS _ (lv_sub hl [1, 2] rfl) h
                · have h := (k_iB h).2 c53
                  refine lv_aload_n hx hb dL_refuses_473 rfl (lv_at hl 1 rfl) ?_
                  refine lv_iconst (v := 0) hx hb dL_refuses_474 (by decide) ?_
                  obtain ⟨r54, t56, hu55, h⟩ := ob2_el h
                  refine kbi (ci := 5) (q := (RX5, TX5, 8)) (bs := [tdW cI cC cE a t49]) (cs := [tdW cI cC cE a t49]) (cs' := [tdW cI cC cE a t56]) (bs1 := [tdW cI cC cE a t56]) ⟨hx, hb, hml, hown, hts⟩ [0] [] (cq_withdraw l D cI cC cE a _ t49 0 r54 t56 hu55) (cwV 1 hts gL_refuses_X5_withdraw rfl rfl rfl (by decide +kernel) ⟨Nat.le_of_ble_eq_true rfl, Nat.le_of_ble_eq_true rfl⟩) hK hP hD hS hA rfl rfl rfl rfl rfl rfl rfl rfl rfl hl.1 rfl (Nat.le_of_ble_eq_true rfl) dL_refuses_475 ⟨Nat.le_refl 0, Nat.le_refl 0⟩ (fun H locs hP hD hS => ?_)
                  refine lv_bipush (v := (-4)) hx hb dL_refuses_478 (by decide) ?_
                  refine lv_icmp_ne (tgt := 540) hx hb dL_refuses_480 (by decide) (fun c57 => ?_) (fun c57 => ?_)
                  · have h := (k_iB h).2 c57
                    refine lv_iconst (v := 0) hx hb dL_refuses_540 (by decide) ?_
                    obtain ⟨rfl, rfl⟩ := inj2 (Option.some.inj h)
                    exact fin _ _ _ _ hz dL_refuses_541 hP hD hS
                  · have h := (k_iB h).1 c57
                    exact (t_L_refuses_483 hx hb hml hown hts hK hA fin hz)   t56 _ _ hP hD hS _ (lv_sub hl [1, 2] rfl) h
set_option maxHeartbeats 16000000 in
set_option maxRecDepth 100000 in
theorem t_L_refuses_375 {p : Program} {l : Launch} {e : Env} {s : State} {m : MethodId} {below : List Frame} {meth : Method} {c : Code} {A : Nat → Prop} {Q : State → Prop} {D : va_G} {cI cC cE : ClassId} {a : Nat → Nat} {p1 : Int32} {r0 : Int32} {o_t : Td} (hx : p.tables.exec = Jvm.exec) (hb : c.code = cL_refuses) (hml : c.maxLocals = 7) (hown : s.vm.findClass RL = some m.cls) (hts : ∀ w ∈ wsL_refuses, w.before [.ref (a 0), .int p1].toArray s = true) (hK : va_K D vwCl (kT cI cC cE) s) (hA : ∀ q, s.heap.size ≤ q → A q) (fin : ∀ (pc : Nat) (ls : Array Slot) (H : Heap) (locs : List Loc), (narrow .boolean (.int r0) = .int r0) → decode cL_refuses pc = .ok (.ireturn, 1) → va_P D vwCl (fl [tdW cI cC cE a o_t]) H → va_D A (fl [tdW cI cC cE a o_t]) → va_S A s.heap H locs → W p l e ({ frames := 8, cells := 0, slots := 0, locals := 187 } : Room) s m [.ref (a 0), .int p1].toArray below meth c H locs 0 0 Q (F0 m pc ls [.int r0])) (hz : narrow .boolean (.int r0) = .int r0) : ∀ (t : Td) (H : Heap) (locs : List Loc), va_P D vwCl (fl [tdW cI cC cE a t]) H → va_D A (fl [tdW cI cC cE a t]) → va_S A s.heap H locs → ∀ (ls : Array Slot), lv_has ls 7 [(0, .ref (a 0)), (1, .int p1)] → j_L_refuses_375  p1 t = some (r0, o_t) → W p l e ({ frames := 8, cells := 0, slots := 0, locals := 187 } : Room) s m [.ref (a 0), .int p1].toArray below meth c H locs 0 0 Q (F0 m 375 ls []) := by
  intro t H locs hP hD hS ls hl h
  dsimp only [j_L_refuses_375] at h
  refine lv_iconst (v := 0) hx hb dL_refuses_375 (by decide) ?_
  refine lv_istore (lv' := [(5, .int 0), (0, .ref (a 0)), (1, .int p1)]) hx hb dL_refuses_376 hl (by decide) rfl (fun ls hl => ?_)
  exact (t_L_refuses_378 hx hb hml hown hts hK hA fin hz)   0 t _ _ hP hD hS _ (lv_sub hl [1, 2, 0] rfl) h
set_option maxHeartbeats 16000000 in
set_option maxRecDepth 100000 in
theorem t_L_refuses_58 {p : Program} {l : Launch} {e : Env} {s : State} {m : MethodId} {below : List Frame} {meth : Method} {c : Code} {A : Nat → Prop} {Q : State → Prop} {D : va_G} {cI cC cE : ClassId} {a : Nat → Nat} {p1 : Int32} {r0 : Int32} {o_t : Td} (hx : p.tables.exec = Jvm.exec) (hb : c.code = cL_refuses) (hml : c.maxLocals = 7) (hown : s.vm.findClass RL = some m.cls) (hts : ∀ w ∈ wsL_refuses, w.before [.ref (a 0), .int p1].toArray s = true) (hK : va_K D vwCl (kT cI cC cE) s) (hA : ∀ q, s.heap.size ≤ q → A q) (fin : ∀ (pc : Nat) (ls : Array Slot) (H : Heap) (locs : List Loc), (narrow .boolean (.int r0) = .int r0) → decode cL_refuses pc = .ok (.ireturn, 1) → va_P D vwCl (fl [tdW cI cC cE a o_t]) H → va_D A (fl [tdW cI cC cE a o_t]) → va_S A s.heap H locs → W p l e ({ frames := 8, cells := 0, slots := 0, locals := 187 } : Room) s m [.ref (a 0), .int p1].toArray below meth c H locs 0 0 Q (F0 m pc ls [.int r0])) (hz : narrow .boolean (.int r0) = .int r0) : ∀ (x2 : Int32) (x3 : Int32) (x4 : Int32) (t : Td) (H : Heap) (locs : List Loc), va_P D vwCl (fl [tdW cI cC cE a t]) H → va_D A (fl [tdW cI cC cE a t]) → va_S A s.heap H locs → ∀ (ls : Array Slot), lv_has ls 7 [(0, .ref (a 0)), (1, .int p1), (2, .int x2), (3, .int x3), (4, .int x4)] → j_L_refuses_58  p1 x2 x3 x4 t = some (r0, o_t) → W p l e ({ frames := 8, cells := 0, slots := 0, locals := 187 } : Room) s m [.ref (a 0), .int p1].toArray below meth c H locs 0 0 Q (F0 m 58 ls []) := by
  intro x2 x3 x4 t H locs hP hD hS ls hl h
  dsimp only [j_L_refuses_58] at h
  refine lv_aload_n hx hb dL_refuses_58 rfl (lv_at hl 0 rfl) ?_
  refine lv_iload_n hx hb dL_refuses_59 rfl (lv_at hl 2 rfl) ?_
  refine lv_iconst (v := 0) hx hb dL_refuses_60 (by decide) ?_
  refine lv_iconst (v := 0) hx hb dL_refuses_61 (by decide) ?_
  obtain ⟨r4, t6, hu5, h⟩ := ob2_el h
  refine kbi (ci := 5) (q := (RX5, TX5, 8)) (bs := [tdW cI cC cE a t]) (cs := [tdW cI cC cE a t]) (cs' := [tdW cI cC cE a t6]) (bs1 := [tdW cI cC cE a t6]) ⟨hx, hb, hml, hown, hts⟩ [0] [] (cq_ask l D cI cC cE a _ t x2 0 0 r4 t6 hu5) (cwV 3 hts gL_refuses_X5_ask rfl rfl rfl (by decide +kernel) ⟨Nat.le_of_ble_eq_true rfl, Nat.le_of_ble_eq_true rfl⟩) hK hP hD hS hA rfl rfl rfl rfl rfl rfl rfl rfl rfl hl.1 rfl (Nat.le_of_ble_eq_true rfl) dL_refuses_62 ⟨Nat.le_refl 0, Nat.le_refl 0⟩ (fun H locs hP hD hS => ?_)
  refine lv_iconst (v := (-1)) hx hb dL_refuses_65 (by decide) ?_
  refine lv_icmp_ne (tgt := 375) hx hb dL_refuses_66 (by decide) (fun c7 => ?_) (fun c7 => ?_)
  · have h := (k_iB h).2 c7
    exact (t_L_refuses_375 hx hb hml hown hts hK hA fin hz)   t6 _ _ hP hD hS _ (lv_sub hl [0, 1] rfl) h
  · have h := (k_iB h).1 c7
    refine lv_aload_n hx hb dL_refuses_69 rfl (lv_at hl 0 rfl) ?_
    refine lv_iconst (v := 0) hx hb dL_refuses_70 (by decide) ?_
    refine lv_bipush (v := 51) hx hb dL_refuses_71 (by decide) ?_
    refine lv_iload_n hx hb dL_refuses_73 rfl (lv_at hl 1 rfl) ?_
    refine lv_iadd hx hb dL_refuses_74 ?_
    refine lv_iconst (v := 0) hx hb dL_refuses_75 (by decide) ?_
    obtain ⟨r58, t60, hu59, h⟩ := ob2_el h
    refine kbi (ci := 5) (q := (RX5, TX5, 8)) (bs := [tdW cI cC cE a t6]) (cs := [tdW cI cC cE a t6]) (cs' := [tdW cI cC cE a t60]) (bs1 := [tdW cI cC cE a t60]) ⟨hx, hb, hml, hown, hts⟩ [0] [] (cq_ask l D cI cC cE a _ t6 0 (51 + p1) 0 r58 t60 hu59) (cwV 3 hts gL_refuses_X5_ask rfl rfl rfl (by decide +kernel) ⟨Nat.le_of_ble_eq_true rfl, Nat.le_of_ble_eq_true rfl⟩) hK hP hD hS hA rfl rfl rfl rfl rfl rfl rfl rfl rfl hl.1 rfl (Nat.le_of_ble_eq_true rfl) dL_refuses_76 ⟨Nat.le_refl 0, Nat.le_refl 0⟩ (fun H locs hP hD hS => ?_)
    refine lv_bipush (v := (-2)) hx hb dL_refuses_79 (by decide) ?_
    refine lv_icmp_ne (tgt := 375) hx hb dL_refuses_81 (by decide) (fun c61 => ?_) (fun c61 => ?_)
    · have h := (k_iB h).2 c61
      exact (t_L_refuses_375 hx hb hml hown hts hK hA fin hz)   t60 _ _ hP hD hS _ (lv_sub hl [0, 1] rfl) h
    · have h := (k_iB h).1 c61
      refine lv_aload_n hx hb dL_refuses_84 rfl (lv_at hl 0 rfl) ?_
      refine lv_iconst (v := 0) hx hb dL_refuses_85 (by decide) ?_
      refine lv_iconst (v := 1) hx hb dL_refuses_86 (by decide) ?_
      refine lv_bipush (v := 100) hx hb dL_refuses_87 (by decide) ?_
      refine lv_iload_n hx hb dL_refuses_89 rfl (lv_at hl 1 rfl) ?_
      refine lv_iadd hx hb dL_refuses_90 ?_
      obtain ⟨r62, t64, hu63, h⟩ := ob2_el h
      refine kbi (ci := 5) (q := (RX5, TX5, 8)) (bs := [tdW cI cC cE a t60]) (cs := [tdW cI cC cE a t60]) (cs' := [tdW cI cC cE a t64]) (bs1 := [tdW cI cC cE a t64]) ⟨hx, hb, hml, hown, hts⟩ [0] [] (cq_ask l D cI cC cE a _ t60 0 1 (100 + p1) r62 t64 hu63) (cwV 3 hts gL_refuses_X5_ask rfl rfl rfl (by decide +kernel) ⟨Nat.le_of_ble_eq_true rfl, Nat.le_of_ble_eq_true rfl⟩) hK hP hD hS hA rfl rfl rfl rfl rfl rfl rfl rfl rfl hl.1 rfl (Nat.le_of_ble_eq_true rfl) dL_refuses_91 ⟨Nat.le_refl 0, Nat.le_refl 0⟩ (fun H locs hP hD hS => ?_)
      refine lv_bipush (v := (-2)) hx hb dL_refuses_94 (by decide) ?_
      refine lv_icmp_ne (tgt := 375) hx hb dL_refuses_96 (by decide) (fun c65 => ?_) (fun c65 => ?_)
      · have h := (k_iB h).2 c65
        exact (t_L_refuses_375 hx hb hml hown hts hK hA fin hz)   t64 _ _ hP hD hS _ (lv_sub hl [0, 1] rfl) h
      · have h := (k_iB h).1 c65
        refine lv_aload_n hx hb dL_refuses_99 rfl (lv_at hl 0 rfl) ?_
        refine lv_iload_n hx hb dL_refuses_100 rfl (lv_at hl 3 rfl) ?_
        obtain ⟨r66, t68, hu67, h⟩ := ob2_el h
        refine kbi (ci := 5) (q := (RX5, TX5, 8)) (bs := [tdW cI cC cE a t64]) (cs := [tdW cI cC cE a t64]) (cs' := [tdW cI cC cE a t68]) (bs1 := [tdW cI cC cE a t68]) ⟨hx, hb, hml, hown, hts⟩ [0] [] (cq_withdraw l D cI cC cE a _ t64 x3 r66 t68 hu67) (cwV 1 hts gL_refuses_X5_withdraw rfl rfl rfl (by decide +kernel) ⟨Nat.le_of_ble_eq_true rfl, Nat.le_of_ble_eq_true rfl⟩) hK hP hD hS hA rfl rfl rfl rfl rfl rfl rfl rfl rfl hl.1 rfl (Nat.le_of_ble_eq_true rfl) dL_refuses_101 ⟨Nat.le_refl 0, Nat.le_refl 0⟩ (fun H locs hP hD hS => ?_)
        refine lv_iconst (v := (-1)) hx hb dL_refuses_104 (by decide) ?_
        refine lv_icmp_ne (tgt := 375) hx hb dL_refuses_105 (by decide) (fun c69 => ?_) (fun c69 => ?_)
        · have h := (k_iB h).2 c69
          exact (t_L_refuses_375 hx hb hml hown hts hK hA fin hz)   t68 _ _ hP hD hS _ (lv_sub hl [0, 1] rfl) h
        · have h := (k_iB h).1 c69
          refine lv_aload_n hx hb dL_refuses_108 rfl (lv_at hl 0 rfl) ?_
          refine lv_iconst (v := 0) hx hb dL_refuses_109 (by decide) ?_
          refine lv_iload_n hx hb dL_refuses_110 rfl (lv_at hl 3 rfl) ?_
          refine lv_iconst (v := 0) hx hb dL_refuses_111 (by decide) ?_
          refine lv_iconst (v := 0) hx hb dL_refuses_112 (by decide) ?_
          obtain ⟨r70, t72, hu71, h⟩ := ob2_el h
          refine kbi (ci := 5) (q := (RX5, TX5, 8)) (bs := [tdW cI cC cE a t68]) (cs := [tdW cI cC cE a t68]) (cs' := [tdW cI cC cE a t72]) (bs1 := [tdW cI cC cE a t72]) ⟨hx, hb, hml, hown, hts⟩ [0] [] (cq_deliver l D cI cC cE a _ t68 0 x3 0 0 r70 t72 hu71) (cwV 4 hts gL_refuses_X5_deliver rfl rfl rfl (by decide +kernel) ⟨Nat.le_of_ble_eq_true rfl, Nat.le_of_ble_eq_true rfl⟩) hK hP hD hS hA rfl rfl rfl rfl rfl rfl rfl rfl rfl hl.1 rfl (Nat.le_of_ble_eq_true rfl) dL_refuses_113 ⟨Nat.le_refl 0, Nat.le_refl 0⟩ (fun H locs hP hD hS => ?_)
          refine lv_iconst (v := (-1)) hx hb dL_refuses_116 (by decide) ?_
          refine lv_icmp_ne (tgt := 375) hx hb dL_refuses_117 (by decide) (fun c73 => ?_) (fun c73 => ?_)
          · have h := (k_iB h).2 c73
            exact (t_L_refuses_375 hx hb hml hown hts hK hA fin hz)   t72 _ _ hP hD hS _ (lv_sub hl [0, 1] rfl) h
          · have h := (k_iB h).1 c73
            refine lv_aload_n hx hb dL_refuses_120 rfl (lv_at hl 0 rfl) ?_
            refine lv_iload_n hx hb dL_refuses_121 rfl (lv_at hl 2 rfl) ?_
            refine lv_iconst (v := 0) hx hb dL_refuses_122 (by decide) ?_
            refine lv_iconst (v := 0) hx hb dL_refuses_123 (by decide) ?_
            refine lv_iconst (v := 1) hx hb dL_refuses_124 (by decide) ?_
            obtain ⟨r74, t76, hu75, h⟩ := ob2_el h
            refine kbi (ci := 5) (q := (RX5, TX5, 8)) (bs := [tdW cI cC cE a t72]) (cs := [tdW cI cC cE a t72]) (cs' := [tdW cI cC cE a t76]) (bs1 := [tdW cI cC cE a t76]) ⟨hx, hb, hml, hown, hts⟩ [0] [] (cq_deliver l D cI cC cE a _ t72 x2 0 0 1 r74 t76 hu75) (cwV 4 hts gL_refuses_X5_deliver rfl rfl rfl (by decide +kernel) ⟨Nat.le_of_ble_eq_true rfl, Nat.le_of_ble_eq_true rfl⟩) hK hP hD hS hA rfl rfl rfl rfl rfl rfl rfl rfl rfl hl.1 rfl (Nat.le_of_ble_eq_true rfl) dL_refuses_125 ⟨Nat.le_refl 0, Nat.le_refl 0⟩ (fun H locs hP hD hS => ?_)
            refine lv_iconst (v := (-1)) hx hb dL_refuses_128 (by decide) ?_
            refine lv_icmp_ne (tgt := 375) hx hb dL_refuses_129 (by decide) (fun c77 => ?_) (fun c77 => ?_)
            · have h := (k_iB h).2 c77
              exact (t_L_refuses_375 hx hb hml hown hts hK hA fin hz)   t76 _ _ hP hD hS _ (lv_sub hl [0, 1] rfl) h
            · have h := (k_iB h).1 c77
              refine lv_aload_n hx hb dL_refuses_132 rfl (lv_at hl 0 rfl) ?_
              refine lv_iconst (v := 4) hx hb dL_refuses_133 (by decide) ?_
              refine lv_iload_n hx hb dL_refuses_134 rfl (lv_at hl 1 rfl) ?_
              refine lv_iadd hx hb dL_refuses_135 ?_
              refine lv_iconst (v := 0) hx hb dL_refuses_136 (by decide) ?_
              obtain ⟨r78, t80, hu79, h⟩ := ob2_el h
              refine kbi (ci := 5) (q := (RX5, TX5, 8)) (bs := [tdW cI cC cE a t76]) (cs := [tdW cI cC cE a t76]) (cs' := [tdW cI cC cE a t80]) (bs1 := [tdW cI cC cE a t80]) ⟨hx, hb, hml, hown, hts⟩ [0] [] (cq_set l D cI cC cE a _ t76 (4 + p1) 0 r78 t80 hu79) (cwV 2 hts gL_refuses_X5_set rfl rfl rfl (by decide +kernel) ⟨Nat.le_of_ble_eq_true rfl, Nat.le_of_ble_eq_true rfl⟩) hK hP hD hS hA rfl rfl rfl rfl rfl rfl rfl rfl rfl hl.1 rfl (Nat.le_of_ble_eq_true rfl) dL_refuses_137 ⟨Nat.le_refl 0, Nat.le_refl 0⟩ (fun H locs hP hD hS => ?_)
              refine lv_iconst (v := (-1)) hx hb dL_refuses_140 (by decide) ?_
              refine lv_icmp_ne (tgt := 375) hx hb dL_refuses_141 (by decide) (fun c81 => ?_) (fun c81 => ?_)
              · have h := (k_iB h).2 c81
                exact (t_L_refuses_375 hx hb hml hown hts hK hA fin hz)   t80 _ _ hP hD hS _ (lv_sub hl [0, 1] rfl) h
              · have h := (k_iB h).1 c81
                refine lv_aload_n hx hb dL_refuses_144 rfl (lv_at hl 0 rfl) ?_
                refine lv_iconst (v := 0) hx hb dL_refuses_145 (by decide) ?_
                refine lv_bipush (v := 10) hx hb dL_refuses_146 (by decide) ?_
                refine lv_iload_n hx hb dL_refuses_148 rfl (lv_at hl 1 rfl) ?_
                refine lv_iadd hx hb dL_refuses_149 ?_
                obtain ⟨r82, t84, hu83, h⟩ := ob2_el h
                refine kbi (ci := 5) (q := (RX5, TX5, 8)) (bs := [tdW cI cC cE a t80]) (cs := [tdW cI cC cE a t80]) (cs' := [tdW cI cC cE a t84]) (bs1 := [tdW cI cC cE a t84]) ⟨hx, hb, hml, hown, hts⟩ [0] [] (cq_set l D cI cC cE a _ t80 0 (10 + p1) r82 t84 hu83) (cwV 2 hts gL_refuses_X5_set rfl rfl rfl (by decide +kernel) ⟨Nat.le_of_ble_eq_true rfl, Nat.le_of_ble_eq_true rfl⟩) hK hP hD hS hA rfl rfl rfl rfl rfl rfl rfl rfl rfl hl.1 rfl (Nat.le_of_ble_eq_true rfl) dL_refuses_150 ⟨Nat.le_refl 0, Nat.le_refl 0⟩ (fun H locs hP hD hS => ?_)
                refine lv_bipush (v := (-2)) hx hb dL_refuses_153 (by decide) ?_
                refine lv_icmp_ne (tgt := 375) hx hb dL_refuses_155 (by decide) (fun c85 => ?_) (fun c85 => ?_)
                · have h := (k_iB h).2 c85
                  exact (t_L_refuses_375 hx hb hml hown hts hK hA fin hz)   t84 _ _ hP hD hS _ (lv_sub hl [0, 1] rfl) h
                · have h := (k_iB h).1 c85
                  refine lv_aload_n hx hb dL_refuses_158 rfl (lv_at hl 0 rfl) ?_
                  refine lv_iconst (v := 2) hx hb dL_refuses_159 (by decide) ?_
                  refine lv_iconst (v := 0) hx hb dL_refuses_160 (by decide) ?_
                  obtain ⟨r86, t88, hu87, h⟩ := ob2_el h
                  refine kbi (ci := 5) (q := (RX5, TX5, 8)) (bs := [tdW cI cC cE a t84]) (cs := [tdW cI cC cE a t84]) (cs' := [tdW cI cC cE a t88]) (bs1 := [tdW cI cC cE a t88]) ⟨hx, hb, hml, hown, hts⟩ [0] [] (cq_set l D cI cC cE a _ t84 2 0 r86 t88 hu87) (cwV 2 hts gL_refuses_X5_set rfl rfl rfl (by decide +kernel) ⟨Nat.le_of_ble_eq_true rfl, Nat.le_of_ble_eq_true rfl⟩) hK hP hD hS hA rfl rfl rfl rfl rfl rfl rfl rfl rfl hl.1 rfl (Nat.le_of_ble_eq_true rfl) dL_refuses_161 ⟨Nat.le_refl 0, Nat.le_refl 0⟩ (fun H locs hP hD hS => ?_)
                  refine lv_bipush (v := (-2)) hx hb dL_refuses_164 (by decide) ?_
                  refine lv_icmp_ne (tgt := 375) hx hb dL_refuses_166 (by decide) (fun c89 => ?_) (fun c89 => ?_)
                  · have h := (k_iB h).2 c89
                    exact (t_L_refuses_375 hx hb hml hown hts hK hA fin hz)   t88 _ _ hP hD hS _ (lv_sub hl [0, 1] rfl) h
                  · have h := (k_iB h).1 c89
                    refine lv_aload_n hx hb dL_refuses_169 rfl (lv_at hl 0 rfl) ?_
                    refine lv_iconst (v := 1) hx hb dL_refuses_170 (by decide) ?_
                    refine lv_aload_n hx hb dL_refuses_171 rfl (lv_at hl 0 rfl) ?_
                    refine lv_bipush (v := 15) hx hb dL_refuses_172 (by decide) ?_
                    obtain ⟨r90, hu91, h⟩ := ob1_el h
                    refine kbi (ci := 5) (q := (RX5, TX5, 8)) (bs := [tdW cI cC cE a t88]) (cs := [tdW cI cC cE a t88]) (cs' := [tdW cI cC cE a t88]) (bs1 := [tdW cI cC cE a t88]) ⟨hx, hb, hml, hown, hts⟩ [0] [] (cq_count l D cI cC cE a _ t88 15 r90 hu91) (cwV 1 hts gL_refuses_X5_count rfl rfl rfl (by decide +kernel) ⟨Nat.le_of_ble_eq_true rfl, Nat.le_of_ble_eq_true rfl⟩) hK hP hD hS hA rfl rfl rfl rfl rfl rfl rfl rfl rfl hl.1 rfl (Nat.le_of_ble_eq_true rfl) dL_refuses_174 ⟨Nat.le_refl 0, Nat.le_refl 0⟩ (fun H locs hP hD hS => ?_)
                    obtain ⟨r92, t94, hu93, h⟩ := ob2_el h
                    refine kbi (ci := 5) (q := (RX5, TX5, 8)) (bs := [tdW cI cC cE a t88]) (cs := [tdW cI cC cE a t88]) (cs' := [tdW cI cC cE a t94]) (bs1 := [tdW cI cC cE a t94]) ⟨hx, hb, hml, hown, hts⟩ [0] [] (cq_set l D cI cC cE a _ t88 1 r90 r92 t94 hu93) (cwV 2 hts gL_refuses_X5_set rfl rfl rfl (by decide +kernel) ⟨Nat.le_of_ble_eq_true rfl, Nat.le_of_ble_eq_true rfl⟩) hK hP hD hS hA rfl rfl rfl rfl rfl rfl rfl rfl rfl hl.1 rfl (Nat.le_of_ble_eq_true rfl) dL_refuses_177 ⟨Nat.le_refl 0, Nat.le_refl 0⟩ (fun H locs hP hD hS => ?_)
                    refine lv_bipush (v := (-5)) hx hb dL_refuses_180 (by decide) ?_
                    refine lv_icmp_ne (tgt := 375) hx hb dL_refuses_182 (by decide) (fun c95 => ?_) (fun c95 => ?_)
                    · have h := (k_iB h).2 c95
                      exact (t_L_refuses_375 hx hb hml hown hts hK hA fin hz)   t94 _ _ hP hD hS _ (lv_sub hl [0, 1] rfl) h
                    · have h := (k_iB h).1 c95
                      refine lv_aload_n hx hb dL_refuses_185 rfl (lv_at hl 0 rfl) ?_
                      refine lv_iconst (v := 0) hx hb dL_refuses_186 (by decide) ?_
                      obtain ⟨r96, t98, hu97, h⟩ := ob2_el h
                      refine kbi (ci := 5) (q := (RX5, TX5, 8)) (bs := [tdW cI cC cE a t94]) (cs := [tdW cI cC cE a t94]) (cs' := [tdW cI cC cE a t98]) (bs1 := [tdW cI cC cE a t98]) ⟨hx, hb, hml, hown, hts⟩ [0] [] (cq_pass l D cI cC cE a _ t94 0 r96 t98 hu97) (cwV 1 hts gL_refuses_X5_pass rfl rfl rfl (by decide +kernel) ⟨Nat.le_of_ble_eq_true rfl, Nat.le_of_ble_eq_true rfl⟩) hK hP hD hS hA rfl rfl rfl rfl rfl rfl rfl rfl rfl hl.1 rfl (Nat.le_of_ble_eq_true rfl) dL_refuses_187 ⟨Nat.le_refl 0, Nat.le_refl 0⟩ (fun H locs hP hD hS => ?_)
                      refine lv_bipush (v := (-2)) hx hb dL_refuses_190 (by decide) ?_
                      refine lv_icmp_ne (tgt := 375) hx hb dL_refuses_192 (by decide) (fun c99 => ?_) (fun c99 => ?_)
                      · have h := (k_iB h).2 c99
                        exact (t_L_refuses_375 hx hb hml hown hts hK hA fin hz)   t98 _ _ hP hD hS _ (lv_sub hl [0, 1] rfl) h
                      · have h := (k_iB h).1 c99
                        refine lv_aload_n hx hb dL_refuses_195 rfl (lv_at hl 0 rfl) ?_
                        refine lv_bipush (v := 100) hx hb dL_refuses_196 (by decide) ?_
                        refine lv_iload_n hx hb dL_refuses_198 rfl (lv_at hl 1 rfl) ?_
                        refine lv_iadd hx hb dL_refuses_199 ?_
                        obtain ⟨r100, t102, hu101, h⟩ := ob2_el h
                        refine kbi (ci := 5) (q := (RX5, TX5, 8)) (bs := [tdW cI cC cE a t98]) (cs := [tdW cI cC cE a t98]) (cs' := [tdW cI cC cE a t102]) (bs1 := [tdW cI cC cE a t102]) ⟨hx, hb, hml, hown, hts⟩ [0] [] (cq_pass l D cI cC cE a _ t98 (100 + p1) r100 t102 hu101) (cwV 1 hts gL_refuses_X5_pass rfl rfl rfl (by decide +kernel) ⟨Nat.le_of_ble_eq_true rfl, Nat.le_of_ble_eq_true rfl⟩) hK hP hD hS hA rfl rfl rfl rfl rfl rfl rfl rfl rfl hl.1 rfl (Nat.le_of_ble_eq_true rfl) dL_refuses_200 ⟨Nat.le_refl 0, Nat.le_refl 0⟩ (fun H locs hP hD hS => ?_)
                        refine lv_bipush (v := (-2)) hx hb dL_refuses_203 (by decide) ?_
                        refine lv_icmp_ne (tgt := 375) hx hb dL_refuses_205 (by decide) (fun c103 => ?_) (fun c103 => ?_)
                        · have h := (k_iB h).2 c103
                          exact (t_L_refuses_375 hx hb hml hown hts hK hA fin hz)   t102 _ _ hP hD hS _ (lv_sub hl [0, 1] rfl) h
                        · have h := (k_iB h).1 c103
                          refine lv_aload_n hx hb dL_refuses_208 rfl (lv_at hl 0 rfl) ?_
                          refine lv_iconst (v := 2) hx hb dL_refuses_209 (by decide) ?_
                          refine lv_iload_n hx hb dL_refuses_210 rfl (lv_at hl 1 rfl) ?_
                          refine lv_iadd hx hb dL_refuses_211 ?_
                          obtain ⟨r104, hu105, h⟩ := ob1_el h
                          refine kbi (ci := 5) (q := (RX5, TX5, 8)) (bs := [tdW cI cC cE a t102]) (cs := [tdW cI cC cE a t102]) (cs' := [tdW cI cC cE a t102]) (bs1 := [tdW cI cC cE a t102]) ⟨hx, hb, hml, hown, hts⟩ [0] [] (cq_stopped l D cI cC cE a _ t102 (2 + p1) r104 hu105) (cwV 1 hts gL_refuses_X5_stopped rfl rfl rfl (by decide +kernel) ⟨Nat.le_of_ble_eq_true rfl, Nat.le_of_ble_eq_true rfl⟩) hK hP hD hS hA rfl rfl rfl rfl rfl rfl rfl rfl rfl hl.1 rfl (Nat.le_of_ble_eq_true rfl) dL_refuses_212 ⟨Nat.le_refl 0, Nat.le_refl 0⟩ (fun H locs hP hD hS => ?_)
                          refine lv_bipush (v := (-2)) hx hb dL_refuses_215 (by decide) ?_
                          refine lv_icmp_ne (tgt := 375) hx hb dL_refuses_217 (by decide) (fun c106 => ?_) (fun c106 => ?_)
                          · have h := (k_iB h).2 c106
                            exact (t_L_refuses_375 hx hb hml hown hts hK hA fin hz)   t102 _ _ hP hD hS _ (lv_sub hl [0, 1] rfl) h
                          · have h := (k_iB h).1 c106
                            refine lv_aload_n hx hb dL_refuses_220 rfl (lv_at hl 0 rfl) ?_
                            refine lv_iload_n hx hb dL_refuses_221 rfl (lv_at hl 2 rfl) ?_
                            refine lv_iconst (v := 0) hx hb dL_refuses_222 (by decide) ?_
                            obtain ⟨r107, hu108, h⟩ := ob1_el h
                            refine kbi (ci := 5) (q := (RX5, TX5, 8)) (bs := [tdW cI cC cE a t102]) (cs := [tdW cI cC cE a t102]) (cs' := [tdW cI cC cE a t102]) (bs1 := [tdW cI cC cE a t102]) ⟨hx, hb, hml, hown, hts⟩ [0] [] (cq_trader l D cI cC cE a _ t102 x2 0 r107 hu108) (cwV 2 hts gL_refuses_X5_trader rfl rfl rfl (by decide +kernel) ⟨Nat.le_of_ble_eq_true rfl, Nat.le_of_ble_eq_true rfl⟩) hK hP hD hS hA rfl rfl rfl rfl rfl rfl rfl rfl rfl hl.1 rfl (Nat.le_of_ble_eq_true rfl) dL_refuses_223 ⟨Nat.le_refl 0, Nat.le_refl 0⟩ (fun H locs hP hD hS => ?_)
                            refine lv_iconst (v := (-1)) hx hb dL_refuses_226 (by decide) ?_
                            refine lv_icmp_ne (tgt := 375) hx hb dL_refuses_227 (by decide) (fun c109 => ?_) (fun c109 => ?_)
                            · have h := (k_iB h).2 c109
                              exact (t_L_refuses_375 hx hb hml hown hts hK hA fin hz)   t102 _ _ hP hD hS _ (lv_sub hl [0, 1] rfl) h
                            · have h := (k_iB h).1 c109
                              refine lv_aload_n hx hb dL_refuses_230 rfl (lv_at hl 0 rfl) ?_
                              refine lv_iconst (v := 0) hx hb dL_refuses_231 (by decide) ?_
                              refine lv_bipush (v := 8) hx hb dL_refuses_232 (by decide) ?_
                              refine lv_iload_n hx hb dL_refuses_234 rfl (lv_at hl 1 rfl) ?_
                              refine lv_iadd hx hb dL_refuses_235 ?_
                              obtain ⟨r110, hu111, h⟩ := ob1_el h
                              refine kbi (ci := 5) (q := (RX5, TX5, 8)) (bs := [tdW cI cC cE a t102]) (cs := [tdW cI cC cE a t102]) (cs' := [tdW cI cC cE a t102]) (bs1 := [tdW cI cC cE a t102]) ⟨hx, hb, hml, hown, hts⟩ [0] [] (cq_trader l D cI cC cE a _ t102 0 (8 + p1) r110 hu111) (cwV 2 hts gL_refuses_X5_trader rfl rfl rfl (by decide +kernel) ⟨Nat.le_of_ble_eq_true rfl, Nat.le_of_ble_eq_true rfl⟩) hK hP hD hS hA rfl rfl rfl rfl rfl rfl rfl rfl rfl hl.1 rfl (Nat.le_of_ble_eq_true rfl) dL_refuses_236 ⟨Nat.le_refl 0, Nat.le_refl 0⟩ (fun H locs hP hD hS => ?_)
                              refine lv_bipush (v := (-2)) hx hb dL_refuses_239 (by decide) ?_
                              refine lv_icmp_ne (tgt := 375) hx hb dL_refuses_241 (by decide) (fun c112 => ?_) (fun c112 => ?_)
                              · have h := (k_iB h).2 c112
                                exact (t_L_refuses_375 hx hb hml hown hts hK hA fin hz)   t102 _ _ hP hD hS _ (lv_sub hl [0, 1] rfl) h
                              · have h := (k_iB h).1 c112
                                refine lv_aload_n hx hb dL_refuses_244 rfl (lv_at hl 0 rfl) ?_
                                refine lv_iload_n hx hb dL_refuses_245 rfl (lv_at hl 3 rfl) ?_
                                refine lv_iconst (v := 0) hx hb dL_refuses_246 (by decide) ?_
                                obtain ⟨r113, hu114, h⟩ := ob1_el h
                                refine kbi (ci := 5) (q := (RX5, TX5, 8)) (bs := [tdW cI cC cE a t102]) (cs := [tdW cI cC cE a t102]) (cs' := [tdW cI cC cE a t102]) (bs1 := [tdW cI cC cE a t102]) ⟨hx, hb, hml, hown, hts⟩ [0] [] (cq_riddle l D cI cC cE a _ t102 x3 0 r113 hu114) (cwV 2 hts gL_refuses_X5_riddle rfl rfl rfl (by decide +kernel) ⟨Nat.le_of_ble_eq_true rfl, Nat.le_of_ble_eq_true rfl⟩) hK hP hD hS hA rfl rfl rfl rfl rfl rfl rfl rfl rfl hl.1 rfl (Nat.le_of_ble_eq_true rfl) dL_refuses_247 ⟨Nat.le_refl 0, Nat.le_refl 0⟩ (fun H locs hP hD hS => ?_)
                                refine lv_iconst (v := (-1)) hx hb dL_refuses_250 (by decide) ?_
                                refine lv_icmp_ne (tgt := 375) hx hb dL_refuses_251 (by decide) (fun c115 => ?_) (fun c115 => ?_)
                                · have h := (k_iB h).2 c115
                                  exact (t_L_refuses_375 hx hb hml hown hts hK hA fin hz)   t102 _ _ hP hD hS _ (lv_sub hl [0, 1] rfl) h
                                · have h := (k_iB h).1 c115
                                  refine lv_aload_n hx hb dL_refuses_254 rfl (lv_at hl 0 rfl) ?_
                                  refine lv_iload hx hb dL_refuses_255 (lv_at hl 4 rfl) ?_
                                  refine lv_iconst (v := 0) hx hb dL_refuses_257 (by decide) ?_
                                  obtain ⟨r116, hu117, h⟩ := ob1_el h
                                  refine kbi (ci := 5) (q := (RX5, TX5, 8)) (bs := [tdW cI cC cE a t102]) (cs := [tdW cI cC cE a t102]) (cs' := [tdW cI cC cE a t102]) (bs1 := [tdW cI cC cE a t102]) ⟨hx, hb, hml, hown, hts⟩ [0] [] (cq_answer l D cI cC cE a _ t102 x4 0 r116 hu117) (cwV 2 hts gL_refuses_X5_answer rfl rfl rfl (by decide +kernel) ⟨Nat.le_of_ble_eq_true rfl, Nat.le_of_ble_eq_true rfl⟩) hK hP hD hS hA rfl rfl rfl rfl rfl rfl rfl rfl rfl hl.1 rfl (Nat.le_of_ble_eq_true rfl) dL_refuses_258 ⟨Nat.le_refl 0, Nat.le_refl 0⟩ (fun H locs hP hD hS => ?_)
                                  refine lv_iconst (v := (-1)) hx hb dL_refuses_261 (by decide) ?_
                                  refine lv_icmp_ne (tgt := 375) hx hb dL_refuses_262 (by decide) (fun c118 => ?_) (fun c118 => ?_)
                                  · have h := (k_iB h).2 c118
                                    exact (t_L_refuses_375 hx hb hml hown hts hK hA fin hz)   t102 _ _ hP hD hS _ (lv_sub hl [0, 1] rfl) h
                                  · have h := (k_iB h).1 c118
                                    refine lv_aload_n hx hb dL_refuses_265 rfl (lv_at hl 0 rfl) ?_
                                    refine lv_iconst (v := (-1)) hx hb dL_refuses_266 (by decide) ?_
                                    refine lv_iload_n hx hb dL_refuses_267 rfl (lv_at hl 1 rfl) ?_
                                    refine lv_isub hx hb dL_refuses_268 ?_
                                    obtain ⟨r119, hu120, h⟩ := ob1_el h
                                    refine kbi (ci := 5) (q := (RX5, TX5, 8)) (bs := [tdW cI cC cE a t102]) (cs := [tdW cI cC cE a t102]) (cs' := [tdW cI cC cE a t102]) (bs1 := [tdW cI cC cE a t102]) ⟨hx, hb, hml, hown, hts⟩ [0] [] (cq_waits l D cI cC cE a _ t102 ((-1) - p1) r119 hu120) (cwV 1 hts gL_refuses_X5_waits rfl rfl rfl (by decide +kernel) ⟨Nat.le_of_ble_eq_true rfl, Nat.le_of_ble_eq_true rfl⟩) hK hP hD hS hA rfl rfl rfl rfl rfl rfl rfl rfl rfl hl.1 rfl (Nat.le_of_ble_eq_true rfl) dL_refuses_269 ⟨Nat.le_refl 0, Nat.le_refl 0⟩ (fun H locs hP hD hS => ?_)
                                    refine lv_bipush (v := (-2)) hx hb dL_refuses_272 (by decide) ?_
                                    refine lv_icmp_ne (tgt := 375) hx hb dL_refuses_274 (by decide) (fun c121 => ?_) (fun c121 => ?_)
                                    · have h := (k_iB h).2 c121
                                      exact (t_L_refuses_375 hx hb hml hown hts hK hA fin hz)   t102 _ _ hP hD hS _ (lv_sub hl [0, 1] rfl) h
                                    · have h := (k_iB h).1 c121
                                      refine lv_aload_n hx hb dL_refuses_277 rfl (lv_at hl 0 rfl) ?_
                                      refine lv_iconst (v := 2) hx hb dL_refuses_278 (by decide) ?_
                                      refine lv_iload_n hx hb dL_refuses_279 rfl (lv_at hl 1 rfl) ?_
                                      refine lv_iadd hx hb dL_refuses_280 ?_
                                      refine lv_iconst (v := 1) hx hb dL_refuses_281 (by decide) ?_
                                      obtain ⟨r122, hu123, h⟩ := ob1_el h
                                      refine kbi (ci := 5) (q := (RX5, TX5, 8)) (bs := [tdW cI cC cE a t102]) (cs := [tdW cI cC cE a t102]) (cs' := [tdW cI cC cE a t102]) (bs1 := [tdW cI cC cE a t102]) ⟨hx, hb, hml, hown, hts⟩ [0] [] (cq_weigh l D cI cC cE a _ t102 (2 + p1) 1 r122 hu123) (cwV 2 hts gL_refuses_X5_weigh rfl rfl rfl (by decide +kernel) ⟨Nat.le_of_ble_eq_true rfl, Nat.le_of_ble_eq_true rfl⟩) hK hP hD hS hA rfl rfl rfl rfl rfl rfl rfl rfl rfl hl.1 rfl (Nat.le_of_ble_eq_true rfl) dL_refuses_282 ⟨Nat.le_refl 0, Nat.le_refl 0⟩ (fun H locs hP hD hS => ?_)
                                      refine lv_iconst (v := (-1)) hx hb dL_refuses_285 (by decide) ?_
                                      refine lv_icmp_ne (tgt := 375) hx hb dL_refuses_286 (by decide) (fun c124 => ?_) (fun c124 => ?_)
                                      · have h := (k_iB h).2 c124
                                        exact (t_L_refuses_375 hx hb hml hown hts hK hA fin hz)   t102 _ _ hP hD hS _ (lv_sub hl [0, 1] rfl) h
                                      · have h := (k_iB h).1 c124
                                        refine lv_aload_n hx hb dL_refuses_289 rfl (lv_at hl 0 rfl) ?_
                                        refine lv_iconst (v := 0) hx hb dL_refuses_290 (by decide) ?_
                                        refine lv_bipush (v := 100) hx hb dL_refuses_291 (by decide) ?_
                                        refine lv_iload_n hx hb dL_refuses_293 rfl (lv_at hl 1 rfl) ?_
                                        refine lv_iadd hx hb dL_refuses_294 ?_
                                        obtain ⟨r125, hu126, h⟩ := ob1_el h
                                        refine kbi (ci := 5) (q := (RX5, TX5, 8)) (bs := [tdW cI cC cE a t102]) (cs := [tdW cI cC cE a t102]) (cs' := [tdW cI cC cE a t102]) (bs1 := [tdW cI cC cE a t102]) ⟨hx, hb, hml, hown, hts⟩ [0] [] (cq_weigh l D cI cC cE a _ t102 0 (100 + p1) r125 hu126) (cwV 2 hts gL_refuses_X5_weigh rfl rfl rfl (by decide +kernel) ⟨Nat.le_of_ble_eq_true rfl, Nat.le_of_ble_eq_true rfl⟩) hK hP hD hS hA rfl rfl rfl rfl rfl rfl rfl rfl rfl hl.1 rfl (Nat.le_of_ble_eq_true rfl) dL_refuses_295 ⟨Nat.le_refl 0, Nat.le_refl 0⟩ (fun H locs hP hD hS => ?_)
                                        refine lv_bipush (v := (-2)) hx hb dL_refuses_298 (by decide) ?_
                                        refine lv_icmp_ne (tgt := 375) hx hb dL_refuses_300 (by decide) (fun c127 => ?_) (fun c127 => ?_)
                                        · have h := (k_iB h).2 c127
                                          exact (t_L_refuses_375 hx hb hml hown hts hK hA fin hz)   t102 _ _ hP hD hS _ (lv_sub hl [0, 1] rfl) h
                                        · have h := (k_iB h).1 c127
                                          refine lv_aload_n hx hb dL_refuses_303 rfl (lv_at hl 0 rfl) ?_
                                          refine lv_iload hx hb dL_refuses_304 (lv_at hl 4 rfl) ?_
                                          obtain ⟨r128, hu129, h⟩ := ob1_el h
                                          refine kbi (ci := 5) (q := (RX5, TX5, 8)) (bs := [tdW cI cC cE a t102]) (cs := [tdW cI cC cE a t102]) (cs' := [tdW cI cC cE a t102]) (bs1 := [tdW cI cC cE a t102]) ⟨hx, hb, hml, hown, hts⟩ [0] [] (cq_reason l D cI cC cE a _ t102 x4 r128 hu129) (cwV 1 hts gL_refuses_X5_reason rfl rfl rfl (by decide +kernel) ⟨Nat.le_of_ble_eq_true rfl, Nat.le_of_ble_eq_true rfl⟩) hK hP hD hS hA rfl rfl rfl rfl rfl rfl rfl rfl rfl hl.1 rfl (Nat.le_of_ble_eq_true rfl) dL_refuses_306 ⟨Nat.le_refl 0, Nat.le_refl 0⟩ (fun H locs hP hD hS => ?_)
                                          refine lv_iconst (v := (-1)) hx hb dL_refuses_309 (by decide) ?_
                                          refine lv_icmp_ne (tgt := 375) hx hb dL_refuses_310 (by decide) (fun c130 => ?_) (fun c130 => ?_)
                                          · have h := (k_iB h).2 c130
                                            exact (t_L_refuses_375 hx hb hml hown hts hK hA fin hz)   t102 _ _ hP hD hS _ (lv_sub hl [0, 1] rfl) h
                                          · have h := (k_iB h).1 c130
                                            refine lv_aload_n hx hb dL_refuses_313 rfl (lv_at hl 0 rfl) ?_
                                            refine lv_iload hx hb dL_refuses_314 (lv_at hl 4 rfl) ?_
                                            obtain ⟨r131, t133, hu132, h⟩ := ob2_el h
                                            refine kbi (ci := 5) (q := (RX5, TX5, 8)) (bs := [tdW cI cC cE a t102]) (cs := [tdW cI cC cE a t102]) (cs' := [tdW cI cC cE a t133]) (bs1 := [tdW cI cC cE a t133]) ⟨hx, hb, hml, hown, hts⟩ [0] [] (cq_settledIn l D cI cC cE a _ t102 x4 r131 t133 hu132) (cwV 1 hts gL_refuses_X5_settledIn rfl rfl rfl (by decide +kernel) ⟨Nat.le_of_ble_eq_true rfl, Nat.le_of_ble_eq_true rfl⟩) hK hP hD hS hA rfl rfl rfl rfl rfl rfl rfl rfl rfl hl.1 rfl (Nat.le_of_ble_eq_true rfl) dL_refuses_316 ⟨Nat.le_refl 0, Nat.le_refl 0⟩ (fun H locs hP hD hS => ?_)
                                            refine lv_iconst (v := (-1)) hx hb dL_refuses_319 (by decide) ?_
                                            refine lv_icmp_ne (tgt := 375) hx hb dL_refuses_320 (by decide) (fun c134 => ?_) (fun c134 => ?_)
                                            · have h := (k_iB h).2 c134
                                              exact (t_L_refuses_375 hx hb hml hown hts hK hA fin hz)   t133 _ _ hP hD hS _ (lv_sub hl [0, 1] rfl) h
                                            · have h := (k_iB h).1 c134
                                              refine lv_aload_n hx hb dL_refuses_323 rfl (lv_at hl 0 rfl) ?_
                                              refine lv_bipush (v := 100) hx hb dL_refuses_324 (by decide) ?_
                                              refine lv_iload_n hx hb dL_refuses_326 rfl (lv_at hl 1 rfl) ?_
                                              refine lv_iadd hx hb dL_refuses_327 ?_
                                              refine lv_iconst (v := 1) hx hb dL_refuses_328 (by decide) ?_
                                              obtain ⟨r135, t137, hu136, h⟩ := ob2_el h
                                              refine kbi (ci := 5) (q := (RX5, TX5, 8)) (bs := [tdW cI cC cE a t133]) (cs := [tdW cI cC cE a t133]) (cs' := [tdW cI cC cE a t137]) (bs1 := [tdW cI cC cE a t137]) ⟨hx, hb, hml, hown, hts⟩ [0] [] (cq_ifRounds l D cI cC cE a _ t133 (100 + p1) 1 r135 t137 hu136) (cwV 2 hts gL_refuses_X5_ifRounds rfl rfl rfl (by decide +kernel) ⟨Nat.le_of_ble_eq_true rfl, Nat.le_of_ble_eq_true rfl⟩) hK hP hD hS hA rfl rfl rfl rfl rfl rfl rfl rfl rfl hl.1 rfl (Nat.le_of_ble_eq_true rfl) dL_refuses_329 ⟨Nat.le_refl 0, Nat.le_refl 0⟩ (fun H locs hP hD hS => ?_)
                                              refine lv_bipush (v := (-2)) hx hb dL_refuses_332 (by decide) ?_
                                              refine lv_icmp_ne (tgt := 375) hx hb dL_refuses_334 (by decide) (fun c138 => ?_) (fun c138 => ?_)
                                              · have h := (k_iB h).2 c138
                                                exact (t_L_refuses_375 hx hb hml hown hts hK hA fin hz)   t137 _ _ hP hD hS _ (lv_sub hl [0, 1] rfl) h
                                              · have h := (k_iB h).1 c138
                                                refine lv_aload_n hx hb dL_refuses_337 rfl (lv_at hl 0 rfl) ?_
                                                refine lv_iload_n hx hb dL_refuses_338 rfl (lv_at hl 2 rfl) ?_
                                                obtain ⟨r139, hu140, h⟩ := ob1_el h
                                                refine kbi (ci := 5) (q := (RX5, TX5, 8)) (bs := [tdW cI cC cE a t137]) (cs := [tdW cI cC cE a t137]) (cs' := [tdW cI cC cE a t137]) (bs1 := [tdW cI cC cE a t137]) ⟨hx, hb, hml, hown, hts⟩ [0] [] (cq_account l D cI cC cE a _ t137 x2 r139 hu140) (cwV 1 hts gL_refuses_X5_account rfl rfl rfl (by decide +kernel) ⟨Nat.le_of_ble_eq_true rfl, Nat.le_of_ble_eq_true rfl⟩) hK hP hD hS hA rfl rfl rfl rfl rfl rfl rfl rfl rfl hl.1 rfl (Nat.le_of_ble_eq_true rfl) dL_refuses_339 ⟨Nat.le_refl 0, Nat.le_refl 0⟩ (fun H locs hP hD hS => ?_)
                                                refine lv_iconst (v := (-1)) hx hb dL_refuses_342 (by decide) ?_
                                                refine lv_icmp_ne (tgt := 375) hx hb dL_refuses_343 (by decide) (fun c141 => ?_) (fun c141 => ?_)
                                                · have h := (k_iB h).2 c141
                                                  exact (t_L_refuses_375 hx hb hml hown hts hK hA fin hz)   t137 _ _ hP hD hS _ (lv_sub hl [0, 1] rfl) h
                                                · have h := (k_iB h).1 c141
                                                  refine lv_aload_n hx hb dL_refuses_346 rfl (lv_at hl 0 rfl) ?_
                                                  refine lv_bipush (v := 20) hx hb dL_refuses_347 (by decide) ?_
                                                  refine lv_iload_n hx hb dL_refuses_349 rfl (lv_at hl 1 rfl) ?_
                                                  refine lv_iadd hx hb dL_refuses_350 ?_
                                                  obtain ⟨r142, hu143, h⟩ := ob1_el h
                                                  refine kbi (ci := 5) (q := (RX5, TX5, 8)) (bs := [tdW cI cC cE a t137]) (cs := [tdW cI cC cE a t137]) (cs' := [tdW cI cC cE a t137]) (bs1 := [tdW cI cC cE a t137]) ⟨hx, hb, hml, hown, hts⟩ [0] [] (cq_count l D cI cC cE a _ t137 (20 + p1) r142 hu143) (cwV 1 hts gL_refuses_X5_count rfl rfl rfl (by decide +kernel) ⟨Nat.le_of_ble_eq_true rfl, Nat.le_of_ble_eq_true rfl⟩) hK hP hD hS hA rfl rfl rfl rfl rfl rfl rfl rfl rfl hl.1 rfl (Nat.le_of_ble_eq_true rfl) dL_refuses_351 ⟨Nat.le_refl 0, Nat.le_refl 0⟩ (fun H locs hP hD hS => ?_)
                                                  refine lv_bipush (v := (-2)) hx hb dL_refuses_354 (by decide) ?_
                                                  refine lv_icmp_ne (tgt := 375) hx hb dL_refuses_356 (by decide) (fun c144 => ?_) (fun c144 => ?_)
                                                  · have h := (k_iB h).2 c144
                                                    exact (t_L_refuses_375 hx hb hml hown hts hK hA fin hz)   t137 _ _ hP hD hS _ (lv_sub hl [0, 1] rfl) h
                                                  · have h := (k_iB h).1 c144
                                                    refine lv_aload_n hx hb dL_refuses_359 rfl (lv_at hl 0 rfl) ?_
                                                    refine lv_iconst (v := (-1)) hx hb dL_refuses_360 (by decide) ?_
                                                    refine lv_iload_n hx hb dL_refuses_361 rfl (lv_at hl 1 rfl) ?_
                                                    refine lv_isub hx hb dL_refuses_362 ?_
                                                    obtain ⟨r145, hu146, h⟩ := ob1_el h
                                                    refine kbi (ci := 5) (q := (RX5, TX5, 8)) (bs := [tdW cI cC cE a t137]) (cs := [tdW cI cC cE a t137]) (cs' := [tdW cI cC cE a t137]) (bs1 := [tdW cI cC cE a t137]) ⟨hx, hb, hml, hown, hts⟩ [0] [] (cq_count l D cI cC cE a _ t137 ((-1) - p1) r145 hu146) (cwV 1 hts gL_refuses_X5_count rfl rfl rfl (by decide +kernel) ⟨Nat.le_of_ble_eq_true rfl, Nat.le_of_ble_eq_true rfl⟩) hK hP hD hS hA rfl rfl rfl rfl rfl rfl rfl rfl rfl hl.1 rfl (Nat.le_of_ble_eq_true rfl) dL_refuses_363 ⟨Nat.le_refl 0, Nat.le_refl 0⟩ (fun H locs hP hD hS => ?_)
                                                    refine lv_bipush (v := (-2)) hx hb dL_refuses_366 (by decide) ?_
                                                    refine lv_icmp_ne (tgt := 375) hx hb dL_refuses_368 (by decide) (fun c147 => ?_) (fun c147 => ?_)
                                                    · have h := (k_iB h).2 c147
                                                      exact (t_L_refuses_375 hx hb hml hown hts hK hA fin hz)   t137 _ _ hP hD hS _ (lv_sub hl [0, 1] rfl) h
                                                    · have h := (k_iB h).1 c147
                                                      refine lv_iconst (v := 1) hx hb dL_refuses_371 (by decide) ?_
                                                      refine lv_goto (tgt := 376) hx hb dL_refuses_372 (by decide) ?_
                                                      refine lv_istore (lv' := [(5, .int 1), (0, .ref (a 0)), (1, .int p1), (2, .int x2), (3, .int x3), (4, .int x4)]) hx hb dL_refuses_376 hl (by decide) rfl (fun ls hl => ?_)
                                                      exact (t_L_refuses_378 hx hb hml hown hts hK hA fin hz)   1 t137 _ _ hP hD hS _ (lv_sub hl [1, 2, 0] rfl) h
set_option maxHeartbeats 16000000 in
set_option maxRecDepth 100000 in
theorem t_L_refuses_37 {p : Program} {l : Launch} {e : Env} {s : State} {m : MethodId} {below : List Frame} {meth : Method} {c : Code} {A : Nat → Prop} {Q : State → Prop} {D : va_G} {cI cC cE : ClassId} {a : Nat → Nat} {p1 : Int32} {r0 : Int32} {o_t : Td} (hx : p.tables.exec = Jvm.exec) (hb : c.code = cL_refuses) (hml : c.maxLocals = 7) (hown : s.vm.findClass RL = some m.cls) (hts : ∀ w ∈ wsL_refuses, w.before [.ref (a 0), .int p1].toArray s = true) (hK : va_K D vwCl (kT cI cC cE) s) (hA : ∀ q, s.heap.size ≤ q → A q) (fin : ∀ (pc : Nat) (ls : Array Slot) (H : Heap) (locs : List Loc), (narrow .boolean (.int r0) = .int r0) → decode cL_refuses pc = .ok (.ireturn, 1) → va_P D vwCl (fl [tdW cI cC cE a o_t]) H → va_D A (fl [tdW cI cC cE a o_t]) → va_S A s.heap H locs → W p l e ({ frames := 8, cells := 0, slots := 0, locals := 187 } : Room) s m [.ref (a 0), .int p1].toArray below meth c H locs 0 0 Q (F0 m pc ls [.int r0])) (hz : narrow .boolean (.int r0) = .int r0) : ∀ (x2 : Int32) (x3 : Int32) (t : Td) (H : Heap) (locs : List Loc), va_P D vwCl (fl [tdW cI cC cE a t]) H → va_D A (fl [tdW cI cC cE a t]) → va_S A s.heap H locs → ∀ (ls : Array Slot), lv_has ls 7 [(0, .ref (a 0)), (1, .int p1), (2, .int x2), (3, .int x3)] → j_L_refuses_37  p1 x2 x3 t = some (r0, o_t) → W p l e ({ frames := 8, cells := 0, slots := 0, locals := 187 } : Room) s m [.ref (a 0), .int p1].toArray below meth c H locs 0 0 Q (F0 m 37 ls []) := by
  intro x2 x3 t H locs hP hD hS ls hl h
  dsimp only [j_L_refuses_37] at h
  refine lv_iload_n hx hb dL_refuses_37 rfl (lv_at hl 1 rfl) ?_
  refine lv_iconst (v := 2) hx hb dL_refuses_38 (by decide) ?_
  refine lv_irem hx hb dL_refuses_39 (by decide) ?_
  refine lv_if_ne (tgt := 53) hx hb dL_refuses_40 (by decide) (fun c3 => ?_) (fun c3 => ?_)
  · have h := (k_iB h).2 c3
    refine lv_iconst (v := (-1)) hx hb dL_refuses_53 (by decide) ?_
    refine lv_iload_n hx hb dL_refuses_54 rfl (lv_at hl 1 rfl) ?_
    refine lv_isub hx hb dL_refuses_55 ?_
    refine lv_istore (lv' := [(4, .int ((-1) - p1)), (0, .ref (a 0)), (1, .int p1), (2, .int x2), (3, .int x3)]) hx hb dL_refuses_56 hl (by decide) rfl (fun ls hl => ?_)
    exact (t_L_refuses_58 hx hb hml hown hts hK hA fin hz)   x2 x3 ((-1) - p1) t _ _ hP hD hS _ (lv_sub hl [1, 2, 3, 4, 0] rfl) h
  · have h := (k_iB h).1 c3
    refine lv_aload_n hx hb dL_refuses_43 rfl (lv_at hl 0 rfl) ?_
    refine lv_iconst (v := 3) hx hb dL_refuses_44 (by decide) ?_
    obtain ⟨r148, hu149, h⟩ := ob1_el h
    refine kbi (ci := 5) (q := (RX5, TX5, 8)) (bs := [tdW cI cC cE a t]) (cs := [tdW cI cC cE a t]) (cs' := [tdW cI cC cE a t]) (bs1 := [tdW cI cC cE a t]) ⟨hx, hb, hml, hown, hts⟩ [0] [] (cq_count l D cI cC cE a _ t 3 r148 hu149) (cwV 1 hts gL_refuses_X5_count rfl rfl rfl (by decide +kernel) ⟨Nat.le_of_ble_eq_true rfl, Nat.le_of_ble_eq_true rfl⟩) hK hP hD hS hA rfl rfl rfl rfl rfl rfl rfl rfl rfl hl.1 rfl (Nat.le_of_ble_eq_true rfl) dL_refuses_45 ⟨Nat.le_refl 0, Nat.le_refl 0⟩ (fun H locs hP hD hS => ?_)
    refine lv_iload_n hx hb dL_refuses_48 rfl (lv_at hl 1 rfl) ?_
    refine lv_iadd hx hb dL_refuses_49 ?_
    refine lv_goto (tgt := 56) hx hb dL_refuses_50 (by decide) ?_
    refine lv_istore (lv' := [(4, .int (r148 + p1)), (0, .ref (a 0)), (1, .int p1), (2, .int x2), (3, .int x3)]) hx hb dL_refuses_56 hl (by decide) rfl (fun ls hl => ?_)
    exact (t_L_refuses_58 hx hb hml hown hts hK hA fin hz)   x2 x3 (r148 + p1) t _ _ hP hD hS _ (lv_sub hl [1, 2, 3, 4, 0] rfl) h
set_option maxHeartbeats 16000000 in
set_option maxRecDepth 100000 in
theorem t_L_refuses_17 {p : Program} {l : Launch} {e : Env} {s : State} {m : MethodId} {below : List Frame} {meth : Method} {c : Code} {A : Nat → Prop} {Q : State → Prop} {D : va_G} {cI cC cE : ClassId} {a : Nat → Nat} {p1 : Int32} {r0 : Int32} {o_t : Td} (hx : p.tables.exec = Jvm.exec) (hb : c.code = cL_refuses) (hml : c.maxLocals = 7) (hown : s.vm.findClass RL = some m.cls) (hts : ∀ w ∈ wsL_refuses, w.before [.ref (a 0), .int p1].toArray s = true) (hK : va_K D vwCl (kT cI cC cE) s) (hA : ∀ q, s.heap.size ≤ q → A q) (fin : ∀ (pc : Nat) (ls : Array Slot) (H : Heap) (locs : List Loc), (narrow .boolean (.int r0) = .int r0) → decode cL_refuses pc = .ok (.ireturn, 1) → va_P D vwCl (fl [tdW cI cC cE a o_t]) H → va_D A (fl [tdW cI cC cE a o_t]) → va_S A s.heap H locs → W p l e ({ frames := 8, cells := 0, slots := 0, locals := 187 } : Room) s m [.ref (a 0), .int p1].toArray below meth c H locs 0 0 Q (F0 m pc ls [.int r0])) (hz : narrow .boolean (.int r0) = .int r0) : ∀ (x2 : Int32) (t : Td) (H : Heap) (locs : List Loc), va_P D vwCl (fl [tdW cI cC cE a t]) H → va_D A (fl [tdW cI cC cE a t]) → va_S A s.heap H locs → ∀ (ls : Array Slot), lv_has ls 7 [(0, .ref (a 0)), (1, .int p1), (2, .int x2)] → j_L_refuses_17  p1 x2 t = some (r0, o_t) → W p l e ({ frames := 8, cells := 0, slots := 0, locals := 187 } : Room) s m [.ref (a 0), .int p1].toArray below meth c H locs 0 0 Q (F0 m 17 ls []) := by
  intro x2 t H locs hP hD hS ls hl h
  dsimp only [j_L_refuses_17] at h
  refine lv_iload_n hx hb dL_refuses_17 rfl (lv_at hl 1 rfl) ?_
  refine lv_iconst (v := 2) hx hb dL_refuses_18 (by decide) ?_
  refine lv_irem hx hb dL_refuses_19 (by decide) ?_
  refine lv_if_ne (tgt := 33) hx hb dL_refuses_20 (by decide) (fun c2 => ?_) (fun c2 => ?_)
  · have h := (k_iB h).2 c2
    refine lv_iconst (v := (-1)) hx hb dL_refuses_33 (by decide) ?_
    refine lv_iload_n hx hb dL_refuses_34 rfl (lv_at hl 1 rfl) ?_
    refine lv_isub hx hb dL_refuses_35 ?_
    refine lv_istore_n (lv' := [(3, .int ((-1) - p1)), (0, .ref (a 0)), (1, .int p1), (2, .int x2)]) hx hb dL_refuses_36 rfl hl (by decide) rfl (fun ls hl => ?_)
    exact (t_L_refuses_37 hx hb hml hown hts hK hA fin hz)   x2 ((-1) - p1) t _ _ hP hD hS _ (lv_sub hl [1, 2, 3, 0] rfl) h
  · have h := (k_iB h).1 c2
    refine lv_aload_n hx hb dL_refuses_23 rfl (lv_at hl 0 rfl) ?_
    refine lv_iconst (v := 1) hx hb dL_refuses_24 (by decide) ?_
    obtain ⟨r150, hu151, h⟩ := ob1_el h
    refine kbi (ci := 5) (q := (RX5, TX5, 8)) (bs := [tdW cI cC cE a t]) (cs := [tdW cI cC cE a t]) (cs' := [tdW cI cC cE a t]) (bs1 := [tdW cI cC cE a t]) ⟨hx, hb, hml, hown, hts⟩ [0] [] (cq_count l D cI cC cE a _ t 1 r150 hu151) (cwV 1 hts gL_refuses_X5_count rfl rfl rfl (by decide +kernel) ⟨Nat.le_of_ble_eq_true rfl, Nat.le_of_ble_eq_true rfl⟩) hK hP hD hS hA rfl rfl rfl rfl rfl rfl rfl rfl rfl hl.1 rfl (Nat.le_of_ble_eq_true rfl) dL_refuses_25 ⟨Nat.le_refl 0, Nat.le_refl 0⟩ (fun H locs hP hD hS => ?_)
    refine lv_iload_n hx hb dL_refuses_28 rfl (lv_at hl 1 rfl) ?_
    refine lv_iadd hx hb dL_refuses_29 ?_
    refine lv_goto (tgt := 36) hx hb dL_refuses_30 (by decide) ?_
    refine lv_istore_n (lv' := [(3, .int (r150 + p1)), (0, .ref (a 0)), (1, .int p1), (2, .int x2)]) hx hb dL_refuses_36 rfl hl (by decide) rfl (fun ls hl => ?_)
    exact (t_L_refuses_37 hx hb hml hown hts hK hA fin hz)   x2 (r150 + p1) t _ _ hP hD hS _ (lv_sub hl [1, 2, 3, 0] rfl) h
set_option maxHeartbeats 16000000 in
set_option maxRecDepth 100000 in
theorem c_L_refuses (l : Launch) (D : va_G) (cI cC cE : ClassId) (a : Nat → Nat) (sz : Nat) (t : Td) (p1 : Int32) (r0 : Int32) (o_t : Td) (h : d_L_refuses p1 t = some (r0, o_t)) (hz : narrow .boolean (.int r0) = .int r0) : Met l yL_refuses wsL_refuses ({ frames := 8, cells := 0, slots := 0, locals := 187 } : Room) (kP D (kT cI cC cE) [.ref (a 0), .int p1] (fl [tdW cI cC cE a t]) sz) (kQi D (kT cI cC cE) (fl [tdW cI cC cE a t]) (fl [tdW cI cC cE a o_t]) sz r0) 0 0 (va_A (fl [tdW cI cC cE a t]) sz) := by
  refine kMetZ (cc := cL_refuses) (maxL := 7) (own := RL) (by decide) rfl (Nat.le_of_ble_eq_true rfl) rfl ?_
  intro p e s m below meth c A Q hx hb hml hown hts hP hK hD hA hS hname fin ls hl
  have hl : lv_has ls 7 [(0, .ref (a 0)), (1, .int p1)] := hl
  dsimp only [d_L_refuses] at h
  refine lv_iload_n hx hb dL_refuses_0 rfl (lv_at hl 1 rfl) ?_
  refine lv_iconst (v := 2) hx hb dL_refuses_1 (by decide) ?_
  refine lv_irem hx hb dL_refuses_2 (by decide) ?_
  refine lv_if_ne (tgt := 13) hx hb dL_refuses_3 (by decide) (fun c1 => ?_) (fun c1 => ?_)
  · have h := (k_iB h).2 c1
    refine lv_iconst (v := (-1)) hx hb dL_refuses_13 (by decide) ?_
    refine lv_iload_n hx hb dL_refuses_14 rfl (lv_at hl 1 rfl) ?_
    refine lv_isub hx hb dL_refuses_15 ?_
    refine lv_istore_n (lv' := [(2, .int ((-1) - p1)), (0, .ref (a 0)), (1, .int p1)]) hx hb dL_refuses_16 rfl hl (by decide) rfl (fun ls hl => ?_)
    exact (t_L_refuses_17 hx hb hml hown hts hK hA fin hz)   ((-1) - p1) t _ _ hP hD hS _ (lv_sub hl [1, 2, 0] rfl) h
  · have h := (k_iB h).1 c1
    refine lv_bipush (v := 8) hx hb dL_refuses_6 (by decide) ?_
    refine lv_iload_n hx hb dL_refuses_8 rfl (lv_at hl 1 rfl) ?_
    refine lv_iadd hx hb dL_refuses_9 ?_
    refine lv_goto (tgt := 16) hx hb dL_refuses_10 (by decide) ?_
    refine lv_istore_n (lv' := [(2, .int (8 + p1)), (0, .ref (a 0)), (1, .int p1)]) hx hb dL_refuses_16 rfl hl (by decide) rfl (fun ls hl => ?_)
    exact (t_L_refuses_17 hx hb hml hown hts hK hA fin hz)   (8 + p1) t _ _ hP hD hS _ (lv_sub hl [1, 2, 0] rfl) h
