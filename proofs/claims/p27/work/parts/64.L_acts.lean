def j_L_acts_132 (p1 : Int32) (x2 : Int32) (t : Td) : Option (Int32 × Td) :=
    ob2 (q_ask (x2 - x2 / 8 * 8) (1 + ((x2 / 8) - (x2 / 8) / 50 * 50)) ((x2 / 512) - (x2 / 512) / 3 * 3) t) fun r6 t8 =>
    some (r6, t8)
def j_L_acts_169 (p1 : Int32) (x2 : Int32) (t : Td) : Option (Int32 × Td) :=
    if (x2 - x2 / 4 * 4) = 3 then (ob2 (q_set (x2 - x2 / 4 * 4) ((x2 / 4) - (x2 / 4) / 300 * 300) t) fun r27 t29 =>
    some (r27, t29))
    else (ob2 (q_set (x2 - x2 / 4 * 4) (1 + ((x2 / 4) - (x2 / 4) / 9 * 9)) t) fun r24 t26 =>
    some (r24, t26))
def j_L_acts_202 (p1 : Int32) (x2 : Int32) (t : Td) : Option (Int32 × Td) :=
    ob2 (q_pass (1 + (x2 - x2 / 4 * 4)) t) fun r32 t34 =>
    some (r32, t34)
def j_L_acts_212 (p1 : Int32) (t : Td) : Option (Int32 × Td) :=
    ob2 (q_undo t) fun r39 t41 =>
    some (r39, t41)
def j_L_acts_417 (LP236 : Int32 → Int32 → Int32 → Td → Option (Int32 × Td)) (p1 : Int32) (x2 : Int32) (x5 : Int32) (x6 : Int32) (x7 : Int32) (t : Td) : Option (Int32 × Td) :=
    if (x7 - x7 / 4 * 4) = 1 then (LP236 x2 x5 (x6 + 1) t)
    else (ob2 (q_type (((49 + ((x7 / 64) - (x7 / 64) / 9 * 9)).toUInt32 % 65536).toInt32) t) fun r86 t88 =>
    LP236 x2 r86 (x6 + 1) t88)
def j_L_acts_328 (LP236 : Int32 → Int32 → Int32 → Td → Option (Int32 × Td)) (p1 : Int32) (x2 : Int32) (x6 : Int32) (x7 : Int32) (t : Td) : Option (Int32 × Td) :=
    ob2 (q_type (((48 + ((x7 / 4) - (x7 / 4) / 8 * 8)).toUInt32 % 65536).toInt32) t) fun r66 t68 =>
    ob2 (q_type 58 t68) fun r69 t71 =>
    ob2 (q_type (((49 + ((x7 / 32) - (x7 / 32) / 9 * 9)).toUInt32 % 65536).toInt32) t71) fun r72 t74 =>
    ob2 (q_type 61 t74) fun r75 t77 =>
    ob2 (q_type (((48 + ((x7 / 16) - (x7 / 16) / 3 * 3)).toUInt32 % 65536).toInt32) t77) fun r78 t80 =>
    if (x7 - x7 / 4 * 4) = 1 then (j_L_acts_417 LP236 p1 x2 r78 x6 x7 t80)
    else (ob2 (q_type 42 t80) fun r82 t84 =>
    j_L_acts_417 LP236 p1 x2 r82 x6 x7 t84)
def j_L_acts_273 (LP236 : Int32 → Int32 → Int32 → Td → Option (Int32 × Td)) (p1 : Int32) (x2 : Int32) (x6 : Int32) (x7 : Int32) (t : Td) : Option (Int32 × Td) :=
    if (x7 - x7 / 4 * 4) = 0 then (ob2 (q_type 46 t) fun r92 t94 =>
    ob2 (q_type (((49 + ((x7 / 4) - (x7 / 4) / 4 * 4)).toUInt32 % 65536).toInt32) t94) fun r95 t97 =>
    LP236 x2 r95 (x6 + 1) t97)
    else (if (x7 - x7 / 4 * 4) = 1 then (ob2 (q_type 114 t) fun r89 t91 =>
    j_L_acts_328 LP236 p1 x2 x6 x7 t91)
    else (ob2 (q_type 97 t) fun r63 t65 =>
    j_L_acts_328 LP236 p1 x2 x6 x7 t65))
def lp_L_acts_236 (p1 : Int32) : Nat → Int32 → Int32 → Int32 → Td → Option (Int32 × Td)
  | 0 => fun _ _ _ _ => none
  | k + 1 => fun x2 x5 x6 t =>
    if (1 + (x2 - x2 / 4 * 4)) ≤ x6 then (if 1 ≤ x5 then (ob2 (q_perform t) fun r57 t59 =>
    some (r57, t59))
    else (some ((-9), t)))
    else (if x6 ≤ 0 then (j_L_acts_273 (lp_L_acts_236  p1 k) p1 x2 x6 ((x2 / 4) >>> ((5 * x6) &&& 31)) t)
    else (ob2 (q_type 59 t) fun r98 t100 =>
    j_L_acts_273 (lp_L_acts_236  p1 k) p1 x2 x6 ((x2 / 4) >>> ((5 * x6) &&& 31)) t100))
def j_L_acts_227 (p1 : Int32) (x2 : Int32) (t : Td) : Option (Int32 × Td) :=
    ob2 (q_clearText t) fun r52 t54 =>
    lp_L_acts_236  p1 fuel x2 r52 0 t54
def j_L_acts_28 (p1 : Int32) (x2 : Int32) (x4 : Int32) (t : Td) : Option (Int32 × Td) :=
    if (p1 - p1 / 32 * 32) = 0 then (j_L_acts_132  p1 x2 t)
    else (if (p1 - p1 / 32 * 32) = 1 then (j_L_acts_132  p1 x2 t)
    else (if (p1 - p1 / 32 * 32) = 2 then (j_L_acts_132  p1 x2 t)
    else (if (p1 - p1 / 32 * 32) = 3 then (j_L_acts_132  p1 x2 t)
    else (if (p1 - p1 / 32 * 32) = 4 then (j_L_acts_132  p1 x2 t)
    else (if (p1 - p1 / 32 * 32) = 5 then (j_L_acts_132  p1 x2 t)
    else (if (p1 - p1 / 32 * 32) = 6 then (ob2 (q_withdraw x4 t) fun r15 t17 =>
    some (r15, t17))
    else (if (p1 - p1 / 32 * 32) = 7 then (ob2 (q_adjust t) fun r19 t21 =>
    some (r19, t21))
    else (if (p1 - p1 / 32 * 32) = 8 then (j_L_acts_169  p1 x2 t)
    else (if (p1 - p1 / 32 * 32) = 9 then (j_L_acts_169  p1 x2 t)
    else (if (p1 - p1 / 32 * 32) = 10 then (j_L_acts_202  p1 x2 t)
    else (if (p1 - p1 / 32 * 32) = 11 then (j_L_acts_202  p1 x2 t)
    else (if (p1 - p1 / 32 * 32) = 12 then (j_L_acts_202  p1 x2 t)
    else (if (p1 - p1 / 32 * 32) = 13 then (j_L_acts_202  p1 x2 t)
    else (if (p1 - p1 / 32 * 32) = 14 then (j_L_acts_212  p1 t)
    else (if (p1 - p1 / 32 * 32) = 15 then (j_L_acts_212  p1 t)
    else (if (p1 - p1 / 32 * 32) = 16 then (ob2 (q_keep t) fun r44 t46 =>
    some (r44, t46))
    else (if (p1 - p1 / 32 * 32) = 17 then (ob2 (q_restore t) fun r48 t50 =>
    some (r48, t50))
    else (if (p1 - p1 / 32 * 32) = 18 then (j_L_acts_227  p1 x2 t)
    else (if (p1 - p1 / 32 * 32) = 19 then (j_L_acts_227  p1 x2 t)
    else (if (p1 - p1 / 32 * 32) = 20 then (j_L_acts_227  p1 x2 t)
    else (if ((x2 / 256) - (x2 / 256) / 4 * 4) ≤ 0 then (ob2 (q_deliver (x2 - x2 / 8 * 8) x4 ((x2 / 1024) - (x2 / 1024) / 4 * 4) (1 + ((x2 / 4096) - (x2 / 4096) / 99 * 99)) t) fun r104 t106 =>
    some (r104, t106))
    else (ob1 (q_riddle x4 2 t) fun r107 =>
    ob2 (q_deliver (x2 - x2 / 8 * 8) x4 r107 (1 + ((x2 / 4096) - (x2 / 4096) / 99 * 99)) t) fun r109 t111 =>
    some (r109, t111)))))))))))))))))))))))
def d_L_acts (p1 : Int32) (t : Td) : Option (Int32 × Td) :=
    ob1 (q_count 1 t) fun r1 =>
    if 1 ≤ r1 then (j_L_acts_28  p1 (p1 / 32) (((p1 / 32) / 8) - ((p1 / 32) / 8) / r1 * r1) t)
    else (j_L_acts_28  p1 (p1 / 32) 0 t)
set_option maxHeartbeats 16000000 in
set_option maxRecDepth 100000 in
theorem t_L_acts_132 {p : Program} {l : Launch} {e : Env} {s : State} {m : MethodId} {below : List Frame} {meth : Method} {c : Code} {A : Nat → Prop} {Q : State → Prop} {D : va_G} {cI cC cE : ClassId} {a : Nat → Nat} {p1 : Int32} {r0 : Int32} {o_t : Td} (hx : p.tables.exec = Jvm.exec) (hb : c.code = cL_acts) (hml : c.maxLocals = 8) (hown : s.vm.findClass RL = some m.cls) (hts : ∀ w ∈ wsL_acts, w.before [.ref (a 0), .int p1].toArray s = true) (hK : va_K D vwCl (kT cI cC cE) s) (hA : ∀ q, s.heap.size ≤ q → A q) (fin : ∀ (pc : Nat) (ls : Array Slot) (H : Heap) (locs : List Loc), decode cL_acts pc = .ok (.ireturn, 1) → va_P D vwCl (fl [tdW cI cC cE a o_t]) H → va_D A (fl [tdW cI cC cE a o_t]) → va_S A s.heap H locs → W p l e ({ frames := 8, cells := 0, slots := 0, locals := 187 } : Room) s m [.ref (a 0), .int p1].toArray below meth c H locs 0 0 Q (F0 m pc ls [.int r0])) : ∀ (x2 : Int32) (t : Td) (H : Heap) (locs : List Loc), va_P D vwCl (fl [tdW cI cC cE a t]) H → va_D A (fl [tdW cI cC cE a t]) → va_S A s.heap H locs → ∀ (ls : Array Slot), lv_has ls 8 [(0, .ref (a 0)), (2, .int x2)] → j_L_acts_132  p1 x2 t = some (r0, o_t) → W p l e ({ frames := 8, cells := 0, slots := 0, locals := 187 } : Room) s m [.ref (a 0), .int p1].toArray below meth c H locs 0 0 Q (F0 m 132 ls []) := by
  intro x2 t H locs hP hD hS ls hl h
  dsimp only [j_L_acts_132] at h
  refine lv_aload_n hx hb dL_acts_132 rfl (lv_at hl 0 rfl) ?_
  refine lv_iload_n hx hb dL_acts_133 rfl (lv_at hl 1 rfl) ?_
  refine lv_bipush (v := 8) hx hb dL_acts_134 (by decide) ?_
  refine lv_irem hx hb dL_acts_136 (by decide) ?_
  refine lv_iconst (v := 1) hx hb dL_acts_137 (by decide) ?_
  refine lv_iload_n hx hb dL_acts_138 rfl (lv_at hl 1 rfl) ?_
  refine lv_bipush (v := 8) hx hb dL_acts_139 (by decide) ?_
  refine lv_idiv hx hb dL_acts_141 (by decide) ?_
  refine lv_bipush (v := 50) hx hb dL_acts_142 (by decide) ?_
  refine lv_irem hx hb dL_acts_144 (by decide) ?_
  refine lv_iadd hx hb dL_acts_145 ?_
  refine lv_iload_n hx hb dL_acts_146 rfl (lv_at hl 1 rfl) ?_
  refine lv_sipush (v := 512) hx hb dL_acts_147 (by decide) ?_
  refine lv_idiv hx hb dL_acts_150 (by decide) ?_
  refine lv_iconst (v := 3) hx hb dL_acts_151 (by decide) ?_
  refine lv_irem hx hb dL_acts_152 (by decide) ?_
  obtain ⟨r6, t8, hu7, h⟩ := ob2_el h
  refine kbi (ci := 5) (q := (RX5, TX5, 8)) (bs := [tdW cI cC cE a t]) (cs := [tdW cI cC cE a t]) (cs' := [tdW cI cC cE a t8]) (bs1 := [tdW cI cC cE a t8]) ⟨hx, hb, hml, hown, hts⟩ [0] [] (cq_ask l D cI cC cE a _ t (x2 - x2 / 8 * 8) (1 + ((x2 / 8) - (x2 / 8) / 50 * 50)) ((x2 / 512) - (x2 / 512) / 3 * 3) r6 t8 hu7) (cwV 3 hts gL_acts_X5_ask rfl rfl rfl (by decide +kernel) ⟨Nat.le_of_ble_eq_true rfl, Nat.le_of_ble_eq_true rfl⟩) hK hP hD hS hA rfl rfl rfl rfl rfl rfl rfl rfl rfl hl.1 rfl (Nat.le_of_ble_eq_true rfl) dL_acts_153 ⟨Nat.le_refl 0, Nat.le_refl 0⟩ (fun H locs hP hD hS => ?_)
  obtain ⟨rfl, rfl⟩ := inj2 (Option.some.inj h)
  exact fin _ _ _ _ dL_acts_156 hP hD hS
set_option maxHeartbeats 16000000 in
set_option maxRecDepth 100000 in
theorem t_L_acts_169 {p : Program} {l : Launch} {e : Env} {s : State} {m : MethodId} {below : List Frame} {meth : Method} {c : Code} {A : Nat → Prop} {Q : State → Prop} {D : va_G} {cI cC cE : ClassId} {a : Nat → Nat} {p1 : Int32} {r0 : Int32} {o_t : Td} (hx : p.tables.exec = Jvm.exec) (hb : c.code = cL_acts) (hml : c.maxLocals = 8) (hown : s.vm.findClass RL = some m.cls) (hts : ∀ w ∈ wsL_acts, w.before [.ref (a 0), .int p1].toArray s = true) (hK : va_K D vwCl (kT cI cC cE) s) (hA : ∀ q, s.heap.size ≤ q → A q) (fin : ∀ (pc : Nat) (ls : Array Slot) (H : Heap) (locs : List Loc), decode cL_acts pc = .ok (.ireturn, 1) → va_P D vwCl (fl [tdW cI cC cE a o_t]) H → va_D A (fl [tdW cI cC cE a o_t]) → va_S A s.heap H locs → W p l e ({ frames := 8, cells := 0, slots := 0, locals := 187 } : Room) s m [.ref (a 0), .int p1].toArray below meth c H locs 0 0 Q (F0 m pc ls [.int r0])) : ∀ (x2 : Int32) (t : Td) (H : Heap) (locs : List Loc), va_P D vwCl (fl [tdW cI cC cE a t]) H → va_D A (fl [tdW cI cC cE a t]) → va_S A s.heap H locs → ∀ (ls : Array Slot), lv_has ls 8 [(0, .ref (a 0)), (2, .int x2)] → j_L_acts_169  p1 x2 t = some (r0, o_t) → W p l e ({ frames := 8, cells := 0, slots := 0, locals := 187 } : Room) s m [.ref (a 0), .int p1].toArray below meth c H locs 0 0 Q (F0 m 169 ls []) := by
  intro x2 t H locs hP hD hS ls hl h
  dsimp only [j_L_acts_169] at h
  refine lv_aload_n hx hb dL_acts_169 rfl (lv_at hl 0 rfl) ?_
  refine lv_iload_n hx hb dL_acts_170 rfl (lv_at hl 1 rfl) ?_
  refine lv_iconst (v := 4) hx hb dL_acts_171 (by decide) ?_
  refine lv_irem hx hb dL_acts_172 (by decide) ?_
  refine lv_iload_n hx hb dL_acts_173 rfl (lv_at hl 1 rfl) ?_
  refine lv_iconst (v := 4) hx hb dL_acts_174 (by decide) ?_
  refine lv_irem hx hb dL_acts_175 (by decide) ?_
  refine lv_iconst (v := 3) hx hb dL_acts_176 (by decide) ?_
  refine lv_icmp_ne (tgt := 190) hx hb dL_acts_177 (by decide) (fun c23 => ?_) (fun c23 => ?_)
  · have h := (k_iB h).2 c23
    refine lv_iconst (v := 1) hx hb dL_acts_190 (by decide) ?_
    refine lv_iload_n hx hb dL_acts_191 rfl (lv_at hl 1 rfl) ?_
    refine lv_iconst (v := 4) hx hb dL_acts_192 (by decide) ?_
    refine lv_idiv hx hb dL_acts_193 (by decide) ?_
    refine lv_bipush (v := 9) hx hb dL_acts_194 (by decide) ?_
    refine lv_irem hx hb dL_acts_196 (by decide) ?_
    refine lv_iadd hx hb dL_acts_197 ?_
    obtain ⟨r24, t26, hu25, h⟩ := ob2_el h
    refine kbi (ci := 5) (q := (RX5, TX5, 8)) (bs := [tdW cI cC cE a t]) (cs := [tdW cI cC cE a t]) (cs' := [tdW cI cC cE a t26]) (bs1 := [tdW cI cC cE a t26]) ⟨hx, hb, hml, hown, hts⟩ [0] [] (cq_set l D cI cC cE a _ t (x2 - x2 / 4 * 4) (1 + ((x2 / 4) - (x2 / 4) / 9 * 9)) r24 t26 hu25) (cwV 2 hts gL_acts_X5_set rfl rfl rfl (by decide +kernel) ⟨Nat.le_of_ble_eq_true rfl, Nat.le_of_ble_eq_true rfl⟩) hK hP hD hS hA rfl rfl rfl rfl rfl rfl rfl rfl rfl hl.1 rfl (Nat.le_of_ble_eq_true rfl) dL_acts_198 ⟨Nat.le_refl 0, Nat.le_refl 0⟩ (fun H locs hP hD hS => ?_)
    obtain ⟨rfl, rfl⟩ := inj2 (Option.some.inj h)
    exact fin _ _ _ _ dL_acts_201 hP hD hS
  · have h := (k_iB h).1 c23
    refine lv_iload_n hx hb dL_acts_180 rfl (lv_at hl 1 rfl) ?_
    refine lv_iconst (v := 4) hx hb dL_acts_181 (by decide) ?_
    refine lv_idiv hx hb dL_acts_182 (by decide) ?_
    refine lv_sipush (v := 300) hx hb dL_acts_183 (by decide) ?_
    refine lv_irem hx hb dL_acts_186 (by decide) ?_
    refine lv_goto (tgt := 198) hx hb dL_acts_187 (by decide) ?_
    obtain ⟨r27, t29, hu28, h⟩ := ob2_el h
    refine kbi (ci := 5) (q := (RX5, TX5, 8)) (bs := [tdW cI cC cE a t]) (cs := [tdW cI cC cE a t]) (cs' := [tdW cI cC cE a t29]) (bs1 := [tdW cI cC cE a t29]) ⟨hx, hb, hml, hown, hts⟩ [0] [] (cq_set l D cI cC cE a _ t (x2 - x2 / 4 * 4) ((x2 / 4) - (x2 / 4) / 300 * 300) r27 t29 hu28) (cwV 2 hts gL_acts_X5_set rfl rfl rfl (by decide +kernel) ⟨Nat.le_of_ble_eq_true rfl, Nat.le_of_ble_eq_true rfl⟩) hK hP hD hS hA rfl rfl rfl rfl rfl rfl rfl rfl rfl hl.1 rfl (Nat.le_of_ble_eq_true rfl) dL_acts_198 ⟨Nat.le_refl 0, Nat.le_refl 0⟩ (fun H locs hP hD hS => ?_)
    obtain ⟨rfl, rfl⟩ := inj2 (Option.some.inj h)
    exact fin _ _ _ _ dL_acts_201 hP hD hS
set_option maxHeartbeats 16000000 in
set_option maxRecDepth 100000 in
theorem t_L_acts_202 {p : Program} {l : Launch} {e : Env} {s : State} {m : MethodId} {below : List Frame} {meth : Method} {c : Code} {A : Nat → Prop} {Q : State → Prop} {D : va_G} {cI cC cE : ClassId} {a : Nat → Nat} {p1 : Int32} {r0 : Int32} {o_t : Td} (hx : p.tables.exec = Jvm.exec) (hb : c.code = cL_acts) (hml : c.maxLocals = 8) (hown : s.vm.findClass RL = some m.cls) (hts : ∀ w ∈ wsL_acts, w.before [.ref (a 0), .int p1].toArray s = true) (hK : va_K D vwCl (kT cI cC cE) s) (hA : ∀ q, s.heap.size ≤ q → A q) (fin : ∀ (pc : Nat) (ls : Array Slot) (H : Heap) (locs : List Loc), decode cL_acts pc = .ok (.ireturn, 1) → va_P D vwCl (fl [tdW cI cC cE a o_t]) H → va_D A (fl [tdW cI cC cE a o_t]) → va_S A s.heap H locs → W p l e ({ frames := 8, cells := 0, slots := 0, locals := 187 } : Room) s m [.ref (a 0), .int p1].toArray below meth c H locs 0 0 Q (F0 m pc ls [.int r0])) : ∀ (x2 : Int32) (t : Td) (H : Heap) (locs : List Loc), va_P D vwCl (fl [tdW cI cC cE a t]) H → va_D A (fl [tdW cI cC cE a t]) → va_S A s.heap H locs → ∀ (ls : Array Slot), lv_has ls 8 [(0, .ref (a 0)), (2, .int x2)] → j_L_acts_202  p1 x2 t = some (r0, o_t) → W p l e ({ frames := 8, cells := 0, slots := 0, locals := 187 } : Room) s m [.ref (a 0), .int p1].toArray below meth c H locs 0 0 Q (F0 m 202 ls []) := by
  intro x2 t H locs hP hD hS ls hl h
  dsimp only [j_L_acts_202] at h
  refine lv_aload_n hx hb dL_acts_202 rfl (lv_at hl 0 rfl) ?_
  refine lv_iconst (v := 1) hx hb dL_acts_203 (by decide) ?_
  refine lv_iload_n hx hb dL_acts_204 rfl (lv_at hl 1 rfl) ?_
  refine lv_iconst (v := 4) hx hb dL_acts_205 (by decide) ?_
  refine lv_irem hx hb dL_acts_206 (by decide) ?_
  refine lv_iadd hx hb dL_acts_207 ?_
  obtain ⟨r32, t34, hu33, h⟩ := ob2_el h
  refine kbi (ci := 5) (q := (RX5, TX5, 8)) (bs := [tdW cI cC cE a t]) (cs := [tdW cI cC cE a t]) (cs' := [tdW cI cC cE a t34]) (bs1 := [tdW cI cC cE a t34]) ⟨hx, hb, hml, hown, hts⟩ [0] [] (cq_pass l D cI cC cE a _ t (1 + (x2 - x2 / 4 * 4)) r32 t34 hu33) (cwV 1 hts gL_acts_X5_pass rfl rfl rfl (by decide +kernel) ⟨Nat.le_of_ble_eq_true rfl, Nat.le_of_ble_eq_true rfl⟩) hK hP hD hS hA rfl rfl rfl rfl rfl rfl rfl rfl rfl hl.1 rfl (Nat.le_of_ble_eq_true rfl) dL_acts_208 ⟨Nat.le_refl 0, Nat.le_refl 0⟩ (fun H locs hP hD hS => ?_)
  obtain ⟨rfl, rfl⟩ := inj2 (Option.some.inj h)
  exact fin _ _ _ _ dL_acts_211 hP hD hS
set_option maxHeartbeats 16000000 in
set_option maxRecDepth 100000 in
theorem t_L_acts_212 {p : Program} {l : Launch} {e : Env} {s : State} {m : MethodId} {below : List Frame} {meth : Method} {c : Code} {A : Nat → Prop} {Q : State → Prop} {D : va_G} {cI cC cE : ClassId} {a : Nat → Nat} {p1 : Int32} {r0 : Int32} {o_t : Td} (hx : p.tables.exec = Jvm.exec) (hb : c.code = cL_acts) (hml : c.maxLocals = 8) (hown : s.vm.findClass RL = some m.cls) (hts : ∀ w ∈ wsL_acts, w.before [.ref (a 0), .int p1].toArray s = true) (hK : va_K D vwCl (kT cI cC cE) s) (hA : ∀ q, s.heap.size ≤ q → A q) (fin : ∀ (pc : Nat) (ls : Array Slot) (H : Heap) (locs : List Loc), decode cL_acts pc = .ok (.ireturn, 1) → va_P D vwCl (fl [tdW cI cC cE a o_t]) H → va_D A (fl [tdW cI cC cE a o_t]) → va_S A s.heap H locs → W p l e ({ frames := 8, cells := 0, slots := 0, locals := 187 } : Room) s m [.ref (a 0), .int p1].toArray below meth c H locs 0 0 Q (F0 m pc ls [.int r0])) : ∀ (t : Td) (H : Heap) (locs : List Loc), va_P D vwCl (fl [tdW cI cC cE a t]) H → va_D A (fl [tdW cI cC cE a t]) → va_S A s.heap H locs → ∀ (ls : Array Slot), lv_has ls 8 [(0, .ref (a 0))] → j_L_acts_212  p1 t = some (r0, o_t) → W p l e ({ frames := 8, cells := 0, slots := 0, locals := 187 } : Room) s m [.ref (a 0), .int p1].toArray below meth c H locs 0 0 Q (F0 m 212 ls []) := by
  intro t H locs hP hD hS ls hl h
  dsimp only [j_L_acts_212] at h
  refine lv_aload_n hx hb dL_acts_212 rfl (lv_at hl 0 rfl) ?_
  obtain ⟨r39, t41, hu40, h⟩ := ob2_el h
  refine kbi (ci := 5) (q := (RX5, TX5, 8)) (bs := [tdW cI cC cE a t]) (cs := [tdW cI cC cE a t]) (cs' := [tdW cI cC cE a t41]) (bs1 := [tdW cI cC cE a t41]) ⟨hx, hb, hml, hown, hts⟩ [0] [] (cq_undo l D cI cC cE a _ t  r39 t41 hu40) (cwV 0 hts gL_acts_X5_undo rfl rfl rfl (by decide +kernel) ⟨Nat.le_of_ble_eq_true rfl, Nat.le_of_ble_eq_true rfl⟩) hK hP hD hS hA rfl rfl rfl rfl rfl rfl rfl rfl rfl hl.1 rfl (Nat.le_of_ble_eq_true rfl) dL_acts_213 ⟨Nat.le_refl 0, Nat.le_refl 0⟩ (fun H locs hP hD hS => ?_)
  obtain ⟨rfl, rfl⟩ := inj2 (Option.some.inj h)
  exact fin _ _ _ _ dL_acts_216 hP hD hS
set_option maxHeartbeats 16000000 in
set_option maxRecDepth 100000 in
theorem t_L_acts_417 {p : Program} {l : Launch} {e : Env} {s : State} {m : MethodId} {below : List Frame} {meth : Method} {c : Code} {A : Nat → Prop} {Q : State → Prop} {D : va_G} {cI cC cE : ClassId} {a : Nat → Nat} {p1 : Int32} {r0 : Int32} {o_t : Td} (hx : p.tables.exec = Jvm.exec) (hb : c.code = cL_acts) (hml : c.maxLocals = 8) (hown : s.vm.findClass RL = some m.cls) (hts : ∀ w ∈ wsL_acts, w.before [.ref (a 0), .int p1].toArray s = true) (hK : va_K D vwCl (kT cI cC cE) s) (hA : ∀ q, s.heap.size ≤ q → A q) (fin : ∀ (pc : Nat) (ls : Array Slot) (H : Heap) (locs : List Loc), decode cL_acts pc = .ok (.ireturn, 1) → va_P D vwCl (fl [tdW cI cC cE a o_t]) H → va_D A (fl [tdW cI cC cE a o_t]) → va_S A s.heap H locs → W p l e ({ frames := 8, cells := 0, slots := 0, locals := 187 } : Room) s m [.ref (a 0), .int p1].toArray below meth c H locs 0 0 Q (F0 m pc ls [.int r0])) : ∀ (LP236 : Int32 → Int32 → Int32 → Td → Option (Int32 × Td)), (∀ (x2 : Int32) (x5 : Int32) (x6 : Int32) (t : Td) (H : Heap) (locs : List Loc), va_P D vwCl (fl [tdW cI cC cE a t]) H → va_D A (fl [tdW cI cC cE a t]) → va_S A s.heap H locs → ∀ (ls : Array Slot), lv_has ls 8 [(0, .ref (a 0)), (2, .int x2), (5, .int x5), (6, .int x6)] → LP236 x2 x5 x6 t = some (r0, o_t) → W p l e ({ frames := 8, cells := 0, slots := 0, locals := 187 } : Room) s m [.ref (a 0), .int p1].toArray below meth c H locs 0 0 Q (F0 m 236 ls [])) → ∀ (x2 : Int32) (x5 : Int32) (x6 : Int32) (x7 : Int32) (t : Td) (H : Heap) (locs : List Loc), va_P D vwCl (fl [tdW cI cC cE a t]) H → va_D A (fl [tdW cI cC cE a t]) → va_S A s.heap H locs → ∀ (ls : Array Slot), lv_has ls 8 [(0, .ref (a 0)), (2, .int x2), (5, .int x5), (6, .int x6), (7, .int x7)] → j_L_acts_417 LP236 p1 x2 x5 x6 x7 t = some (r0, o_t) → W p l e ({ frames := 8, cells := 0, slots := 0, locals := 187 } : Room) s m [.ref (a 0), .int p1].toArray below meth c H locs 0 0 Q (F0 m 417 ls []) := by
  intro LP236 hLP236
  intro x2 x5 x6 x7 t H locs hP hD hS ls hl h
  dsimp only [j_L_acts_417] at h
  refine lv_iload hx hb dL_acts_417 (lv_at hl 4 rfl) ?_
  refine lv_iconst (v := 4) hx hb dL_acts_419 (by decide) ?_
  refine lv_irem hx hb dL_acts_420 (by decide) ?_
  refine lv_iconst (v := 1) hx hb dL_acts_421 (by decide) ?_
  refine lv_icmp_ne (tgt := 430) hx hb dL_acts_422 (by decide) (fun c85 => ?_) (fun c85 => ?_)
  · have h := (k_iB h).2 c85
    refine lv_aload_n hx hb dL_acts_430 rfl (lv_at hl 0 rfl) ?_
    refine lv_bipush (v := 49) hx hb dL_acts_431 (by decide) ?_
    refine lv_iload hx hb dL_acts_433 (lv_at hl 4 rfl) ?_
    refine lv_bipush (v := 64) hx hb dL_acts_435 (by decide) ?_
    refine lv_idiv hx hb dL_acts_437 (by decide) ?_
    refine lv_bipush (v := 9) hx hb dL_acts_438 (by decide) ?_
    refine lv_irem hx hb dL_acts_440 (by decide) ?_
    refine lv_iadd hx hb dL_acts_441 ?_
    refine lv_i2c hx hb dL_acts_442 rfl ?_
    obtain ⟨r86, t88, hu87, h⟩ := ob2_el h
    refine kbi (ci := 5) (q := (RX5, TX5, 8)) (bs := [tdW cI cC cE a t]) (cs := [tdW cI cC cE a t]) (cs' := [tdW cI cC cE a t88]) (bs1 := [tdW cI cC cE a t88]) ⟨hx, hb, hml, hown, hts⟩ [0] [] (cq_type l D cI cC cE a _ t (((49 + ((x7 / 64) - (x7 / 64) / 9 * 9)).toUInt32 % 65536).toInt32) r86 t88 hu87) (cwV 1 hts gL_acts_X5_type rfl rfl rfl (by decide +kernel) ⟨Nat.le_of_ble_eq_true rfl, Nat.le_of_ble_eq_true rfl⟩) hK hP hD hS hA rfl rfl rfl rfl rfl rfl rfl rfl rfl hl.1 rfl (Nat.le_of_ble_eq_true rfl) dL_acts_443 ⟨Nat.le_refl 0, Nat.le_refl 0⟩ (fun H locs hP hD hS => ?_)
    refine lv_istore (lv' := [(5, .int r86), (0, .ref (a 0)), (2, .int x2), (6, .int x6), (7, .int x7)]) hx hb dL_acts_446 hl (by decide) rfl (fun ls hl => ?_)
    refine lv_iinc (v := (x6 + 1)) (lv' := [(6, .int (x6 + 1)), (5, .int r86), (0, .ref (a 0)), (2, .int x2), (7, .int x7)]) hx hb dL_acts_448 hl (k := 3) rfl rfl (by decide) rfl (fun ls hl => ?_)
    refine lv_goto (tgt := 236) hx hb dL_acts_451 (by decide) ?_
    exact hLP236 x2 r86 (x6 + 1) t88 _ _ hP hD hS _ (lv_sub hl [2, 3, 1, 0] rfl) h
  · have h := (k_iB h).1 c85
    refine lv_iload hx hb dL_acts_425 (lv_at hl 2 rfl) ?_
    refine lv_goto (tgt := 446) hx hb dL_acts_427 (by decide) ?_
    refine lv_istore (lv' := [(5, .int x5), (0, .ref (a 0)), (2, .int x2), (6, .int x6), (7, .int x7)]) hx hb dL_acts_446 hl (by decide) rfl (fun ls hl => ?_)
    refine lv_iinc (v := (x6 + 1)) (lv' := [(6, .int (x6 + 1)), (5, .int x5), (0, .ref (a 0)), (2, .int x2), (7, .int x7)]) hx hb dL_acts_448 hl (k := 3) rfl rfl (by decide) rfl (fun ls hl => ?_)
    refine lv_goto (tgt := 236) hx hb dL_acts_451 (by decide) ?_
    exact hLP236 x2 x5 (x6 + 1) t _ _ hP hD hS _ (lv_sub hl [2, 3, 1, 0] rfl) h
set_option maxHeartbeats 16000000 in
set_option maxRecDepth 100000 in
theorem t_L_acts_328 {p : Program} {l : Launch} {e : Env} {s : State} {m : MethodId} {below : List Frame} {meth : Method} {c : Code} {A : Nat → Prop} {Q : State → Prop} {D : va_G} {cI cC cE : ClassId} {a : Nat → Nat} {p1 : Int32} {r0 : Int32} {o_t : Td} (hx : p.tables.exec = Jvm.exec) (hb : c.code = cL_acts) (hml : c.maxLocals = 8) (hown : s.vm.findClass RL = some m.cls) (hts : ∀ w ∈ wsL_acts, w.before [.ref (a 0), .int p1].toArray s = true) (hK : va_K D vwCl (kT cI cC cE) s) (hA : ∀ q, s.heap.size ≤ q → A q) (fin : ∀ (pc : Nat) (ls : Array Slot) (H : Heap) (locs : List Loc), decode cL_acts pc = .ok (.ireturn, 1) → va_P D vwCl (fl [tdW cI cC cE a o_t]) H → va_D A (fl [tdW cI cC cE a o_t]) → va_S A s.heap H locs → W p l e ({ frames := 8, cells := 0, slots := 0, locals := 187 } : Room) s m [.ref (a 0), .int p1].toArray below meth c H locs 0 0 Q (F0 m pc ls [.int r0])) : ∀ (LP236 : Int32 → Int32 → Int32 → Td → Option (Int32 × Td)), (∀ (x2 : Int32) (x5 : Int32) (x6 : Int32) (t : Td) (H : Heap) (locs : List Loc), va_P D vwCl (fl [tdW cI cC cE a t]) H → va_D A (fl [tdW cI cC cE a t]) → va_S A s.heap H locs → ∀ (ls : Array Slot), lv_has ls 8 [(0, .ref (a 0)), (2, .int x2), (5, .int x5), (6, .int x6)] → LP236 x2 x5 x6 t = some (r0, o_t) → W p l e ({ frames := 8, cells := 0, slots := 0, locals := 187 } : Room) s m [.ref (a 0), .int p1].toArray below meth c H locs 0 0 Q (F0 m 236 ls [])) → ∀ (x2 : Int32) (x6 : Int32) (x7 : Int32) (t : Td) (H : Heap) (locs : List Loc), va_P D vwCl (fl [tdW cI cC cE a t]) H → va_D A (fl [tdW cI cC cE a t]) → va_S A s.heap H locs → ∀ (ls : Array Slot), lv_has ls 8 [(0, .ref (a 0)), (2, .int x2), (6, .int x6), (7, .int x7)] → j_L_acts_328 LP236 p1 x2 x6 x7 t = some (r0, o_t) → W p l e ({ frames := 8, cells := 0, slots := 0, locals := 187 } : Room) s m [.ref (a 0), .int p1].toArray below meth c H locs 0 0 Q (F0 m 328 ls []) := by
  intro LP236 hLP236
  intro x2 x6 x7 t H locs hP hD hS ls hl h
  dsimp only [j_L_acts_328] at h
  refine lv_aload_n hx hb dL_acts_328 rfl (lv_at hl 0 rfl) ?_
  refine lv_bipush (v := 48) hx hb dL_acts_329 (by decide) ?_
  refine lv_iload hx hb dL_acts_331 (lv_at hl 3 rfl) ?_
  refine lv_iconst (v := 4) hx hb dL_acts_333 (by decide) ?_
  refine lv_idiv hx hb dL_acts_334 (by decide) ?_
  refine lv_bipush (v := 8) hx hb dL_acts_335 (by decide) ?_
  refine lv_irem hx hb dL_acts_337 (by decide) ?_
  refine lv_iadd hx hb dL_acts_338 ?_
  refine lv_i2c hx hb dL_acts_339 rfl ?_
  obtain ⟨r66, t68, hu67, h⟩ := ob2_el h
  refine kbi (ci := 5) (q := (RX5, TX5, 8)) (bs := [tdW cI cC cE a t]) (cs := [tdW cI cC cE a t]) (cs' := [tdW cI cC cE a t68]) (bs1 := [tdW cI cC cE a t68]) ⟨hx, hb, hml, hown, hts⟩ [0] [] (cq_type l D cI cC cE a _ t (((48 + ((x7 / 4) - (x7 / 4) / 8 * 8)).toUInt32 % 65536).toInt32) r66 t68 hu67) (cwV 1 hts gL_acts_X5_type rfl rfl rfl (by decide +kernel) ⟨Nat.le_of_ble_eq_true rfl, Nat.le_of_ble_eq_true rfl⟩) hK hP hD hS hA rfl rfl rfl rfl rfl rfl rfl rfl rfl hl.1 rfl (Nat.le_of_ble_eq_true rfl) dL_acts_340 ⟨Nat.le_refl 0, Nat.le_refl 0⟩ (fun H locs hP hD hS => ?_)
  refine lv_istore (lv' := [(5, .int r66), (0, .ref (a 0)), (2, .int x2), (6, .int x6), (7, .int x7)]) hx hb dL_acts_343 hl (by decide) rfl (fun ls hl => ?_)
  refine lv_aload_n hx hb dL_acts_345 rfl (lv_at hl 1 rfl) ?_
  refine lv_bipush (v := 58) hx hb dL_acts_346 (by decide) ?_
  obtain ⟨r69, t71, hu70, h⟩ := ob2_el h
  refine kbi (ci := 5) (q := (RX5, TX5, 8)) (bs := [tdW cI cC cE a t68]) (cs := [tdW cI cC cE a t68]) (cs' := [tdW cI cC cE a t71]) (bs1 := [tdW cI cC cE a t71]) ⟨hx, hb, hml, hown, hts⟩ [0] [] (cq_type l D cI cC cE a _ t68 58 r69 t71 hu70) (cwV 1 hts gL_acts_X5_type rfl rfl rfl (by decide +kernel) ⟨Nat.le_of_ble_eq_true rfl, Nat.le_of_ble_eq_true rfl⟩) hK hP hD hS hA rfl rfl rfl rfl rfl rfl rfl rfl rfl hl.1 rfl (Nat.le_of_ble_eq_true rfl) dL_acts_348 ⟨Nat.le_refl 0, Nat.le_refl 0⟩ (fun H locs hP hD hS => ?_)
  refine lv_istore (lv' := [(5, .int r69), (0, .ref (a 0)), (2, .int x2), (6, .int x6), (7, .int x7)]) hx hb dL_acts_351 hl (by decide) rfl (fun ls hl => ?_)
  refine lv_aload_n hx hb dL_acts_353 rfl (lv_at hl 1 rfl) ?_
  refine lv_bipush (v := 49) hx hb dL_acts_354 (by decide) ?_
  refine lv_iload hx hb dL_acts_356 (lv_at hl 4 rfl) ?_
  refine lv_bipush (v := 32) hx hb dL_acts_358 (by decide) ?_
  refine lv_idiv hx hb dL_acts_360 (by decide) ?_
  refine lv_bipush (v := 9) hx hb dL_acts_361 (by decide) ?_
  refine lv_irem hx hb dL_acts_363 (by decide) ?_
  refine lv_iadd hx hb dL_acts_364 ?_
  refine lv_i2c hx hb dL_acts_365 rfl ?_
  obtain ⟨r72, t74, hu73, h⟩ := ob2_el h
  refine kbi (ci := 5) (q := (RX5, TX5, 8)) (bs := [tdW cI cC cE a t71]) (cs := [tdW cI cC cE a t71]) (cs' := [tdW cI cC cE a t74]) (bs1 := [tdW cI cC cE a t74]) ⟨hx, hb, hml, hown, hts⟩ [0] [] (cq_type l D cI cC cE a _ t71 (((49 + ((x7 / 32) - (x7 / 32) / 9 * 9)).toUInt32 % 65536).toInt32) r72 t74 hu73) (cwV 1 hts gL_acts_X5_type rfl rfl rfl (by decide +kernel) ⟨Nat.le_of_ble_eq_true rfl, Nat.le_of_ble_eq_true rfl⟩) hK hP hD hS hA rfl rfl rfl rfl rfl rfl rfl rfl rfl hl.1 rfl (Nat.le_of_ble_eq_true rfl) dL_acts_366 ⟨Nat.le_refl 0, Nat.le_refl 0⟩ (fun H locs hP hD hS => ?_)
  refine lv_istore (lv' := [(5, .int r72), (0, .ref (a 0)), (2, .int x2), (6, .int x6), (7, .int x7)]) hx hb dL_acts_369 hl (by decide) rfl (fun ls hl => ?_)
  refine lv_aload_n hx hb dL_acts_371 rfl (lv_at hl 1 rfl) ?_
  refine lv_bipush (v := 61) hx hb dL_acts_372 (by decide) ?_
  obtain ⟨r75, t77, hu76, h⟩ := ob2_el h
  refine kbi (ci := 5) (q := (RX5, TX5, 8)) (bs := [tdW cI cC cE a t74]) (cs := [tdW cI cC cE a t74]) (cs' := [tdW cI cC cE a t77]) (bs1 := [tdW cI cC cE a t77]) ⟨hx, hb, hml, hown, hts⟩ [0] [] (cq_type l D cI cC cE a _ t74 61 r75 t77 hu76) (cwV 1 hts gL_acts_X5_type rfl rfl rfl (by decide +kernel) ⟨Nat.le_of_ble_eq_true rfl, Nat.le_of_ble_eq_true rfl⟩) hK hP hD hS hA rfl rfl rfl rfl rfl rfl rfl rfl rfl hl.1 rfl (Nat.le_of_ble_eq_true rfl) dL_acts_374 ⟨Nat.le_refl 0, Nat.le_refl 0⟩ (fun H locs hP hD hS => ?_)
  refine lv_istore (lv' := [(5, .int r75), (0, .ref (a 0)), (2, .int x2), (6, .int x6), (7, .int x7)]) hx hb dL_acts_377 hl (by decide) rfl (fun ls hl => ?_)
  refine lv_aload_n hx hb dL_acts_379 rfl (lv_at hl 1 rfl) ?_
  refine lv_bipush (v := 48) hx hb dL_acts_380 (by decide) ?_
  refine lv_iload hx hb dL_acts_382 (lv_at hl 4 rfl) ?_
  refine lv_bipush (v := 16) hx hb dL_acts_384 (by decide) ?_
  refine lv_idiv hx hb dL_acts_386 (by decide) ?_
  refine lv_iconst (v := 3) hx hb dL_acts_387 (by decide) ?_
  refine lv_irem hx hb dL_acts_388 (by decide) ?_
  refine lv_iadd hx hb dL_acts_389 ?_
  refine lv_i2c hx hb dL_acts_390 rfl ?_
  obtain ⟨r78, t80, hu79, h⟩ := ob2_el h
  refine kbi (ci := 5) (q := (RX5, TX5, 8)) (bs := [tdW cI cC cE a t77]) (cs := [tdW cI cC cE a t77]) (cs' := [tdW cI cC cE a t80]) (bs1 := [tdW cI cC cE a t80]) ⟨hx, hb, hml, hown, hts⟩ [0] [] (cq_type l D cI cC cE a _ t77 (((48 + ((x7 / 16) - (x7 / 16) / 3 * 3)).toUInt32 % 65536).toInt32) r78 t80 hu79) (cwV 1 hts gL_acts_X5_type rfl rfl rfl (by decide +kernel) ⟨Nat.le_of_ble_eq_true rfl, Nat.le_of_ble_eq_true rfl⟩) hK hP hD hS hA rfl rfl rfl rfl rfl rfl rfl rfl rfl hl.1 rfl (Nat.le_of_ble_eq_true rfl) dL_acts_391 ⟨Nat.le_refl 0, Nat.le_refl 0⟩ (fun H locs hP hD hS => ?_)
  refine lv_istore (lv' := [(5, .int r78), (0, .ref (a 0)), (2, .int x2), (6, .int x6), (7, .int x7)]) hx hb dL_acts_394 hl (by decide) rfl (fun ls hl => ?_)
  refine lv_iload hx hb dL_acts_396 (lv_at hl 4 rfl) ?_
  refine lv_iconst (v := 4) hx hb dL_acts_398 (by decide) ?_
  refine lv_irem hx hb dL_acts_399 (by decide) ?_
  refine lv_iconst (v := 1) hx hb dL_acts_400 (by decide) ?_
  refine lv_icmp_ne (tgt := 409) hx hb dL_acts_401 (by decide) (fun c81 => ?_) (fun c81 => ?_)
  · have h := (k_iB h).2 c81
    refine lv_aload_n hx hb dL_acts_409 rfl (lv_at hl 1 rfl) ?_
    refine lv_bipush (v := 42) hx hb dL_acts_410 (by decide) ?_
    obtain ⟨r82, t84, hu83, h⟩ := ob2_el h
    refine kbi (ci := 5) (q := (RX5, TX5, 8)) (bs := [tdW cI cC cE a t80]) (cs := [tdW cI cC cE a t80]) (cs' := [tdW cI cC cE a t84]) (bs1 := [tdW cI cC cE a t84]) ⟨hx, hb, hml, hown, hts⟩ [0] [] (cq_type l D cI cC cE a _ t80 42 r82 t84 hu83) (cwV 1 hts gL_acts_X5_type rfl rfl rfl (by decide +kernel) ⟨Nat.le_of_ble_eq_true rfl, Nat.le_of_ble_eq_true rfl⟩) hK hP hD hS hA rfl rfl rfl rfl rfl rfl rfl rfl rfl hl.1 rfl (Nat.le_of_ble_eq_true rfl) dL_acts_412 ⟨Nat.le_refl 0, Nat.le_refl 0⟩ (fun H locs hP hD hS => ?_)
    refine lv_istore (lv' := [(5, .int r82), (0, .ref (a 0)), (2, .int x2), (6, .int x6), (7, .int x7)]) hx hb dL_acts_415 hl (by decide) rfl (fun ls hl => ?_)
    exact (t_L_acts_417 hx hb hml hown hts hK hA fin) LP236 hLP236 x2 r82 x6 x7 t84 _ _ hP hD hS _ (lv_sub hl [1, 2, 0, 3, 4] rfl) h
  · have h := (k_iB h).1 c81
    refine lv_iload hx hb dL_acts_404 (lv_at hl 0 rfl) ?_
    refine lv_goto (tgt := 415) hx hb dL_acts_406 (by decide) ?_
    refine lv_istore (lv' := [(5, .int r78), (0, .ref (a 0)), (2, .int x2), (6, .int x6), (7, .int x7)]) hx hb dL_acts_415 hl (by decide) rfl (fun ls hl => ?_)
    exact (t_L_acts_417 hx hb hml hown hts hK hA fin) LP236 hLP236 x2 r78 x6 x7 t80 _ _ hP hD hS _ (lv_sub hl [1, 2, 0, 3, 4] rfl) h
set_option maxHeartbeats 16000000 in
set_option maxRecDepth 100000 in
theorem t_L_acts_273 {p : Program} {l : Launch} {e : Env} {s : State} {m : MethodId} {below : List Frame} {meth : Method} {c : Code} {A : Nat → Prop} {Q : State → Prop} {D : va_G} {cI cC cE : ClassId} {a : Nat → Nat} {p1 : Int32} {r0 : Int32} {o_t : Td} (hx : p.tables.exec = Jvm.exec) (hb : c.code = cL_acts) (hml : c.maxLocals = 8) (hown : s.vm.findClass RL = some m.cls) (hts : ∀ w ∈ wsL_acts, w.before [.ref (a 0), .int p1].toArray s = true) (hK : va_K D vwCl (kT cI cC cE) s) (hA : ∀ q, s.heap.size ≤ q → A q) (fin : ∀ (pc : Nat) (ls : Array Slot) (H : Heap) (locs : List Loc), decode cL_acts pc = .ok (.ireturn, 1) → va_P D vwCl (fl [tdW cI cC cE a o_t]) H → va_D A (fl [tdW cI cC cE a o_t]) → va_S A s.heap H locs → W p l e ({ frames := 8, cells := 0, slots := 0, locals := 187 } : Room) s m [.ref (a 0), .int p1].toArray below meth c H locs 0 0 Q (F0 m pc ls [.int r0])) : ∀ (LP236 : Int32 → Int32 → Int32 → Td → Option (Int32 × Td)), (∀ (x2 : Int32) (x5 : Int32) (x6 : Int32) (t : Td) (H : Heap) (locs : List Loc), va_P D vwCl (fl [tdW cI cC cE a t]) H → va_D A (fl [tdW cI cC cE a t]) → va_S A s.heap H locs → ∀ (ls : Array Slot), lv_has ls 8 [(0, .ref (a 0)), (2, .int x2), (5, .int x5), (6, .int x6)] → LP236 x2 x5 x6 t = some (r0, o_t) → W p l e ({ frames := 8, cells := 0, slots := 0, locals := 187 } : Room) s m [.ref (a 0), .int p1].toArray below meth c H locs 0 0 Q (F0 m 236 ls [])) → ∀ (x2 : Int32) (x6 : Int32) (x7 : Int32) (t : Td) (H : Heap) (locs : List Loc), va_P D vwCl (fl [tdW cI cC cE a t]) H → va_D A (fl [tdW cI cC cE a t]) → va_S A s.heap H locs → ∀ (ls : Array Slot), lv_has ls 8 [(0, .ref (a 0)), (2, .int x2), (6, .int x6), (7, .int x7)] → j_L_acts_273 LP236 p1 x2 x6 x7 t = some (r0, o_t) → W p l e ({ frames := 8, cells := 0, slots := 0, locals := 187 } : Room) s m [.ref (a 0), .int p1].toArray below meth c H locs 0 0 Q (F0 m 273 ls []) := by
  intro LP236 hLP236
  intro x2 x6 x7 t H locs hP hD hS ls hl h
  dsimp only [j_L_acts_273] at h
  refine lv_iload hx hb dL_acts_273 (lv_at hl 3 rfl) ?_
  refine lv_iconst (v := 4) hx hb dL_acts_275 (by decide) ?_
  refine lv_irem hx hb dL_acts_276 (by decide) ?_
  refine lv_if_ne (tgt := 307) hx hb dL_acts_277 (by decide) (fun c61 => ?_) (fun c61 => ?_)
  · have h := (k_iB h).2 c61
    refine lv_aload_n hx hb dL_acts_307 rfl (lv_at hl 0 rfl) ?_
    refine lv_iload hx hb dL_acts_308 (lv_at hl 3 rfl) ?_
    refine lv_iconst (v := 4) hx hb dL_acts_310 (by decide) ?_
    refine lv_irem hx hb dL_acts_311 (by decide) ?_
    refine lv_iconst (v := 1) hx hb dL_acts_312 (by decide) ?_
    refine lv_icmp_ne (tgt := 321) hx hb dL_acts_313 (by decide) (fun c62 => ?_) (fun c62 => ?_)
    · have h := (k_iB h).2 c62
      refine lv_bipush (v := 97) hx hb dL_acts_321 (by decide) ?_
      obtain ⟨r63, t65, hu64, h⟩ := ob2_el h
      refine kbi (ci := 5) (q := (RX5, TX5, 8)) (bs := [tdW cI cC cE a t]) (cs := [tdW cI cC cE a t]) (cs' := [tdW cI cC cE a t65]) (bs1 := [tdW cI cC cE a t65]) ⟨hx, hb, hml, hown, hts⟩ [0] [] (cq_type l D cI cC cE a _ t 97 r63 t65 hu64) (cwV 1 hts gL_acts_X5_type rfl rfl rfl (by decide +kernel) ⟨Nat.le_of_ble_eq_true rfl, Nat.le_of_ble_eq_true rfl⟩) hK hP hD hS hA rfl rfl rfl rfl rfl rfl rfl rfl rfl hl.1 rfl (Nat.le_of_ble_eq_true rfl) dL_acts_323 ⟨Nat.le_refl 0, Nat.le_refl 0⟩ (fun H locs hP hD hS => ?_)
      refine lv_istore (lv' := [(5, .int r63), (0, .ref (a 0)), (2, .int x2), (6, .int x6), (7, .int x7)]) hx hb dL_acts_326 hl (by decide) rfl (fun ls hl => ?_)
      exact (t_L_acts_328 hx hb hml hown hts hK hA fin) LP236 hLP236 x2 x6 x7 t65 _ _ hP hD hS _ (lv_sub hl [1, 2, 3, 4] rfl) h
    · have h := (k_iB h).1 c62
      refine lv_bipush (v := 114) hx hb dL_acts_316 (by decide) ?_
      refine lv_goto (tgt := 323) hx hb dL_acts_318 (by decide) ?_
      obtain ⟨r89, t91, hu90, h⟩ := ob2_el h
      refine kbi (ci := 5) (q := (RX5, TX5, 8)) (bs := [tdW cI cC cE a t]) (cs := [tdW cI cC cE a t]) (cs' := [tdW cI cC cE a t91]) (bs1 := [tdW cI cC cE a t91]) ⟨hx, hb, hml, hown, hts⟩ [0] [] (cq_type l D cI cC cE a _ t 114 r89 t91 hu90) (cwV 1 hts gL_acts_X5_type rfl rfl rfl (by decide +kernel) ⟨Nat.le_of_ble_eq_true rfl, Nat.le_of_ble_eq_true rfl⟩) hK hP hD hS hA rfl rfl rfl rfl rfl rfl rfl rfl rfl hl.1 rfl (Nat.le_of_ble_eq_true rfl) dL_acts_323 ⟨Nat.le_refl 0, Nat.le_refl 0⟩ (fun H locs hP hD hS => ?_)
      refine lv_istore (lv' := [(5, .int r89), (0, .ref (a 0)), (2, .int x2), (6, .int x6), (7, .int x7)]) hx hb dL_acts_326 hl (by decide) rfl (fun ls hl => ?_)
      exact (t_L_acts_328 hx hb hml hown hts hK hA fin) LP236 hLP236 x2 x6 x7 t91 _ _ hP hD hS _ (lv_sub hl [1, 2, 3, 4] rfl) h
  · have h := (k_iB h).1 c61
    refine lv_aload_n hx hb dL_acts_280 rfl (lv_at hl 0 rfl) ?_
    refine lv_bipush (v := 46) hx hb dL_acts_281 (by decide) ?_
    obtain ⟨r92, t94, hu93, h⟩ := ob2_el h
    refine kbi (ci := 5) (q := (RX5, TX5, 8)) (bs := [tdW cI cC cE a t]) (cs := [tdW cI cC cE a t]) (cs' := [tdW cI cC cE a t94]) (bs1 := [tdW cI cC cE a t94]) ⟨hx, hb, hml, hown, hts⟩ [0] [] (cq_type l D cI cC cE a _ t 46 r92 t94 hu93) (cwV 1 hts gL_acts_X5_type rfl rfl rfl (by decide +kernel) ⟨Nat.le_of_ble_eq_true rfl, Nat.le_of_ble_eq_true rfl⟩) hK hP hD hS hA rfl rfl rfl rfl rfl rfl rfl rfl rfl hl.1 rfl (Nat.le_of_ble_eq_true rfl) dL_acts_283 ⟨Nat.le_refl 0, Nat.le_refl 0⟩ (fun H locs hP hD hS => ?_)
    refine lv_istore (lv' := [(5, .int r92), (0, .ref (a 0)), (2, .int x2), (6, .int x6), (7, .int x7)]) hx hb dL_acts_286 hl (by decide) rfl (fun ls hl => ?_)
    refine lv_aload_n hx hb dL_acts_288 rfl (lv_at hl 1 rfl) ?_
    refine lv_bipush (v := 49) hx hb dL_acts_289 (by decide) ?_
    refine lv_iload hx hb dL_acts_291 (lv_at hl 4 rfl) ?_
    refine lv_iconst (v := 4) hx hb dL_acts_293 (by decide) ?_
    refine lv_idiv hx hb dL_acts_294 (by decide) ?_
    refine lv_iconst (v := 4) hx hb dL_acts_295 (by decide) ?_
    refine lv_irem hx hb dL_acts_296 (by decide) ?_
    refine lv_iadd hx hb dL_acts_297 ?_
    refine lv_i2c hx hb dL_acts_298 rfl ?_
    obtain ⟨r95, t97, hu96, h⟩ := ob2_el h
    refine kbi (ci := 5) (q := (RX5, TX5, 8)) (bs := [tdW cI cC cE a t94]) (cs := [tdW cI cC cE a t94]) (cs' := [tdW cI cC cE a t97]) (bs1 := [tdW cI cC cE a t97]) ⟨hx, hb, hml, hown, hts⟩ [0] [] (cq_type l D cI cC cE a _ t94 (((49 + ((x7 / 4) - (x7 / 4) / 4 * 4)).toUInt32 % 65536).toInt32) r95 t97 hu96) (cwV 1 hts gL_acts_X5_type rfl rfl rfl (by decide +kernel) ⟨Nat.le_of_ble_eq_true rfl, Nat.le_of_ble_eq_true rfl⟩) hK hP hD hS hA rfl rfl rfl rfl rfl rfl rfl rfl rfl hl.1 rfl (Nat.le_of_ble_eq_true rfl) dL_acts_299 ⟨Nat.le_refl 0, Nat.le_refl 0⟩ (fun H locs hP hD hS => ?_)
    refine lv_istore (lv' := [(5, .int r95), (0, .ref (a 0)), (2, .int x2), (6, .int x6), (7, .int x7)]) hx hb dL_acts_302 hl (by decide) rfl (fun ls hl => ?_)
    refine lv_goto (tgt := 448) hx hb dL_acts_304 (by decide) ?_
    refine lv_iinc (v := (x6 + 1)) (lv' := [(6, .int (x6 + 1)), (5, .int r95), (0, .ref (a 0)), (2, .int x2), (7, .int x7)]) hx hb dL_acts_448 hl (k := 3) rfl rfl (by decide) rfl (fun ls hl => ?_)
    refine lv_goto (tgt := 236) hx hb dL_acts_451 (by decide) ?_
    exact hLP236 x2 r95 (x6 + 1) t97 _ _ hP hD hS _ (lv_sub hl [2, 3, 1, 0] rfl) h
set_option maxHeartbeats 16000000 in
set_option maxRecDepth 100000 in
theorem t_L_acts_236 {p : Program} {l : Launch} {e : Env} {s : State} {m : MethodId} {below : List Frame} {meth : Method} {c : Code} {A : Nat → Prop} {Q : State → Prop} {D : va_G} {cI cC cE : ClassId} {a : Nat → Nat} {p1 : Int32} {r0 : Int32} {o_t : Td} (hx : p.tables.exec = Jvm.exec) (hb : c.code = cL_acts) (hml : c.maxLocals = 8) (hown : s.vm.findClass RL = some m.cls) (hts : ∀ w ∈ wsL_acts, w.before [.ref (a 0), .int p1].toArray s = true) (hK : va_K D vwCl (kT cI cC cE) s) (hA : ∀ q, s.heap.size ≤ q → A q) (fin : ∀ (pc : Nat) (ls : Array Slot) (H : Heap) (locs : List Loc), decode cL_acts pc = .ok (.ireturn, 1) → va_P D vwCl (fl [tdW cI cC cE a o_t]) H → va_D A (fl [tdW cI cC cE a o_t]) → va_S A s.heap H locs → W p l e ({ frames := 8, cells := 0, slots := 0, locals := 187 } : Room) s m [.ref (a 0), .int p1].toArray below meth c H locs 0 0 Q (F0 m pc ls [.int r0])) : ∀ (k : Nat), ∀ (x2 : Int32) (x5 : Int32) (x6 : Int32) (t : Td) (H : Heap) (locs : List Loc), va_P D vwCl (fl [tdW cI cC cE a t]) H → va_D A (fl [tdW cI cC cE a t]) → va_S A s.heap H locs → ∀ (ls : Array Slot), lv_has ls 8 [(0, .ref (a 0)), (2, .int x2), (5, .int x5), (6, .int x6)] → lp_L_acts_236  p1 k x2 x5 x6 t = some (r0, o_t) → W p l e ({ frames := 8, cells := 0, slots := 0, locals := 187 } : Room) s m [.ref (a 0), .int p1].toArray below meth c H locs 0 0 Q (F0 m 236 ls []) := by
  intro k
  induction k with
  | zero =>
    intro x2 x5 x6 t H locs hP hD hS ls hl h
    exact k_none h
  | succ k ih =>
    intro x2 x5 x6 t H locs hP hD hS ls hl h
    dsimp only [lp_L_acts_236] at h
    refine lv_iload hx hb dL_acts_236 (lv_at hl 3 rfl) ?_
    refine lv_iconst (v := 1) hx hb dL_acts_238 (by decide) ?_
    refine lv_iload_n hx hb dL_acts_239 rfl (lv_at hl 1 rfl) ?_
    refine lv_iconst (v := 4) hx hb dL_acts_240 (by decide) ?_
    refine lv_irem hx hb dL_acts_241 (by decide) ?_
    refine lv_iadd hx hb dL_acts_242 ?_
    refine lv_icmp_ge (tgt := 454) hx hb dL_acts_243 (by decide) (fun c55 => ?_) (fun c55 => ?_)
    · have h := (k_iB h).1 c55
      refine lv_iload hx hb dL_acts_454 (lv_at hl 2 rfl) ?_
      refine lv_iconst (v := 1) hx hb dL_acts_456 (by decide) ?_
      refine lv_icmp_ge (tgt := 465) hx hb dL_acts_457 (by decide) (fun c56 => ?_) (fun c56 => ?_)
      · have h := (k_iB h).1 c56
        refine lv_aload_n hx hb dL_acts_465 rfl (lv_at hl 0 rfl) ?_
        obtain ⟨r57, t59, hu58, h⟩ := ob2_el h
        refine kbi (ci := 5) (q := (RX5, TX5, 8)) (bs := [tdW cI cC cE a t]) (cs := [tdW cI cC cE a t]) (cs' := [tdW cI cC cE a t59]) (bs1 := [tdW cI cC cE a t59]) ⟨hx, hb, hml, hown, hts⟩ [0] [] (cq_perform l D cI cC cE a _ t  r57 t59 hu58) (cwV 0 hts gL_acts_X5_perform rfl rfl rfl (by decide +kernel) ⟨Nat.le_of_ble_eq_true rfl, Nat.le_of_ble_eq_true rfl⟩) hK hP hD hS hA rfl rfl rfl rfl rfl rfl rfl rfl rfl hl.1 rfl (Nat.le_of_ble_eq_true rfl) dL_acts_466 ⟨Nat.le_refl 0, Nat.le_refl 0⟩ (fun H locs hP hD hS => ?_)
        obtain ⟨rfl, rfl⟩ := inj2 (Option.some.inj h)
        exact fin _ _ _ _ dL_acts_469 hP hD hS
      · have h := (k_iB h).2 c56
        refine lv_bipush (v := (-9)) hx hb dL_acts_460 (by decide) ?_
        refine lv_goto (tgt := 469) hx hb dL_acts_462 (by decide) ?_
        obtain ⟨rfl, rfl⟩ := inj2 (Option.some.inj h)
        exact fin _ _ _ _ dL_acts_469 hP hD hS
    · have h := (k_iB h).2 c55
      refine lv_iload_n hx hb dL_acts_246 rfl (lv_at hl 1 rfl) ?_
      refine lv_iconst (v := 4) hx hb dL_acts_247 (by decide) ?_
      refine lv_idiv hx hb dL_acts_248 (by decide) ?_
      refine lv_iconst (v := 5) hx hb dL_acts_249 (by decide) ?_
      refine lv_iload hx hb dL_acts_250 (lv_at hl 3 rfl) ?_
      refine lv_imul hx hb dL_acts_252 ?_
      refine lv_ishr hx hb dL_acts_253 ?_
      refine lv_istore (lv' := [(7, .int ((x2 / 4) >>> ((5 * x6) &&& 31))), (0, .ref (a 0)), (2, .int x2), (5, .int x5), (6, .int x6)]) hx hb dL_acts_254 hl (by decide) rfl (fun ls hl => ?_)
      refine lv_iload hx hb dL_acts_256 (lv_at hl 4 rfl) ?_
      refine lv_if_le (tgt := 270) hx hb dL_acts_258 (by decide) (fun c60 => ?_) (fun c60 => ?_)
      · have h := (k_iB h).1 c60
        refine lv_iconst (v := 0) hx hb dL_acts_270 (by decide) ?_
        refine lv_istore (lv' := [(5, .int 0), (7, .int ((x2 / 4) >>> ((5 * x6) &&& 31))), (0, .ref (a 0)), (2, .int x2), (6, .int x6)]) hx hb dL_acts_271 hl (by decide) rfl (fun ls hl => ?_)
        exact (t_L_acts_273 hx hb hml hown hts hK hA fin) (lp_L_acts_236  p1 k) ih x2 x6 ((x2 / 4) >>> ((5 * x6) &&& 31)) t _ _ hP hD hS _ (lv_sub hl [2, 3, 4, 1] rfl) h
      · have h := (k_iB h).2 c60
        refine lv_aload_n hx hb dL_acts_261 rfl (lv_at hl 1 rfl) ?_
        refine lv_bipush (v := 59) hx hb dL_acts_262 (by decide) ?_
        obtain ⟨r98, t100, hu99, h⟩ := ob2_el h
        refine kbi (ci := 5) (q := (RX5, TX5, 8)) (bs := [tdW cI cC cE a t]) (cs := [tdW cI cC cE a t]) (cs' := [tdW cI cC cE a t100]) (bs1 := [tdW cI cC cE a t100]) ⟨hx, hb, hml, hown, hts⟩ [0] [] (cq_type l D cI cC cE a _ t 59 r98 t100 hu99) (cwV 1 hts gL_acts_X5_type rfl rfl rfl (by decide +kernel) ⟨Nat.le_of_ble_eq_true rfl, Nat.le_of_ble_eq_true rfl⟩) hK hP hD hS hA rfl rfl rfl rfl rfl rfl rfl rfl rfl hl.1 rfl (Nat.le_of_ble_eq_true rfl) dL_acts_264 ⟨Nat.le_refl 0, Nat.le_refl 0⟩ (fun H locs hP hD hS => ?_)
        refine lv_goto (tgt := 271) hx hb dL_acts_267 (by decide) ?_
        refine lv_istore (lv' := [(5, .int r98), (7, .int ((x2 / 4) >>> ((5 * x6) &&& 31))), (0, .ref (a 0)), (2, .int x2), (6, .int x6)]) hx hb dL_acts_271 hl (by decide) rfl (fun ls hl => ?_)
        exact (t_L_acts_273 hx hb hml hown hts hK hA fin) (lp_L_acts_236  p1 k) ih x2 x6 ((x2 / 4) >>> ((5 * x6) &&& 31)) t100 _ _ hP hD hS _ (lv_sub hl [2, 3, 4, 1] rfl) h
set_option maxHeartbeats 16000000 in
set_option maxRecDepth 100000 in
theorem t_L_acts_227 {p : Program} {l : Launch} {e : Env} {s : State} {m : MethodId} {below : List Frame} {meth : Method} {c : Code} {A : Nat → Prop} {Q : State → Prop} {D : va_G} {cI cC cE : ClassId} {a : Nat → Nat} {p1 : Int32} {r0 : Int32} {o_t : Td} (hx : p.tables.exec = Jvm.exec) (hb : c.code = cL_acts) (hml : c.maxLocals = 8) (hown : s.vm.findClass RL = some m.cls) (hts : ∀ w ∈ wsL_acts, w.before [.ref (a 0), .int p1].toArray s = true) (hK : va_K D vwCl (kT cI cC cE) s) (hA : ∀ q, s.heap.size ≤ q → A q) (fin : ∀ (pc : Nat) (ls : Array Slot) (H : Heap) (locs : List Loc), decode cL_acts pc = .ok (.ireturn, 1) → va_P D vwCl (fl [tdW cI cC cE a o_t]) H → va_D A (fl [tdW cI cC cE a o_t]) → va_S A s.heap H locs → W p l e ({ frames := 8, cells := 0, slots := 0, locals := 187 } : Room) s m [.ref (a 0), .int p1].toArray below meth c H locs 0 0 Q (F0 m pc ls [.int r0])) : ∀ (x2 : Int32) (t : Td) (H : Heap) (locs : List Loc), va_P D vwCl (fl [tdW cI cC cE a t]) H → va_D A (fl [tdW cI cC cE a t]) → va_S A s.heap H locs → ∀ (ls : Array Slot), lv_has ls 8 [(0, .ref (a 0)), (2, .int x2)] → j_L_acts_227  p1 x2 t = some (r0, o_t) → W p l e ({ frames := 8, cells := 0, slots := 0, locals := 187 } : Room) s m [.ref (a 0), .int p1].toArray below meth c H locs 0 0 Q (F0 m 227 ls []) := by
  intro x2 t H locs hP hD hS ls hl h
  dsimp only [j_L_acts_227] at h
  refine lv_aload_n hx hb dL_acts_227 rfl (lv_at hl 0 rfl) ?_
  obtain ⟨r52, t54, hu53, h⟩ := ob2_el h
  refine kbi (ci := 5) (q := (RX5, TX5, 8)) (bs := [tdW cI cC cE a t]) (cs := [tdW cI cC cE a t]) (cs' := [tdW cI cC cE a t54]) (bs1 := [tdW cI cC cE a t54]) ⟨hx, hb, hml, hown, hts⟩ [0] [] (cq_clearText l D cI cC cE a _ t  r52 t54 hu53) (cwV 0 hts gL_acts_X5_clearText rfl rfl rfl (by decide +kernel) ⟨Nat.le_of_ble_eq_true rfl, Nat.le_of_ble_eq_true rfl⟩) hK hP hD hS hA rfl rfl rfl rfl rfl rfl rfl rfl rfl hl.1 rfl (Nat.le_of_ble_eq_true rfl) dL_acts_228 ⟨Nat.le_refl 0, Nat.le_refl 0⟩ (fun H locs hP hD hS => ?_)
  refine lv_istore (lv' := [(5, .int r52), (0, .ref (a 0)), (2, .int x2)]) hx hb dL_acts_231 hl (by decide) rfl (fun ls hl => ?_)
  refine lv_iconst (v := 0) hx hb dL_acts_233 (by decide) ?_
  refine lv_istore (lv' := [(6, .int 0), (5, .int r52), (0, .ref (a 0)), (2, .int x2)]) hx hb dL_acts_234 hl (by decide) rfl (fun ls hl => ?_)
  exact (t_L_acts_236 hx hb hml hown hts hK hA fin)   fuel x2 r52 0 t54 _ _ hP hD hS _ (lv_sub hl [2, 3, 1, 0] rfl) h
set_option maxHeartbeats 16000000 in
set_option maxRecDepth 100000 in
theorem t_L_acts_28 {p : Program} {l : Launch} {e : Env} {s : State} {m : MethodId} {below : List Frame} {meth : Method} {c : Code} {A : Nat → Prop} {Q : State → Prop} {D : va_G} {cI cC cE : ClassId} {a : Nat → Nat} {p1 : Int32} {r0 : Int32} {o_t : Td} (hx : p.tables.exec = Jvm.exec) (hb : c.code = cL_acts) (hml : c.maxLocals = 8) (hown : s.vm.findClass RL = some m.cls) (hts : ∀ w ∈ wsL_acts, w.before [.ref (a 0), .int p1].toArray s = true) (hK : va_K D vwCl (kT cI cC cE) s) (hA : ∀ q, s.heap.size ≤ q → A q) (fin : ∀ (pc : Nat) (ls : Array Slot) (H : Heap) (locs : List Loc), decode cL_acts pc = .ok (.ireturn, 1) → va_P D vwCl (fl [tdW cI cC cE a o_t]) H → va_D A (fl [tdW cI cC cE a o_t]) → va_S A s.heap H locs → W p l e ({ frames := 8, cells := 0, slots := 0, locals := 187 } : Room) s m [.ref (a 0), .int p1].toArray below meth c H locs 0 0 Q (F0 m pc ls [.int r0])) : ∀ (x2 : Int32) (x4 : Int32) (t : Td) (H : Heap) (locs : List Loc), va_P D vwCl (fl [tdW cI cC cE a t]) H → va_D A (fl [tdW cI cC cE a t]) → va_S A s.heap H locs → ∀ (ls : Array Slot), lv_has ls 8 [(0, .ref (a 0)), (1, .int p1), (2, .int x2), (4, .int x4)] → j_L_acts_28  p1 x2 x4 t = some (r0, o_t) → W p l e ({ frames := 8, cells := 0, slots := 0, locals := 187 } : Room) s m [.ref (a 0), .int p1].toArray below meth c H locs 0 0 Q (F0 m 28 ls []) := by
  intro x2 x4 t H locs hP hD hS ls hl h
  dsimp only [j_L_acts_28] at h
  refine lv_iload_n hx hb dL_acts_28 rfl (lv_at hl 1 rfl) ?_
  refine lv_bipush (v := 32) hx hb dL_acts_29 (by decide) ?_
  refine lv_irem hx hb dL_acts_31 (by decide) ?_
  by_cases c5 : (p1 - p1 / 32 * 32) = 0
  · have h := (k_iB h).1 c5
    refine lv_tableIn (off := 100) (tgt := 132) hx hb dL_acts_32 (by rw [c5]; decide) (by rw [c5]; decide) (by rw [c5]; rfl) (by decide) ?_
    exact (t_L_acts_132 hx hb hml hown hts hK hA fin)   x2 t _ _ hP hD hS _ (lv_sub hl [0, 2] rfl) h
  · have h := (k_iB h).2 c5
    by_cases c9 : (p1 - p1 / 32 * 32) = 1
    · have h := (k_iB h).1 c9
      refine lv_tableIn (off := 100) (tgt := 132) hx hb dL_acts_32 (by rw [c9]; decide) (by rw [c9]; decide) (by rw [c9]; rfl) (by decide) ?_
      exact (t_L_acts_132 hx hb hml hown hts hK hA fin)   x2 t _ _ hP hD hS _ (lv_sub hl [0, 2] rfl) h
    · have h := (k_iB h).2 c9
      by_cases c10 : (p1 - p1 / 32 * 32) = 2
      · have h := (k_iB h).1 c10
        refine lv_tableIn (off := 100) (tgt := 132) hx hb dL_acts_32 (by rw [c10]; decide) (by rw [c10]; decide) (by rw [c10]; rfl) (by decide) ?_
        exact (t_L_acts_132 hx hb hml hown hts hK hA fin)   x2 t _ _ hP hD hS _ (lv_sub hl [0, 2] rfl) h
      · have h := (k_iB h).2 c10
        by_cases c11 : (p1 - p1 / 32 * 32) = 3
        · have h := (k_iB h).1 c11
          refine lv_tableIn (off := 100) (tgt := 132) hx hb dL_acts_32 (by rw [c11]; decide) (by rw [c11]; decide) (by rw [c11]; rfl) (by decide) ?_
          exact (t_L_acts_132 hx hb hml hown hts hK hA fin)   x2 t _ _ hP hD hS _ (lv_sub hl [0, 2] rfl) h
        · have h := (k_iB h).2 c11
          by_cases c12 : (p1 - p1 / 32 * 32) = 4
          · have h := (k_iB h).1 c12
            refine lv_tableIn (off := 100) (tgt := 132) hx hb dL_acts_32 (by rw [c12]; decide) (by rw [c12]; decide) (by rw [c12]; rfl) (by decide) ?_
            exact (t_L_acts_132 hx hb hml hown hts hK hA fin)   x2 t _ _ hP hD hS _ (lv_sub hl [0, 2] rfl) h
          · have h := (k_iB h).2 c12
            by_cases c13 : (p1 - p1 / 32 * 32) = 5
            · have h := (k_iB h).1 c13
              refine lv_tableIn (off := 100) (tgt := 132) hx hb dL_acts_32 (by rw [c13]; decide) (by rw [c13]; decide) (by rw [c13]; rfl) (by decide) ?_
              exact (t_L_acts_132 hx hb hml hown hts hK hA fin)   x2 t _ _ hP hD hS _ (lv_sub hl [0, 2] rfl) h
            · have h := (k_iB h).2 c13
              by_cases c14 : (p1 - p1 / 32 * 32) = 6
              · have h := (k_iB h).1 c14
                refine lv_tableIn (off := 125) (tgt := 157) hx hb dL_acts_32 (by rw [c14]; decide) (by rw [c14]; decide) (by rw [c14]; rfl) (by decide) ?_
                refine lv_aload_n hx hb dL_acts_157 rfl (lv_at hl 0 rfl) ?_
                refine lv_iload hx hb dL_acts_158 (lv_at hl 3 rfl) ?_
                obtain ⟨r15, t17, hu16, h⟩ := ob2_el h
                refine kbi (ci := 5) (q := (RX5, TX5, 8)) (bs := [tdW cI cC cE a t]) (cs := [tdW cI cC cE a t]) (cs' := [tdW cI cC cE a t17]) (bs1 := [tdW cI cC cE a t17]) ⟨hx, hb, hml, hown, hts⟩ [0] [] (cq_withdraw l D cI cC cE a _ t x4 r15 t17 hu16) (cwV 1 hts gL_acts_X5_withdraw rfl rfl rfl (by decide +kernel) ⟨Nat.le_of_ble_eq_true rfl, Nat.le_of_ble_eq_true rfl⟩) hK hP hD hS hA rfl rfl rfl rfl rfl rfl rfl rfl rfl hl.1 rfl (Nat.le_of_ble_eq_true rfl) dL_acts_160 ⟨Nat.le_refl 0, Nat.le_refl 0⟩ (fun H locs hP hD hS => ?_)
                obtain ⟨rfl, rfl⟩ := inj2 (Option.some.inj h)
                exact fin _ _ _ _ dL_acts_163 hP hD hS
              · have h := (k_iB h).2 c14
                by_cases c18 : (p1 - p1 / 32 * 32) = 7
                · have h := (k_iB h).1 c18
                  refine lv_tableIn (off := 132) (tgt := 164) hx hb dL_acts_32 (by rw [c18]; decide) (by rw [c18]; decide) (by rw [c18]; rfl) (by decide) ?_
                  refine lv_aload_n hx hb dL_acts_164 rfl (lv_at hl 0 rfl) ?_
                  obtain ⟨r19, t21, hu20, h⟩ := ob2_el h
                  refine kbi (ci := 5) (q := (RX5, TX5, 8)) (bs := [tdW cI cC cE a t]) (cs := [tdW cI cC cE a t]) (cs' := [tdW cI cC cE a t21]) (bs1 := [tdW cI cC cE a t21]) ⟨hx, hb, hml, hown, hts⟩ [0] [] (cq_adjust l D cI cC cE a _ t  r19 t21 hu20) (cwV 0 hts gL_acts_X5_adjust rfl rfl rfl (by decide +kernel) ⟨Nat.le_of_ble_eq_true rfl, Nat.le_of_ble_eq_true rfl⟩) hK hP hD hS hA rfl rfl rfl rfl rfl rfl rfl rfl rfl hl.1 rfl (Nat.le_of_ble_eq_true rfl) dL_acts_165 ⟨Nat.le_refl 0, Nat.le_refl 0⟩ (fun H locs hP hD hS => ?_)
                  obtain ⟨rfl, rfl⟩ := inj2 (Option.some.inj h)
                  exact fin _ _ _ _ dL_acts_168 hP hD hS
                · have h := (k_iB h).2 c18
                  by_cases c22 : (p1 - p1 / 32 * 32) = 8
                  · have h := (k_iB h).1 c22
                    refine lv_tableIn (off := 137) (tgt := 169) hx hb dL_acts_32 (by rw [c22]; decide) (by rw [c22]; decide) (by rw [c22]; rfl) (by decide) ?_
                    exact (t_L_acts_169 hx hb hml hown hts hK hA fin)   x2 t _ _ hP hD hS _ (lv_sub hl [0, 2] rfl) h
                  · have h := (k_iB h).2 c22
                    by_cases c30 : (p1 - p1 / 32 * 32) = 9
                    · have h := (k_iB h).1 c30
                      refine lv_tableIn (off := 137) (tgt := 169) hx hb dL_acts_32 (by rw [c30]; decide) (by rw [c30]; decide) (by rw [c30]; rfl) (by decide) ?_
                      exact (t_L_acts_169 hx hb hml hown hts hK hA fin)   x2 t _ _ hP hD hS _ (lv_sub hl [0, 2] rfl) h
                    · have h := (k_iB h).2 c30
                      by_cases c31 : (p1 - p1 / 32 * 32) = 10
                      · have h := (k_iB h).1 c31
                        refine lv_tableIn (off := 170) (tgt := 202) hx hb dL_acts_32 (by rw [c31]; decide) (by rw [c31]; decide) (by rw [c31]; rfl) (by decide) ?_
                        exact (t_L_acts_202 hx hb hml hown hts hK hA fin)   x2 t _ _ hP hD hS _ (lv_sub hl [0, 2] rfl) h
                      · have h := (k_iB h).2 c31
                        by_cases c35 : (p1 - p1 / 32 * 32) = 11
                        · have h := (k_iB h).1 c35
                          refine lv_tableIn (off := 170) (tgt := 202) hx hb dL_acts_32 (by rw [c35]; decide) (by rw [c35]; decide) (by rw [c35]; rfl) (by decide) ?_
                          exact (t_L_acts_202 hx hb hml hown hts hK hA fin)   x2 t _ _ hP hD hS _ (lv_sub hl [0, 2] rfl) h
                        · have h := (k_iB h).2 c35
                          by_cases c36 : (p1 - p1 / 32 * 32) = 12
                          · have h := (k_iB h).1 c36
                            refine lv_tableIn (off := 170) (tgt := 202) hx hb dL_acts_32 (by rw [c36]; decide) (by rw [c36]; decide) (by rw [c36]; rfl) (by decide) ?_
                            exact (t_L_acts_202 hx hb hml hown hts hK hA fin)   x2 t _ _ hP hD hS _ (lv_sub hl [0, 2] rfl) h
                          · have h := (k_iB h).2 c36
                            by_cases c37 : (p1 - p1 / 32 * 32) = 13
                            · have h := (k_iB h).1 c37
                              refine lv_tableIn (off := 170) (tgt := 202) hx hb dL_acts_32 (by rw [c37]; decide) (by rw [c37]; decide) (by rw [c37]; rfl) (by decide) ?_
                              exact (t_L_acts_202 hx hb hml hown hts hK hA fin)   x2 t _ _ hP hD hS _ (lv_sub hl [0, 2] rfl) h
                            · have h := (k_iB h).2 c37
                              by_cases c38 : (p1 - p1 / 32 * 32) = 14
                              · have h := (k_iB h).1 c38
                                refine lv_tableIn (off := 180) (tgt := 212) hx hb dL_acts_32 (by rw [c38]; decide) (by rw [c38]; decide) (by rw [c38]; rfl) (by decide) ?_
                                exact (t_L_acts_212 hx hb hml hown hts hK hA fin)   t _ _ hP hD hS _ (lv_sub hl [0] rfl) h
                              · have h := (k_iB h).2 c38
                                by_cases c42 : (p1 - p1 / 32 * 32) = 15
                                · have h := (k_iB h).1 c42
                                  refine lv_tableIn (off := 180) (tgt := 212) hx hb dL_acts_32 (by rw [c42]; decide) (by rw [c42]; decide) (by rw [c42]; rfl) (by decide) ?_
                                  exact (t_L_acts_212 hx hb hml hown hts hK hA fin)   t _ _ hP hD hS _ (lv_sub hl [0] rfl) h
                                · have h := (k_iB h).2 c42
                                  by_cases c43 : (p1 - p1 / 32 * 32) = 16
                                  · have h := (k_iB h).1 c43
                                    refine lv_tableIn (off := 185) (tgt := 217) hx hb dL_acts_32 (by rw [c43]; decide) (by rw [c43]; decide) (by rw [c43]; rfl) (by decide) ?_
                                    refine lv_aload_n hx hb dL_acts_217 rfl (lv_at hl 0 rfl) ?_
                                    obtain ⟨r44, t46, hu45, h⟩ := ob2_el h
                                    refine kbi (ci := 5) (q := (RX5, TX5, 8)) (bs := [tdW cI cC cE a t]) (cs := [tdW cI cC cE a t]) (cs' := [tdW cI cC cE a t46]) (bs1 := [tdW cI cC cE a t46]) ⟨hx, hb, hml, hown, hts⟩ [0] [] (cq_keep l D cI cC cE a _ t  r44 t46 hu45) (cwV 0 hts gL_acts_X5_keep rfl rfl rfl (by decide +kernel) ⟨Nat.le_of_ble_eq_true rfl, Nat.le_of_ble_eq_true rfl⟩) hK hP hD hS hA rfl rfl rfl rfl rfl rfl rfl rfl rfl hl.1 rfl (Nat.le_of_ble_eq_true rfl) dL_acts_218 ⟨Nat.le_refl 0, Nat.le_refl 0⟩ (fun H locs hP hD hS => ?_)
                                    obtain ⟨rfl, rfl⟩ := inj2 (Option.some.inj h)
                                    exact fin _ _ _ _ dL_acts_221 hP hD hS
                                  · have h := (k_iB h).2 c43
                                    by_cases c47 : (p1 - p1 / 32 * 32) = 17
                                    · have h := (k_iB h).1 c47
                                      refine lv_tableIn (off := 190) (tgt := 222) hx hb dL_acts_32 (by rw [c47]; decide) (by rw [c47]; decide) (by rw [c47]; rfl) (by decide) ?_
                                      refine lv_aload_n hx hb dL_acts_222 rfl (lv_at hl 0 rfl) ?_
                                      obtain ⟨r48, t50, hu49, h⟩ := ob2_el h
                                      refine kbi (ci := 5) (q := (RX5, TX5, 8)) (bs := [tdW cI cC cE a t]) (cs := [tdW cI cC cE a t]) (cs' := [tdW cI cC cE a t50]) (bs1 := [tdW cI cC cE a t50]) ⟨hx, hb, hml, hown, hts⟩ [0] [] (cq_restore l D cI cC cE a _ t  r48 t50 hu49) (cwV 0 hts gL_acts_X5_restore rfl rfl rfl (by decide +kernel) ⟨Nat.le_of_ble_eq_true rfl, Nat.le_of_ble_eq_true rfl⟩) hK hP hD hS hA rfl rfl rfl rfl rfl rfl rfl rfl rfl hl.1 rfl (Nat.le_of_ble_eq_true rfl) dL_acts_223 ⟨Nat.le_refl 0, Nat.le_refl 0⟩ (fun H locs hP hD hS => ?_)
                                      obtain ⟨rfl, rfl⟩ := inj2 (Option.some.inj h)
                                      exact fin _ _ _ _ dL_acts_226 hP hD hS
                                    · have h := (k_iB h).2 c47
                                      by_cases c51 : (p1 - p1 / 32 * 32) = 18
                                      · have h := (k_iB h).1 c51
                                        refine lv_tableIn (off := 195) (tgt := 227) hx hb dL_acts_32 (by rw [c51]; decide) (by rw [c51]; decide) (by rw [c51]; rfl) (by decide) ?_
                                        exact (t_L_acts_227 hx hb hml hown hts hK hA fin)   x2 t _ _ hP hD hS _ (lv_sub hl [0, 2] rfl) h
                                      · have h := (k_iB h).2 c51
                                        by_cases c101 : (p1 - p1 / 32 * 32) = 19
                                        · have h := (k_iB h).1 c101
                                          refine lv_tableIn (off := 195) (tgt := 227) hx hb dL_acts_32 (by rw [c101]; decide) (by rw [c101]; decide) (by rw [c101]; rfl) (by decide) ?_
                                          exact (t_L_acts_227 hx hb hml hown hts hK hA fin)   x2 t _ _ hP hD hS _ (lv_sub hl [0, 2] rfl) h
                                        · have h := (k_iB h).2 c101
                                          by_cases c102 : (p1 - p1 / 32 * 32) = 20
                                          · have h := (k_iB h).1 c102
                                            refine lv_tableIn (off := 195) (tgt := 227) hx hb dL_acts_32 (by rw [c102]; decide) (by rw [c102]; decide) (by rw [c102]; rfl) (by decide) ?_
                                            exact (t_L_acts_227 hx hb hml hown hts hK hA fin)   x2 t _ _ hP hD hS _ (lv_sub hl [0, 2] rfl) h
                                          · have h := (k_iB h).2 c102
                                            refine lv_tableOut (tgt := 470) hx hb dL_acts_32 (by have zc5 := lv_neT c5 (show ((0 : Int32)).toInt = 0 from rfl); have zc9 := lv_neT c9 (show ((1 : Int32)).toInt = 1 from rfl); have zc10 := lv_neT c10 (show ((2 : Int32)).toInt = 2 from rfl); have zc11 := lv_neT c11 (show ((3 : Int32)).toInt = 3 from rfl); have zc12 := lv_neT c12 (show ((4 : Int32)).toInt = 4 from rfl); have zc13 := lv_neT c13 (show ((5 : Int32)).toInt = 5 from rfl); have zc14 := lv_neT c14 (show ((6 : Int32)).toInt = 6 from rfl); have zc18 := lv_neT c18 (show ((7 : Int32)).toInt = 7 from rfl); have zc22 := lv_neT c22 (show ((8 : Int32)).toInt = 8 from rfl); have zc30 := lv_neT c30 (show ((9 : Int32)).toInt = 9 from rfl); have zc31 := lv_neT c31 (show ((10 : Int32)).toInt = 10 from rfl); have zc35 := lv_neT c35 (show ((11 : Int32)).toInt = 11 from rfl); have zc36 := lv_neT c36 (show ((12 : Int32)).toInt = 12 from rfl); have zc37 := lv_neT c37 (show ((13 : Int32)).toInt = 13 from rfl); have zc38 := lv_neT c38 (show ((14 : Int32)).toInt = 14 from rfl); have zc42 := lv_neT c42 (show ((15 : Int32)).toInt = 15 from rfl); have zc43 := lv_neT c43 (show ((16 : Int32)).toInt = 16 from rfl); have zc47 := lv_neT c47 (show ((17 : Int32)).toInt = 17 from rfl); have zc51 := lv_neT c51 (show ((18 : Int32)).toInt = 18 from rfl); have zc101 := lv_neT c101 (show ((19 : Int32)).toInt = 19 from rfl); have zc102 := lv_neT c102 (show ((20 : Int32)).toInt = 20 from rfl); omega) (by decide) ?_
                                            refine lv_aload_n hx hb dL_acts_470 rfl (lv_at hl 0 rfl) ?_
                                            refine lv_iload_n hx hb dL_acts_471 rfl (lv_at hl 2 rfl) ?_
                                            refine lv_bipush (v := 8) hx hb dL_acts_472 (by decide) ?_
                                            refine lv_irem hx hb dL_acts_474 (by decide) ?_
                                            refine lv_iload hx hb dL_acts_475 (lv_at hl 3 rfl) ?_
                                            refine lv_iload_n hx hb dL_acts_477 rfl (lv_at hl 2 rfl) ?_
                                            refine lv_sipush (v := 256) hx hb dL_acts_478 (by decide) ?_
                                            refine lv_idiv hx hb dL_acts_481 (by decide) ?_
                                            refine lv_iconst (v := 4) hx hb dL_acts_482 (by decide) ?_
                                            refine lv_irem hx hb dL_acts_483 (by decide) ?_
                                            refine lv_if_le (tgt := 497) hx hb dL_acts_484 (by decide) (fun c103 => ?_) (fun c103 => ?_)
                                            · have h := (k_iB h).1 c103
                                              refine lv_iload_n hx hb dL_acts_497 rfl (lv_at hl 2 rfl) ?_
                                              refine lv_sipush (v := 1024) hx hb dL_acts_498 (by decide) ?_
                                              refine lv_idiv hx hb dL_acts_501 (by decide) ?_
                                              refine lv_iconst (v := 4) hx hb dL_acts_502 (by decide) ?_
                                              refine lv_irem hx hb dL_acts_503 (by decide) ?_
                                              refine lv_iconst (v := 1) hx hb dL_acts_504 (by decide) ?_
                                              refine lv_iload_n hx hb dL_acts_505 rfl (lv_at hl 2 rfl) ?_
                                              refine lv_sipush (v := 4096) hx hb dL_acts_506 (by decide) ?_
                                              refine lv_idiv hx hb dL_acts_509 (by decide) ?_
                                              refine lv_bipush (v := 99) hx hb dL_acts_510 (by decide) ?_
                                              refine lv_irem hx hb dL_acts_512 (by decide) ?_
                                              refine lv_iadd hx hb dL_acts_513 ?_
                                              obtain ⟨r104, t106, hu105, h⟩ := ob2_el h
                                              refine kbi (ci := 5) (q := (RX5, TX5, 8)) (bs := [tdW cI cC cE a t]) (cs := [tdW cI cC cE a t]) (cs' := [tdW cI cC cE a t106]) (bs1 := [tdW cI cC cE a t106]) ⟨hx, hb, hml, hown, hts⟩ [0] [] (cq_deliver l D cI cC cE a _ t (x2 - x2 / 8 * 8) x4 ((x2 / 1024) - (x2 / 1024) / 4 * 4) (1 + ((x2 / 4096) - (x2 / 4096) / 99 * 99)) r104 t106 hu105) (cwV 4 hts gL_acts_X5_deliver rfl rfl rfl (by decide +kernel) ⟨Nat.le_of_ble_eq_true rfl, Nat.le_of_ble_eq_true rfl⟩) hK hP hD hS hA rfl rfl rfl rfl rfl rfl rfl rfl rfl hl.1 rfl (Nat.le_of_ble_eq_true rfl) dL_acts_514 ⟨Nat.le_refl 0, Nat.le_refl 0⟩ (fun H locs hP hD hS => ?_)
                                              obtain ⟨rfl, rfl⟩ := inj2 (Option.some.inj h)
                                              exact fin _ _ _ _ dL_acts_517 hP hD hS
                                            · have h := (k_iB h).2 c103
                                              refine lv_aload_n hx hb dL_acts_487 rfl (lv_at hl 0 rfl) ?_
                                              refine lv_iload hx hb dL_acts_488 (lv_at hl 3 rfl) ?_
                                              refine lv_iconst (v := 2) hx hb dL_acts_490 (by decide) ?_
                                              obtain ⟨r107, hu108, h⟩ := ob1_el h
                                              refine kbi (ci := 5) (q := (RX5, TX5, 8)) (bs := [tdW cI cC cE a t]) (cs := [tdW cI cC cE a t]) (cs' := [tdW cI cC cE a t]) (bs1 := [tdW cI cC cE a t]) ⟨hx, hb, hml, hown, hts⟩ [0] [] (cq_riddle l D cI cC cE a _ t x4 2 r107 hu108) (cwV 2 hts gL_acts_X5_riddle rfl rfl rfl (by decide +kernel) ⟨Nat.le_of_ble_eq_true rfl, Nat.le_of_ble_eq_true rfl⟩) hK hP hD hS hA rfl rfl rfl rfl rfl rfl rfl rfl rfl hl.1 rfl (Nat.le_of_ble_eq_true rfl) dL_acts_491 ⟨Nat.le_refl 0, Nat.le_refl 0⟩ (fun H locs hP hD hS => ?_)
                                              refine lv_goto (tgt := 504) hx hb dL_acts_494 (by decide) ?_
                                              refine lv_iconst (v := 1) hx hb dL_acts_504 (by decide) ?_
                                              refine lv_iload_n hx hb dL_acts_505 rfl (lv_at hl 2 rfl) ?_
                                              refine lv_sipush (v := 4096) hx hb dL_acts_506 (by decide) ?_
                                              refine lv_idiv hx hb dL_acts_509 (by decide) ?_
                                              refine lv_bipush (v := 99) hx hb dL_acts_510 (by decide) ?_
                                              refine lv_irem hx hb dL_acts_512 (by decide) ?_
                                              refine lv_iadd hx hb dL_acts_513 ?_
                                              obtain ⟨r109, t111, hu110, h⟩ := ob2_el h
                                              refine kbi (ci := 5) (q := (RX5, TX5, 8)) (bs := [tdW cI cC cE a t]) (cs := [tdW cI cC cE a t]) (cs' := [tdW cI cC cE a t111]) (bs1 := [tdW cI cC cE a t111]) ⟨hx, hb, hml, hown, hts⟩ [0] [] (cq_deliver l D cI cC cE a _ t (x2 - x2 / 8 * 8) x4 r107 (1 + ((x2 / 4096) - (x2 / 4096) / 99 * 99)) r109 t111 hu110) (cwV 4 hts gL_acts_X5_deliver rfl rfl rfl (by decide +kernel) ⟨Nat.le_of_ble_eq_true rfl, Nat.le_of_ble_eq_true rfl⟩) hK hP hD hS hA rfl rfl rfl rfl rfl rfl rfl rfl rfl hl.1 rfl (Nat.le_of_ble_eq_true rfl) dL_acts_514 ⟨Nat.le_refl 0, Nat.le_refl 0⟩ (fun H locs hP hD hS => ?_)
                                              obtain ⟨rfl, rfl⟩ := inj2 (Option.some.inj h)
                                              exact fin _ _ _ _ dL_acts_517 hP hD hS
set_option maxHeartbeats 16000000 in
set_option maxRecDepth 100000 in
theorem c_L_acts (l : Launch) (D : va_G) (cI cC cE : ClassId) (a : Nat → Nat) (sz : Nat) (t : Td) (p1 : Int32) (r0 : Int32) (o_t : Td) (h : d_L_acts p1 t = some (r0, o_t)) : Met l yL_acts wsL_acts ({ frames := 8, cells := 0, slots := 0, locals := 187 } : Room) (kP D (kT cI cC cE) [.ref (a 0), .int p1] (fl [tdW cI cC cE a t]) sz) (kQi D (kT cI cC cE) (fl [tdW cI cC cE a t]) (fl [tdW cI cC cE a o_t]) sz r0) 0 0 (va_A (fl [tdW cI cC cE a t]) sz) := by
  refine kMetI (cc := cL_acts) (maxL := 8) (own := RL) (by decide) rfl (Nat.le_of_ble_eq_true rfl) rfl ?_
  intro p e s m below meth c A Q hx hb hml hown hts hP hK hD hA hS hname fin ls hl
  have hl : lv_has ls 8 [(0, .ref (a 0)), (1, .int p1)] := hl
  dsimp only [d_L_acts] at h
  refine lv_iload_n hx hb dL_acts_0 rfl (lv_at hl 1 rfl) ?_
  refine lv_bipush (v := 32) hx hb dL_acts_1 (by decide) ?_
  refine lv_idiv hx hb dL_acts_3 (by decide) ?_
  refine lv_istore_n (lv' := [(2, .int (p1 / 32)), (0, .ref (a 0)), (1, .int p1)]) hx hb dL_acts_4 rfl hl (by decide) rfl (fun ls hl => ?_)
  refine lv_aload_n hx hb dL_acts_5 rfl (lv_at hl 1 rfl) ?_
  refine lv_iconst (v := 1) hx hb dL_acts_6 (by decide) ?_
  obtain ⟨r1, hu2, h⟩ := ob1_el h
  refine kbi (ci := 5) (q := (RX5, TX5, 8)) (bs := [tdW cI cC cE a t]) (cs := [tdW cI cC cE a t]) (cs' := [tdW cI cC cE a t]) (bs1 := [tdW cI cC cE a t]) ⟨hx, hb, hml, hown, hts⟩ [0] [] (cq_count l D cI cC cE a _ t 1 r1 hu2) (cwV 1 hts gL_acts_X5_count rfl rfl rfl (by decide +kernel) ⟨Nat.le_of_ble_eq_true rfl, Nat.le_of_ble_eq_true rfl⟩) hK hP hD hS hA rfl rfl rfl rfl rfl rfl rfl rfl rfl hl.1 rfl (Nat.le_of_ble_eq_true rfl) dL_acts_7 ⟨Nat.le_refl 0, Nat.le_refl 0⟩ (fun H locs hP hD hS => ?_)
  refine lv_istore_n (lv' := [(3, .int r1), (2, .int (p1 / 32)), (0, .ref (a 0)), (1, .int p1)]) hx hb dL_acts_10 rfl hl (by decide) rfl (fun ls hl => ?_)
  refine lv_iload_n hx hb dL_acts_11 rfl (lv_at hl 0 rfl) ?_
  refine lv_iconst (v := 1) hx hb dL_acts_12 (by decide) ?_
  refine lv_icmp_ge (tgt := 20) hx hb dL_acts_13 (by decide) (fun c3 => ?_) (fun c3 => ?_)
  · have h := (k_iB h).1 c3
    refine lv_iload_n hx hb dL_acts_20 rfl (lv_at hl 1 rfl) ?_
    refine lv_bipush (v := 8) hx hb dL_acts_21 (by decide) ?_
    refine lv_idiv hx hb dL_acts_23 (by decide) ?_
    refine lv_iload_n hx hb dL_acts_24 rfl (lv_at hl 0 rfl) ?_
    refine lv_irem hx hb dL_acts_25 (nz_ge1 c3) ?_
    refine lv_istore (lv' := [(4, .int (((p1 / 32) / 8) - ((p1 / 32) / 8) / r1 * r1)), (3, .int r1), (2, .int (p1 / 32)), (0, .ref (a 0)), (1, .int p1)]) hx hb dL_acts_26 hl (by decide) rfl (fun ls hl => ?_)
    exact (t_L_acts_28 hx hb hml hown hts hK hA fin)   (p1 / 32) (((p1 / 32) / 8) - ((p1 / 32) / 8) / r1 * r1) t _ _ hP hD hS _ (lv_sub hl [3, 4, 2, 0] rfl) h
  · have h := (k_iB h).2 c3
    refine lv_iconst (v := 0) hx hb dL_acts_16 (by decide) ?_
    refine lv_goto (tgt := 26) hx hb dL_acts_17 (by decide) ?_
    refine lv_istore (lv' := [(4, .int 0), (3, .int r1), (2, .int (p1 / 32)), (0, .ref (a 0)), (1, .int p1)]) hx hb dL_acts_26 hl (by decide) rfl (fun ls hl => ?_)
    exact (t_L_acts_28 hx hb hml hown hts hK hA fin)   (p1 / 32) 0 t _ _ hP hD hS _ (lv_sub hl [3, 4, 2, 0] rfl) h
