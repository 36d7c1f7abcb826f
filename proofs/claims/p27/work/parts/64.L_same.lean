def lp_L_same_202 (t : Td) (u : Td) : Nat → Int32 → Int32 → Option (Int32)
  | 0 => fun _ _ => none
  | k + 1 => fun x2 x3 =>
    if 40 ≤ x3 then (some x2)
    else (if x2 = 0 then (some x2)
    else (ob1 (q_waits x3 t) fun r6 =>
    ob1 (q_waits x3 u) fun r8 =>
    if r6 = r8 then (ob1 (q_answer x3 3 t) fun r11 =>
    ob1 (q_answer x3 3 u) fun r13 =>
    if r11 = r13 then (ob1 (q_answer x3 5 t) fun r16 =>
    ob1 (q_answer x3 5 u) fun r18 =>
    if r16 = r18 then (ob1 (q_answer x3 6 t) fun r21 =>
    ob1 (q_answer x3 6 u) fun r23 =>
    if r21 = r23 then ((lp_L_same_202  t u k) 1 (x3 + 1))
    else ((lp_L_same_202  t u k) 0 (x3 + 1)))
    else ((lp_L_same_202  t u k) 0 (x3 + 1)))
    else ((lp_L_same_202  t u k) 0 (x3 + 1)))
    else ((lp_L_same_202  t u k) 0 (x3 + 1))))
def lp_L_same_118 (t : Td) (u : Td) : Nat → Int32 → Int32 → Option (Int32)
  | 0 => fun _ _ => none
  | k + 1 => fun x2 x3 =>
    if 20 ≤ x3 then (lp_L_same_202  t u fuel x2 0)
    else (if x2 = 0 then (lp_L_same_202  t u fuel x2 0)
    else (ob1 (q_riddle x3 0 t) fun r27 =>
    ob1 (q_riddle x3 0 u) fun r29 =>
    if r27 = r29 then (ob1 (q_riddle x3 1 t) fun r32 =>
    ob1 (q_riddle x3 1 u) fun r34 =>
    if r32 = r34 then (ob1 (q_riddle x3 2 t) fun r37 =>
    ob1 (q_riddle x3 2 u) fun r39 =>
    if r37 = r39 then (ob1 (q_riddle x3 3 t) fun r42 =>
    ob1 (q_riddle x3 3 u) fun r44 =>
    if r42 = r44 then ((lp_L_same_118  t u k) 1 (x3 + 1))
    else ((lp_L_same_118  t u k) 0 (x3 + 1)))
    else ((lp_L_same_118  t u k) 0 (x3 + 1)))
    else ((lp_L_same_118  t u k) 0 (x3 + 1)))
    else ((lp_L_same_118  t u k) 0 (x3 + 1))))
def lp_L_same_47 (t : Td) (u : Td) : Nat → Int32 → Int32 → Option (Int32)
  | 0 => fun _ _ => none
  | k + 1 => fun x2 x3 =>
    if 8 ≤ x3 then (lp_L_same_118  t u fuel x2 0)
    else (if x2 = 0 then (lp_L_same_118  t u fuel x2 0)
    else (ob1 (q_account x3 t) fun r48 =>
    ob1 (q_account x3 u) fun r50 =>
    if r48 = r50 then (ob1 (q_trader x3 7 t) fun r53 =>
    ob1 (q_trader x3 7 u) fun r55 =>
    if r53 = r55 then (ob1 (q_trader x3 6 t) fun r58 =>
    ob1 (q_trader x3 6 u) fun r60 =>
    if r58 = r60 then ((lp_L_same_47  t u k) 1 (x3 + 1))
    else ((lp_L_same_47  t u k) 0 (x3 + 1)))
    else ((lp_L_same_47  t u k) 0 (x3 + 1)))
    else ((lp_L_same_47  t u k) 0 (x3 + 1))))
def lp_L_same_4 (t : Td) (u : Td) : Nat → Int32 → Int32 → Option (Int32)
  | 0 => fun _ _ => none
  | k + 1 => fun x2 x3 =>
    if 20 ≤ x3 then (lp_L_same_47  t u fuel x2 0)
    else (if x2 = 0 then (lp_L_same_47  t u fuel x2 0)
    else (if x3 = 19 then ((lp_L_same_4  t u k) 1 (x3 + 1))
    else (ob1 (q_count x3 t) fun r65 =>
    ob1 (q_count x3 u) fun r67 =>
    if r65 = r67 then ((lp_L_same_4  t u k) 1 (x3 + 1))
    else ((lp_L_same_4  t u k) 0 (x3 + 1)))))
def d_L_same (t : Td) (u : Td) : Option (Int32) :=
    lp_L_same_4  t u fuel 1 0
set_option maxHeartbeats 16000000 in
set_option maxRecDepth 100000 in
theorem t_L_same_202 {p : Program} {l : Launch} {e : Env} {s : State} {m : MethodId} {below : List Frame} {meth : Method} {c : Code} {A : Nat → Prop} {Q : State → Prop} {D : va_G} {cI cC cE : ClassId} {a b_ : Nat → Nat} {t : Td} {u : Td} {r0 : Int32} (hx : p.tables.exec = Jvm.exec) (hb : c.code = cL_same) (hml : c.maxLocals = 4) (hown : s.vm.findClass RL = some m.cls) (hts : ∀ w ∈ wsL_same, w.before [.ref (a 0), .ref (b_ 0)].toArray s = true) (hK : va_K D vwCl (kT cI cC cE) s) (hA : ∀ q, s.heap.size ≤ q → A q) (fin : ∀ (pc : Nat) (ls : Array Slot) (H : Heap) (locs : List Loc), (narrow .boolean (.int r0) = .int r0) → decode cL_same pc = .ok (.ireturn, 1) → va_P D vwCl (fl [tdW cI cC cE a t, tdW cI cC cE b_ u]) H → va_D A (fl [tdW cI cC cE a t, tdW cI cC cE b_ u]) → va_S A s.heap H locs → W p l e ({ frames := 4, cells := 0, slots := 0, locals := 93 } : Room) s m [.ref (a 0), .ref (b_ 0)].toArray below meth c H locs 0 0 Q (F0 m pc ls [.int r0])) (hz : narrow .boolean (.int r0) = .int r0) : ∀ (k : Nat), ∀ (x2 : Int32) (x3 : Int32) (H : Heap) (locs : List Loc), va_P D vwCl (fl [tdW cI cC cE a t, tdW cI cC cE b_ u]) H → va_D A (fl [tdW cI cC cE a t, tdW cI cC cE b_ u]) → va_S A s.heap H locs → ∀ (ls : Array Slot), lv_has ls 4 [(0, .ref (a 0)), (1, .ref (b_ 0)), (2, .int x2), (3, .int x3)] → lp_L_same_202  t u k x2 x3 = some r0 → W p l e ({ frames := 4, cells := 0, slots := 0, locals := 93 } : Room) s m [.ref (a 0), .ref (b_ 0)].toArray below meth c H locs 0 0 Q (F0 m 202 ls []) := by
  intro k
  induction k with
  | zero =>
    intro x2 x3 H locs hP hD hS ls hl h
    exact k_none h
  | succ k ih =>
    intro x2 x3 H locs hP hD hS ls hl h
    dsimp only [lp_L_same_202] at h
    refine lv_iload_n hx hb dL_same_202 rfl (lv_at hl 3 rfl) ?_
    refine lv_bipush (v := 40) hx hb dL_same_203 (by decide) ?_
    refine lv_icmp_ge (tgt := 284) hx hb dL_same_205 (by decide) (fun c4 => ?_) (fun c4 => ?_)
    · have h := (k_iB h).1 c4
      refine lv_iload_n hx hb dL_same_284 rfl (lv_at hl 2 rfl) ?_
      obtain rfl := Option.some.inj h
      exact fin _ _ _ _ hz dL_same_285 hP hD hS
    · have h := (k_iB h).2 c4
      refine lv_iload_n hx hb dL_same_208 rfl (lv_at hl 2 rfl) ?_
      refine lv_if_eq (tgt := 284) hx hb dL_same_209 (by decide) (fun c5 => ?_) (fun c5 => ?_)
      · have h := (k_iB h).1 c5
        refine lv_iload_n hx hb dL_same_284 rfl (lv_at hl 2 rfl) ?_
        obtain rfl := Option.some.inj h
        exact fin _ _ _ _ hz dL_same_285 hP hD hS
      · have h := (k_iB h).2 c5
        refine lv_aload_n hx hb dL_same_212 rfl (lv_at hl 0 rfl) ?_
        refine lv_iload_n hx hb dL_same_213 rfl (lv_at hl 3 rfl) ?_
        obtain ⟨r6, hu7, h⟩ := ob1_el h
        refine kbi (ci := 5) (q := (RX5, TX5, 8)) (bs := [tdW cI cC cE a t, tdW cI cC cE b_ u]) (cs := [tdW cI cC cE a t]) (cs' := [tdW cI cC cE a t]) (bs1 := [tdW cI cC cE a t, tdW cI cC cE b_ u]) ⟨hx, hb, hml, hown, hts⟩ [0] [1] (cq_waits l D cI cC cE a _ t x3 r6 hu7) (cwV 1 hts gL_same_X5_waits rfl rfl rfl (by decide +kernel) ⟨Nat.le_of_ble_eq_true rfl, Nat.le_of_ble_eq_true rfl⟩) hK hP hD hS hA rfl rfl rfl rfl rfl rfl rfl rfl rfl hl.1 rfl (Nat.le_of_ble_eq_true rfl) dL_same_214 ⟨Nat.le_refl 0, Nat.le_refl 0⟩ (fun H locs hP hD hS => ?_)
        refine lv_aload_n hx hb dL_same_217 rfl (lv_at hl 1 rfl) ?_
        refine lv_iload_n hx hb dL_same_218 rfl (lv_at hl 3 rfl) ?_
        obtain ⟨r8, hu9, h⟩ := ob1_el h
        refine kbi (ci := 5) (q := (RX5, TX5, 8)) (bs := [tdW cI cC cE a t, tdW cI cC cE b_ u]) (cs := [tdW cI cC cE b_ u]) (cs' := [tdW cI cC cE b_ u]) (bs1 := [tdW cI cC cE a t, tdW cI cC cE b_ u]) ⟨hx, hb, hml, hown, hts⟩ [1] [0] (cq_waits l D cI cC cE b_ _ u x3 r8 hu9) (cwV 1 hts gL_same_X5_waits rfl rfl rfl (by decide +kernel) ⟨Nat.le_of_ble_eq_true rfl, Nat.le_of_ble_eq_true rfl⟩) hK hP hD hS hA rfl rfl rfl rfl rfl rfl rfl rfl rfl hl.1 rfl (Nat.le_of_ble_eq_true rfl) dL_same_219 ⟨Nat.le_refl 0, Nat.le_refl 0⟩ (fun H locs hP hD hS => ?_)
        refine lv_icmp_ne (tgt := 276) hx hb dL_same_222 (by decide) (fun c10 => ?_) (fun c10 => ?_)
        · have h := (k_iB h).2 c10
          refine lv_iconst (v := 0) hx hb dL_same_276 (by decide) ?_
          refine lv_istore_n (lv' := [(2, .int 0), (0, .ref (a 0)), (1, .ref (b_ 0)), (3, .int x3)]) hx hb dL_same_277 rfl hl (by decide) rfl (fun ls hl => ?_)
          refine lv_iinc (v := (x3 + 1)) (lv' := [(3, .int (x3 + 1)), (2, .int 0), (0, .ref (a 0)), (1, .ref (b_ 0))]) hx hb dL_same_278 hl (k := 3) rfl rfl (by decide) rfl (fun ls hl => ?_)
          refine lv_goto (tgt := 202) hx hb dL_same_281 (by decide) ?_
          exact ih 0 (x3 + 1) _ _ hP hD hS _ (lv_sub hl [2, 3, 1, 0] rfl) h
        · have h := (k_iB h).1 c10
          refine lv_aload_n hx hb dL_same_225 rfl (lv_at hl 0 rfl) ?_
          refine lv_iload_n hx hb dL_same_226 rfl (lv_at hl 3 rfl) ?_
          refine lv_iconst (v := 3) hx hb dL_same_227 (by decide) ?_
          obtain ⟨r11, hu12, h⟩ := ob1_el h
          refine kbi (ci := 5) (q := (RX5, TX5, 8)) (bs := [tdW cI cC cE a t, tdW cI cC cE b_ u]) (cs := [tdW cI cC cE a t]) (cs' := [tdW cI cC cE a t]) (bs1 := [tdW cI cC cE a t, tdW cI cC cE b_ u]) ⟨hx, hb, hml, hown, hts⟩ [0] [1] (cq_answer l D cI cC cE a _ t x3 3 r11 hu12) (cwV 2 hts gL_same_X5_answer rfl rfl rfl (by decide +kernel) ⟨Nat.le_of_ble_eq_true rfl, Nat.le_of_ble_eq_true rfl⟩) hK hP hD hS hA rfl rfl rfl rfl rfl rfl rfl rfl rfl hl.1 rfl (Nat.le_of_ble_eq_true rfl) dL_same_228 ⟨Nat.le_refl 0, Nat.le_refl 0⟩ (fun H locs hP hD hS => ?_)
          refine lv_aload_n hx hb dL_same_231 rfl (lv_at hl 1 rfl) ?_
          refine lv_iload_n hx hb dL_same_232 rfl (lv_at hl 3 rfl) ?_
          refine lv_iconst (v := 3) hx hb dL_same_233 (by decide) ?_
          obtain ⟨r13, hu14, h⟩ := ob1_el h
          refine kbi (ci := 5) (q := (RX5, TX5, 8)) (bs := [tdW cI cC cE a t, tdW cI cC cE b_ u]) (cs := [tdW cI cC cE b_ u]) (cs' := [tdW cI cC cE b_ u]) (bs1 := [tdW cI cC cE a t, tdW cI cC cE b_ u]) ⟨hx, hb, hml, hown, hts⟩ [1] [0] (cq_answer l D cI cC cE b_ _ u x3 3 r13 hu14) (cwV 2 hts gL_same_X5_answer rfl rfl rfl (by decide +kernel) ⟨Nat.le_of_ble_eq_true rfl, Nat.le_of_ble_eq_true rfl⟩) hK hP hD hS hA rfl rfl rfl rfl rfl rfl rfl rfl rfl hl.1 rfl (Nat.le_of_ble_eq_true rfl) dL_same_234 ⟨Nat.le_refl 0, Nat.le_refl 0⟩ (fun H locs hP hD hS => ?_)
          refine lv_icmp_ne (tgt := 276) hx hb dL_same_237 (by decide) (fun c15 => ?_) (fun c15 => ?_)
          · have h := (k_iB h).2 c15
            refine lv_iconst (v := 0) hx hb dL_same_276 (by decide) ?_
            refine lv_istore_n (lv' := [(2, .int 0), (0, .ref (a 0)), (1, .ref (b_ 0)), (3, .int x3)]) hx hb dL_same_277 rfl hl (by decide) rfl (fun ls hl => ?_)
            refine lv_iinc (v := (x3 + 1)) (lv' := [(3, .int (x3 + 1)), (2, .int 0), (0, .ref (a 0)), (1, .ref (b_ 0))]) hx hb dL_same_278 hl (k := 3) rfl rfl (by decide) rfl (fun ls hl => ?_)
            refine lv_goto (tgt := 202) hx hb dL_same_281 (by decide) ?_
            exact ih 0 (x3 + 1) _ _ hP hD hS _ (lv_sub hl [2, 3, 1, 0] rfl) h
          · have h := (k_iB h).1 c15
            refine lv_aload_n hx hb dL_same_240 rfl (lv_at hl 0 rfl) ?_
            refine lv_iload_n hx hb dL_same_241 rfl (lv_at hl 3 rfl) ?_
            refine lv_iconst (v := 5) hx hb dL_same_242 (by decide) ?_
            obtain ⟨r16, hu17, h⟩ := ob1_el h
            refine kbi (ci := 5) (q := (RX5, TX5, 8)) (bs := [tdW cI cC cE a t, tdW cI cC cE b_ u]) (cs := [tdW cI cC cE a t]) (cs' := [tdW cI cC cE a t]) (bs1 := [tdW cI cC cE a t, tdW cI cC cE b_ u]) ⟨hx, hb, hml, hown, hts⟩ [0] [1] (cq_answer l D cI cC cE a _ t x3 5 r16 hu17) (cwV 2 hts gL_same_X5_answer rfl rfl rfl (by decide +kernel) ⟨Nat.le_of_ble_eq_true rfl, Nat.le_of_ble_eq_true rfl⟩) hK hP hD hS hA rfl rfl rfl rfl rfl rfl rfl rfl rfl hl.1 rfl (Nat.le_of_ble_eq_true rfl) dL_same_243 ⟨Nat.le_refl 0, Nat.le_refl 0⟩ (fun H locs hP hD hS => ?_)
            refine lv_aload_n hx hb dL_same_246 rfl (lv_at hl 1 rfl) ?_
            refine lv_iload_n hx hb dL_same_247 rfl (lv_at hl 3 rfl) ?_
            refine lv_iconst (v := 5) hx hb dL_same_248 (by decide) ?_
            obtain ⟨r18, hu19, h⟩ := ob1_el h
            refine kbi (ci := 5) (q := (RX5, TX5, 8)) (bs := [tdW cI cC cE a t, tdW cI cC cE b_ u]) (cs := [tdW cI cC cE b_ u]) (cs' := [tdW cI cC cE b_ u]) (bs1 := [tdW cI cC cE a t, tdW cI cC cE b_ u]) ⟨hx, hb, hml, hown, hts⟩ [1] [0] (cq_answer l D cI cC cE b_ _ u x3 5 r18 hu19) (cwV 2 hts gL_same_X5_answer rfl rfl rfl (by decide +kernel) ⟨Nat.le_of_ble_eq_true rfl, Nat.le_of_ble_eq_true rfl⟩) hK hP hD hS hA rfl rfl rfl rfl rfl rfl rfl rfl rfl hl.1 rfl (Nat.le_of_ble_eq_true rfl) dL_same_249 ⟨Nat.le_refl 0, Nat.le_refl 0⟩ (fun H locs hP hD hS => ?_)
            refine lv_icmp_ne (tgt := 276) hx hb dL_same_252 (by decide) (fun c20 => ?_) (fun c20 => ?_)
            · have h := (k_iB h).2 c20
              refine lv_iconst (v := 0) hx hb dL_same_276 (by decide) ?_
              refine lv_istore_n (lv' := [(2, .int 0), (0, .ref (a 0)), (1, .ref (b_ 0)), (3, .int x3)]) hx hb dL_same_277 rfl hl (by decide) rfl (fun ls hl => ?_)
              refine lv_iinc (v := (x3 + 1)) (lv' := [(3, .int (x3 + 1)), (2, .int 0), (0, .ref (a 0)), (1, .ref (b_ 0))]) hx hb dL_same_278 hl (k := 3) rfl rfl (by decide) rfl (fun ls hl => ?_)
              refine lv_goto (tgt := 202) hx hb dL_same_281 (by decide) ?_
              exact ih 0 (x3 + 1) _ _ hP hD hS _ (lv_sub hl [2, 3, 1, 0] rfl) h
            · have h := (k_iB h).1 c20
              refine lv_aload_n hx hb dL_same_255 rfl (lv_at hl 0 rfl) ?_
              refine lv_iload_n hx hb dL_same_256 rfl (lv_at hl 3 rfl) ?_
              refine lv_bipush (v := 6) hx hb dL_same_257 (by decide) ?_
              obtain ⟨r21, hu22, h⟩ := ob1_el h
              refine kbi (ci := 5) (q := (RX5, TX5, 8)) (bs := [tdW cI cC cE a t, tdW cI cC cE b_ u]) (cs := [tdW cI cC cE a t]) (cs' := [tdW cI cC cE a t]) (bs1 := [tdW cI cC cE a t, tdW cI cC cE b_ u]) ⟨hx, hb, hml, hown, hts⟩ [0] [1] (cq_answer l D cI cC cE a _ t x3 6 r21 hu22) (cwV 2 hts gL_same_X5_answer rfl rfl rfl (by decide +kernel) ⟨Nat.le_of_ble_eq_true rfl, Nat.le_of_ble_eq_true rfl⟩) hK hP hD hS hA rfl rfl rfl rfl rfl rfl rfl rfl rfl hl.1 rfl (Nat.le_of_ble_eq_true rfl) dL_same_259 ⟨Nat.le_refl 0, Nat.le_refl 0⟩ (fun H locs hP hD hS => ?_)
              refine lv_aload_n hx hb dL_same_262 rfl (lv_at hl 1 rfl) ?_
              refine lv_iload_n hx hb dL_same_263 rfl (lv_at hl 3 rfl) ?_
              refine lv_bipush (v := 6) hx hb dL_same_264 (by decide) ?_
              obtain ⟨r23, hu24, h⟩ := ob1_el h
              refine kbi (ci := 5) (q := (RX5, TX5, 8)) (bs := [tdW cI cC cE a t, tdW cI cC cE b_ u]) (cs := [tdW cI cC cE b_ u]) (cs' := [tdW cI cC cE b_ u]) (bs1 := [tdW cI cC cE a t, tdW cI cC cE b_ u]) ⟨hx, hb, hml, hown, hts⟩ [1] [0] (cq_answer l D cI cC cE b_ _ u x3 6 r23 hu24) (cwV 2 hts gL_same_X5_answer rfl rfl rfl (by decide +kernel) ⟨Nat.le_of_ble_eq_true rfl, Nat.le_of_ble_eq_true rfl⟩) hK hP hD hS hA rfl rfl rfl rfl rfl rfl rfl rfl rfl hl.1 rfl (Nat.le_of_ble_eq_true rfl) dL_same_266 ⟨Nat.le_refl 0, Nat.le_refl 0⟩ (fun H locs hP hD hS => ?_)
              refine lv_icmp_ne (tgt := 276) hx hb dL_same_269 (by decide) (fun c25 => ?_) (fun c25 => ?_)
              · have h := (k_iB h).2 c25
                refine lv_iconst (v := 0) hx hb dL_same_276 (by decide) ?_
                refine lv_istore_n (lv' := [(2, .int 0), (0, .ref (a 0)), (1, .ref (b_ 0)), (3, .int x3)]) hx hb dL_same_277 rfl hl (by decide) rfl (fun ls hl => ?_)
                refine lv_iinc (v := (x3 + 1)) (lv' := [(3, .int (x3 + 1)), (2, .int 0), (0, .ref (a 0)), (1, .ref (b_ 0))]) hx hb dL_same_278 hl (k := 3) rfl rfl (by decide) rfl (fun ls hl => ?_)
                refine lv_goto (tgt := 202) hx hb dL_same_281 (by decide) ?_
                exact ih 0 (x3 + 1) _ _ hP hD hS _ (lv_sub hl [2, 3, 1, 0] rfl) h
              · have h := (k_iB h).1 c25
                refine lv_iconst (v := 1) hx hb dL_same_272 (by decide) ?_
                refine lv_goto (tgt := 277) hx hb dL_same_273 (by decide) ?_
                refine lv_istore_n (lv' := [(2, .int 1), (0, .ref (a 0)), (1, .ref (b_ 0)), (3, .int x3)]) hx hb dL_same_277 rfl hl (by decide) rfl (fun ls hl => ?_)
                refine lv_iinc (v := (x3 + 1)) (lv' := [(3, .int (x3 + 1)), (2, .int 1), (0, .ref (a 0)), (1, .ref (b_ 0))]) hx hb dL_same_278 hl (k := 3) rfl rfl (by decide) rfl (fun ls hl => ?_)
                refine lv_goto (tgt := 202) hx hb dL_same_281 (by decide) ?_
                exact ih 1 (x3 + 1) _ _ hP hD hS _ (lv_sub hl [2, 3, 1, 0] rfl) h
set_option maxHeartbeats 16000000 in
set_option maxRecDepth 100000 in
theorem t_L_same_118 {p : Program} {l : Launch} {e : Env} {s : State} {m : MethodId} {below : List Frame} {meth : Method} {c : Code} {A : Nat → Prop} {Q : State → Prop} {D : va_G} {cI cC cE : ClassId} {a b_ : Nat → Nat} {t : Td} {u : Td} {r0 : Int32} (hx : p.tables.exec = Jvm.exec) (hb : c.code = cL_same) (hml : c.maxLocals = 4) (hown : s.vm.findClass RL = some m.cls) (hts : ∀ w ∈ wsL_same, w.before [.ref (a 0), .ref (b_ 0)].toArray s = true) (hK : va_K D vwCl (kT cI cC cE) s) (hA : ∀ q, s.heap.size ≤ q → A q) (fin : ∀ (pc : Nat) (ls : Array Slot) (H : Heap) (locs : List Loc), (narrow .boolean (.int r0) = .int r0) → decode cL_same pc = .ok (.ireturn, 1) → va_P D vwCl (fl [tdW cI cC cE a t, tdW cI cC cE b_ u]) H → va_D A (fl [tdW cI cC cE a t, tdW cI cC cE b_ u]) → va_S A s.heap H locs → W p l e ({ frames := 4, cells := 0, slots := 0, locals := 93 } : Room) s m [.ref (a 0), .ref (b_ 0)].toArray below meth c H locs 0 0 Q (F0 m pc ls [.int r0])) (hz : narrow .boolean (.int r0) = .int r0) : ∀ (k : Nat), ∀ (x2 : Int32) (x3 : Int32) (H : Heap) (locs : List Loc), va_P D vwCl (fl [tdW cI cC cE a t, tdW cI cC cE b_ u]) H → va_D A (fl [tdW cI cC cE a t, tdW cI cC cE b_ u]) → va_S A s.heap H locs → ∀ (ls : Array Slot), lv_has ls 4 [(0, .ref (a 0)), (1, .ref (b_ 0)), (2, .int x2), (3, .int x3)] → lp_L_same_118  t u k x2 x3 = some r0 → W p l e ({ frames := 4, cells := 0, slots := 0, locals := 93 } : Room) s m [.ref (a 0), .ref (b_ 0)].toArray below meth c H locs 0 0 Q (F0 m 118 ls []) := by
  intro k
  induction k with
  | zero =>
    intro x2 x3 H locs hP hD hS ls hl h
    exact k_none h
  | succ k ih =>
    intro x2 x3 H locs hP hD hS ls hl h
    dsimp only [lp_L_same_118] at h
    refine lv_iload_n hx hb dL_same_118 rfl (lv_at hl 3 rfl) ?_
    refine lv_bipush (v := 20) hx hb dL_same_119 (by decide) ?_
    refine lv_icmp_ge (tgt := 200) hx hb dL_same_121 (by decide) (fun c3 => ?_) (fun c3 => ?_)
    · have h := (k_iB h).1 c3
      refine lv_iconst (v := 0) hx hb dL_same_200 (by decide) ?_
      refine lv_istore_n (lv' := [(3, .int 0), (0, .ref (a 0)), (1, .ref (b_ 0)), (2, .int x2)]) hx hb dL_same_201 rfl hl (by decide) rfl (fun ls hl => ?_)
      exact (t_L_same_202 hx hb hml hown hts hK hA fin hz)   fuel x2 0 _ _ hP hD hS _ (lv_sub hl [1, 2, 3, 0] rfl) h
    · have h := (k_iB h).2 c3
      refine lv_iload_n hx hb dL_same_124 rfl (lv_at hl 2 rfl) ?_
      refine lv_if_eq (tgt := 200) hx hb dL_same_125 (by decide) (fun c26 => ?_) (fun c26 => ?_)
      · have h := (k_iB h).1 c26
        refine lv_iconst (v := 0) hx hb dL_same_200 (by decide) ?_
        refine lv_istore_n (lv' := [(3, .int 0), (0, .ref (a 0)), (1, .ref (b_ 0)), (2, .int x2)]) hx hb dL_same_201 rfl hl (by decide) rfl (fun ls hl => ?_)
        exact (t_L_same_202 hx hb hml hown hts hK hA fin hz)   fuel x2 0 _ _ hP hD hS _ (lv_sub hl [1, 2, 3, 0] rfl) h
      · have h := (k_iB h).2 c26
        refine lv_aload_n hx hb dL_same_128 rfl (lv_at hl 0 rfl) ?_
        refine lv_iload_n hx hb dL_same_129 rfl (lv_at hl 3 rfl) ?_
        refine lv_iconst (v := 0) hx hb dL_same_130 (by decide) ?_
        obtain ⟨r27, hu28, h⟩ := ob1_el h
        refine kbi (ci := 5) (q := (RX5, TX5, 8)) (bs := [tdW cI cC cE a t, tdW cI cC cE b_ u]) (cs := [tdW cI cC cE a t]) (cs' := [tdW cI cC cE a t]) (bs1 := [tdW cI cC cE a t, tdW cI cC cE b_ u]) ⟨hx, hb, hml, hown, hts⟩ [0] [1] (cq_riddle l D cI cC cE a _ t x3 0 r27 hu28) (cwV 2 hts gL_same_X5_riddle rfl rfl rfl (by decide +kernel) ⟨Nat.le_of_ble_eq_true rfl, Nat.le_of_ble_eq_true rfl⟩) hK hP hD hS hA rfl rfl rfl rfl rfl rfl rfl rfl rfl hl.1 rfl (Nat.le_of_ble_eq_true rfl) dL_same_131 ⟨Nat.le_refl 0, Nat.le_refl 0⟩ (fun H locs hP hD hS => ?_)
        refine lv_aload_n hx hb dL_same_134 rfl (lv_at hl 1 rfl) ?_
        refine lv_iload_n hx hb dL_same_135 rfl (lv_at hl 3 rfl) ?_
        refine lv_iconst (v := 0) hx hb dL_same_136 (by decide) ?_
        obtain ⟨r29, hu30, h⟩ := ob1_el h
        refine kbi (ci := 5) (q := (RX5, TX5, 8)) (bs := [tdW cI cC cE a t, tdW cI cC cE b_ u]) (cs := [tdW cI cC cE b_ u]) (cs' := [tdW cI cC cE b_ u]) (bs1 := [tdW cI cC cE a t, tdW cI cC cE b_ u]) ⟨hx, hb, hml, hown, hts⟩ [1] [0] (cq_riddle l D cI cC cE b_ _ u x3 0 r29 hu30) (cwV 2 hts gL_same_X5_riddle rfl rfl rfl (by decide +kernel) ⟨Nat.le_of_ble_eq_true rfl, Nat.le_of_ble_eq_true rfl⟩) hK hP hD hS hA rfl rfl rfl rfl rfl rfl rfl rfl rfl hl.1 rfl (Nat.le_of_ble_eq_true rfl) dL_same_137 ⟨Nat.le_refl 0, Nat.le_refl 0⟩ (fun H locs hP hD hS => ?_)
        refine lv_icmp_ne (tgt := 192) hx hb dL_same_140 (by decide) (fun c31 => ?_) (fun c31 => ?_)
        · have h := (k_iB h).2 c31
          refine lv_iconst (v := 0) hx hb dL_same_192 (by decide) ?_
          refine lv_istore_n (lv' := [(2, .int 0), (0, .ref (a 0)), (1, .ref (b_ 0)), (3, .int x3)]) hx hb dL_same_193 rfl hl (by decide) rfl (fun ls hl => ?_)
          refine lv_iinc (v := (x3 + 1)) (lv' := [(3, .int (x3 + 1)), (2, .int 0), (0, .ref (a 0)), (1, .ref (b_ 0))]) hx hb dL_same_194 hl (k := 3) rfl rfl (by decide) rfl (fun ls hl => ?_)
          refine lv_goto (tgt := 118) hx hb dL_same_197 (by decide) ?_
          exact ih 0 (x3 + 1) _ _ hP hD hS _ (lv_sub hl [2, 3, 1, 0] rfl) h
        · have h := (k_iB h).1 c31
          refine lv_aload_n hx hb dL_same_143 rfl (lv_at hl 0 rfl) ?_
          refine lv_iload_n hx hb dL_same_144 rfl (lv_at hl 3 rfl) ?_
          refine lv_iconst (v := 1) hx hb dL_same_145 (by decide) ?_
          obtain ⟨r32, hu33, h⟩ := ob1_el h
          refine kbi (ci := 5) (q := (RX5, TX5, 8)) (bs := [tdW cI cC cE a t, tdW cI cC cE b_ u]) (cs := [tdW cI cC cE a t]) (cs' := [tdW cI cC cE a t]) (bs1 := [tdW cI cC cE a t, tdW cI cC cE b_ u]) ⟨hx, hb, hml, hown, hts⟩ [0] [1] (cq_riddle l D cI cC cE a _ t x3 1 r32 hu33) (cwV 2 hts gL_same_X5_riddle rfl rfl rfl (by decide +kernel) ⟨Nat.le_of_ble_eq_true rfl, Nat.le_of_ble_eq_true rfl⟩) hK hP hD hS hA rfl rfl rfl rfl rfl rfl rfl rfl rfl hl.1 rfl (Nat.le_of_ble_eq_true rfl) dL_same_146 ⟨Nat.le_refl 0, Nat.le_refl 0⟩ (fun H locs hP hD hS => ?_)
          refine lv_aload_n hx hb dL_same_149 rfl (lv_at hl 1 rfl) ?_
          refine lv_iload_n hx hb dL_same_150 rfl (lv_at hl 3 rfl) ?_
          refine lv_iconst (v := 1) hx hb dL_same_151 (by decide) ?_
          obtain ⟨r34, hu35, h⟩ := ob1_el h
          refine kbi (ci := 5) (q := (RX5, TX5, 8)) (bs := [tdW cI cC cE a t, tdW cI cC cE b_ u]) (cs := [tdW cI cC cE b_ u]) (cs' := [tdW cI cC cE b_ u]) (bs1 := [tdW cI cC cE a t, tdW cI cC cE b_ u]) ⟨hx, hb, hml, hown, hts⟩ [1] [0] (cq_riddle l D cI cC cE b_ _ u x3 1 r34 hu35) (cwV 2 hts gL_same_X5_riddle rfl rfl rfl (by decide +kernel) ⟨Nat.le_of_ble_eq_true rfl, Nat.le_of_ble_eq_true rfl⟩) hK hP hD hS hA rfl rfl rfl rfl rfl rfl rfl rfl rfl hl.1 rfl (Nat.le_of_ble_eq_true rfl) dL_same_152 ⟨Nat.le_refl 0, Nat.le_refl 0⟩ (fun H locs hP hD hS => ?_)
          refine lv_icmp_ne (tgt := 192) hx hb dL_same_155 (by decide) (fun c36 => ?_) (fun c36 => ?_)
          · have h := (k_iB h).2 c36
            refine lv_iconst (v := 0) hx hb dL_same_192 (by decide) ?_
            refine lv_istore_n (lv' := [(2, .int 0), (0, .ref (a 0)), (1, .ref (b_ 0)), (3, .int x3)]) hx hb dL_same_193 rfl hl (by decide) rfl (fun ls hl => ?_)
            refine lv_iinc (v := (x3 + 1)) (lv' := [(3, .int (x3 + 1)), (2, .int 0), (0, .ref (a 0)), (1, .ref (b_ 0))]) hx hb dL_same_194 hl (k := 3) rfl rfl (by decide) rfl (fun ls hl => ?_)
            refine lv_goto (tgt := 118) hx hb dL_same_197 (by decide) ?_
            exact ih 0 (x3 + 1) _ _ hP hD hS _ (lv_sub hl [2, 3, 1, 0] rfl) h
          · have h := (k_iB h).1 c36
            refine lv_aload_n hx hb dL_same_158 rfl (lv_at hl 0 rfl) ?_
            refine lv_iload_n hx hb dL_same_159 rfl (lv_at hl 3 rfl) ?_
            refine lv_iconst (v := 2) hx hb dL_same_160 (by decide) ?_
            obtain ⟨r37, hu38, h⟩ := ob1_el h
            refine kbi (ci := 5) (q := (RX5, TX5, 8)) (bs := [tdW cI cC cE a t, tdW cI cC cE b_ u]) (cs := [tdW cI cC cE a t]) (cs' := [tdW cI cC cE a t]) (bs1 := [tdW cI cC cE a t, tdW cI cC cE b_ u]) ⟨hx, hb, hml, hown, hts⟩ [0] [1] (cq_riddle l D cI cC cE a _ t x3 2 r37 hu38) (cwV 2 hts gL_same_X5_riddle rfl rfl rfl (by decide +kernel) ⟨Nat.le_of_ble_eq_true rfl, Nat.le_of_ble_eq_true rfl⟩) hK hP hD hS hA rfl rfl rfl rfl rfl rfl rfl rfl rfl hl.1 rfl (Nat.le_of_ble_eq_true rfl) dL_same_161 ⟨Nat.le_refl 0, Nat.le_refl 0⟩ (fun H locs hP hD hS => ?_)
            refine lv_aload_n hx hb dL_same_164 rfl (lv_at hl 1 rfl) ?_
            refine lv_iload_n hx hb dL_same_165 rfl (lv_at hl 3 rfl) ?_
            refine lv_iconst (v := 2) hx hb dL_same_166 (by decide) ?_
            obtain ⟨r39, hu40, h⟩ := ob1_el h
            refine kbi (ci := 5) (q := (RX5, TX5, 8)) (bs := [tdW cI cC cE a t, tdW cI cC cE b_ u]) (cs := [tdW cI cC cE b_ u]) (cs' := [tdW cI cC cE b_ u]) (bs1 := [tdW cI cC cE a t, tdW cI cC cE b_ u]) ⟨hx, hb, hml, hown, hts⟩ [1] [0] (cq_riddle l D cI cC cE b_ _ u x3 2 r39 hu40) (cwV 2 hts gL_same_X5_riddle rfl rfl rfl (by decide +kernel) ⟨Nat.le_of_ble_eq_true rfl, Nat.le_of_ble_eq_true rfl⟩) hK hP hD hS hA rfl rfl rfl rfl rfl rfl rfl rfl rfl hl.1 rfl (Nat.le_of_ble_eq_true rfl) dL_same_167 ⟨Nat.le_refl 0, Nat.le_refl 0⟩ (fun H locs hP hD hS => ?_)
            refine lv_icmp_ne (tgt := 192) hx hb dL_same_170 (by decide) (fun c41 => ?_) (fun c41 => ?_)
            · have h := (k_iB h).2 c41
              refine lv_iconst (v := 0) hx hb dL_same_192 (by decide) ?_
              refine lv_istore_n (lv' := [(2, .int 0), (0, .ref (a 0)), (1, .ref (b_ 0)), (3, .int x3)]) hx hb dL_same_193 rfl hl (by decide) rfl (fun ls hl => ?_)
              refine lv_iinc (v := (x3 + 1)) (lv' := [(3, .int (x3 + 1)), (2, .int 0), (0, .ref (a 0)), (1, .ref (b_ 0))]) hx hb dL_same_194 hl (k := 3) rfl rfl (by decide) rfl (fun ls hl => ?_)
              refine lv_goto (tgt := 118) hx hb dL_same_197 (by decide) ?_
              exact ih 0 (x3 + 1) _ _ hP hD hS _ (lv_sub hl [2, 3, 1, 0] rfl) h
            · have h := (k_iB h).1 c41
              refine lv_aload_n hx hb dL_same_173 rfl (lv_at hl 0 rfl) ?_
              refine lv_iload_n hx hb dL_same_174 rfl (lv_at hl 3 rfl) ?_
              refine lv_iconst (v := 3) hx hb dL_same_175 (by decide) ?_
              obtain ⟨r42, hu43, h⟩ := ob1_el h
              refine kbi (ci := 5) (q := (RX5, TX5, 8)) (bs := [tdW cI cC cE a t, tdW cI cC cE b_ u]) (cs := [tdW cI cC cE a t]) (cs' := [tdW cI cC cE a t]) (bs1 := [tdW cI cC cE a t, tdW cI cC cE b_ u]) ⟨hx, hb, hml, hown, hts⟩ [0] [1] (cq_riddle l D cI cC cE a _ t x3 3 r42 hu43) (cwV 2 hts gL_same_X5_riddle rfl rfl rfl (by decide +kernel) ⟨Nat.le_of_ble_eq_true rfl, Nat.le_of_ble_eq_true rfl⟩) hK hP hD hS hA rfl rfl rfl rfl rfl rfl rfl rfl rfl hl.1 rfl (Nat.le_of_ble_eq_true rfl) dL_same_176 ⟨Nat.le_refl 0, Nat.le_refl 0⟩ (fun H locs hP hD hS => ?_)
              refine lv_aload_n hx hb dL_same_179 rfl (lv_at hl 1 rfl) ?_
              refine lv_iload_n hx hb dL_same_180 rfl (lv_at hl 3 rfl) ?_
              refine lv_iconst (v := 3) hx hb dL_same_181 (by decide) ?_
              obtain ⟨r44, hu45, h⟩ := ob1_el h
              refine kbi (ci := 5) (q := (RX5, TX5, 8)) (bs := [tdW cI cC cE a t, tdW cI cC cE b_ u]) (cs := [tdW cI cC cE b_ u]) (cs' := [tdW cI cC cE b_ u]) (bs1 := [tdW cI cC cE a t, tdW cI cC cE b_ u]) ⟨hx, hb, hml, hown, hts⟩ [1] [0] (cq_riddle l D cI cC cE b_ _ u x3 3 r44 hu45) (cwV 2 hts gL_same_X5_riddle rfl rfl rfl (by decide +kernel) ⟨Nat.le_of_ble_eq_true rfl, Nat.le_of_ble_eq_true rfl⟩) hK hP hD hS hA rfl rfl rfl rfl rfl rfl rfl rfl rfl hl.1 rfl (Nat.le_of_ble_eq_true rfl) dL_same_182 ⟨Nat.le_refl 0, Nat.le_refl 0⟩ (fun H locs hP hD hS => ?_)
              refine lv_icmp_ne (tgt := 192) hx hb dL_same_185 (by decide) (fun c46 => ?_) (fun c46 => ?_)
              · have h := (k_iB h).2 c46
                refine lv_iconst (v := 0) hx hb dL_same_192 (by decide) ?_
                refine lv_istore_n (lv' := [(2, .int 0), (0, .ref (a 0)), (1, .ref (b_ 0)), (3, .int x3)]) hx hb dL_same_193 rfl hl (by decide) rfl (fun ls hl => ?_)
                refine lv_iinc (v := (x3 + 1)) (lv' := [(3, .int (x3 + 1)), (2, .int 0), (0, .ref (a 0)), (1, .ref (b_ 0))]) hx hb dL_same_194 hl (k := 3) rfl rfl (by decide) rfl (fun ls hl => ?_)
                refine lv_goto (tgt := 118) hx hb dL_same_197 (by decide) ?_
                exact ih 0 (x3 + 1) _ _ hP hD hS _ (lv_sub hl [2, 3, 1, 0] rfl) h
              · have h := (k_iB h).1 c46
                refine lv_iconst (v := 1) hx hb dL_same_188 (by decide) ?_
                refine lv_goto (tgt := 193) hx hb dL_same_189 (by decide) ?_
                refine lv_istore_n (lv' := [(2, .int 1), (0, .ref (a 0)), (1, .ref (b_ 0)), (3, .int x3)]) hx hb dL_same_193 rfl hl (by decide) rfl (fun ls hl => ?_)
                refine lv_iinc (v := (x3 + 1)) (lv' := [(3, .int (x3 + 1)), (2, .int 1), (0, .ref (a 0)), (1, .ref (b_ 0))]) hx hb dL_same_194 hl (k := 3) rfl rfl (by decide) rfl (fun ls hl => ?_)
                refine lv_goto (tgt := 118) hx hb dL_same_197 (by decide) ?_
                exact ih 1 (x3 + 1) _ _ hP hD hS _ (lv_sub hl [2, 3, 1, 0] rfl) h
set_option maxHeartbeats 16000000 in
set_option maxRecDepth 100000 in
theorem t_L_same_47 {p : Program} {l : Launch} {e : Env} {s : State} {m : MethodId} {below : List Frame} {meth : Method} {c : Code} {A : Nat → Prop} {Q : State → Prop} {D : va_G} {cI cC cE : ClassId} {a b_ : Nat → Nat} {t : Td} {u : Td} {r0 : Int32} (hx : p.tables.exec = Jvm.exec) (hb : c.code = cL_same) (hml : c.maxLocals = 4) (hown : s.vm.findClass RL = some m.cls) (hts : ∀ w ∈ wsL_same, w.before [.ref (a 0), .ref (b_ 0)].toArray s = true) (hK : va_K D vwCl (kT cI cC cE) s) (hA : ∀ q, s.heap.size ≤ q → A q) (fin : ∀ (pc : Nat) (ls : Array Slot) (H : Heap) (locs : List Loc), (narrow .boolean (.int r0) = .int r0) → decode cL_same pc = .ok (.ireturn, 1) → va_P D vwCl (fl [tdW cI cC cE a t, tdW cI cC cE b_ u]) H → va_D A (fl [tdW cI cC cE a t, tdW cI cC cE b_ u]) → va_S A s.heap H locs → W p l e ({ frames := 4, cells := 0, slots := 0, locals := 93 } : Room) s m [.ref (a 0), .ref (b_ 0)].toArray below meth c H locs 0 0 Q (F0 m pc ls [.int r0])) (hz : narrow .boolean (.int r0) = .int r0) : ∀ (k : Nat), ∀ (x2 : Int32) (x3 : Int32) (H : Heap) (locs : List Loc), va_P D vwCl (fl [tdW cI cC cE a t, tdW cI cC cE b_ u]) H → va_D A (fl [tdW cI cC cE a t, tdW cI cC cE b_ u]) → va_S A s.heap H locs → ∀ (ls : Array Slot), lv_has ls 4 [(0, .ref (a 0)), (1, .ref (b_ 0)), (2, .int x2), (3, .int x3)] → lp_L_same_47  t u k x2 x3 = some r0 → W p l e ({ frames := 4, cells := 0, slots := 0, locals := 93 } : Room) s m [.ref (a 0), .ref (b_ 0)].toArray below meth c H locs 0 0 Q (F0 m 47 ls []) := by
  intro k
  induction k with
  | zero =>
    intro x2 x3 H locs hP hD hS ls hl h
    exact k_none h
  | succ k ih =>
    intro x2 x3 H locs hP hD hS ls hl h
    dsimp only [lp_L_same_47] at h
    refine lv_iload_n hx hb dL_same_47 rfl (lv_at hl 3 rfl) ?_
    refine lv_bipush (v := 8) hx hb dL_same_48 (by decide) ?_
    refine lv_icmp_ge (tgt := 116) hx hb dL_same_50 (by decide) (fun c2 => ?_) (fun c2 => ?_)
    · have h := (k_iB h).1 c2
      refine lv_iconst (v := 0) hx hb dL_same_116 (by decide) ?_
      refine lv_istore_n (lv' := [(3, .int 0), (0, .ref (a 0)), (1, .ref (b_ 0)), (2, .int x2)]) hx hb dL_same_117 rfl hl (by decide) rfl (fun ls hl => ?_)
      exact (t_L_same_118 hx hb hml hown hts hK hA fin hz)   fuel x2 0 _ _ hP hD hS _ (lv_sub hl [1, 2, 3, 0] rfl) h
    · have h := (k_iB h).2 c2
      refine lv_iload_n hx hb dL_same_53 rfl (lv_at hl 2 rfl) ?_
      refine lv_if_eq (tgt := 116) hx hb dL_same_54 (by decide) (fun c47 => ?_) (fun c47 => ?_)
      · have h := (k_iB h).1 c47
        refine lv_iconst (v := 0) hx hb dL_same_116 (by decide) ?_
        refine lv_istore_n (lv' := [(3, .int 0), (0, .ref (a 0)), (1, .ref (b_ 0)), (2, .int x2)]) hx hb dL_same_117 rfl hl (by decide) rfl (fun ls hl => ?_)
        exact (t_L_same_118 hx hb hml hown hts hK hA fin hz)   fuel x2 0 _ _ hP hD hS _ (lv_sub hl [1, 2, 3, 0] rfl) h
      · have h := (k_iB h).2 c47
        refine lv_aload_n hx hb dL_same_57 rfl (lv_at hl 0 rfl) ?_
        refine lv_iload_n hx hb dL_same_58 rfl (lv_at hl 3 rfl) ?_
        obtain ⟨r48, hu49, h⟩ := ob1_el h
        refine kbi (ci := 5) (q := (RX5, TX5, 8)) (bs := [tdW cI cC cE a t, tdW cI cC cE b_ u]) (cs := [tdW cI cC cE a t]) (cs' := [tdW cI cC cE a t]) (bs1 := [tdW cI cC cE a t, tdW cI cC cE b_ u]) ⟨hx, hb, hml, hown, hts⟩ [0] [1] (cq_account l D cI cC cE a _ t x3 r48 hu49) (cwV 1 hts gL_same_X5_account rfl rfl rfl (by decide +kernel) ⟨Nat.le_of_ble_eq_true rfl, Nat.le_of_ble_eq_true rfl⟩) hK hP hD hS hA rfl rfl rfl rfl rfl rfl rfl rfl rfl hl.1 rfl (Nat.le_of_ble_eq_true rfl) dL_same_59 ⟨Nat.le_refl 0, Nat.le_refl 0⟩ (fun H locs hP hD hS => ?_)
        refine lv_aload_n hx hb dL_same_62 rfl (lv_at hl 1 rfl) ?_
        refine lv_iload_n hx hb dL_same_63 rfl (lv_at hl 3 rfl) ?_
        obtain ⟨r50, hu51, h⟩ := ob1_el h
        refine kbi (ci := 5) (q := (RX5, TX5, 8)) (bs := [tdW cI cC cE a t, tdW cI cC cE b_ u]) (cs := [tdW cI cC cE b_ u]) (cs' := [tdW cI cC cE b_ u]) (bs1 := [tdW cI cC cE a t, tdW cI cC cE b_ u]) ⟨hx, hb, hml, hown, hts⟩ [1] [0] (cq_account l D cI cC cE b_ _ u x3 r50 hu51) (cwV 1 hts gL_same_X5_account rfl rfl rfl (by decide +kernel) ⟨Nat.le_of_ble_eq_true rfl, Nat.le_of_ble_eq_true rfl⟩) hK hP hD hS hA rfl rfl rfl rfl rfl rfl rfl rfl rfl hl.1 rfl (Nat.le_of_ble_eq_true rfl) dL_same_64 ⟨Nat.le_refl 0, Nat.le_refl 0⟩ (fun H locs hP hD hS => ?_)
        refine lv_icmp_ne (tgt := 108) hx hb dL_same_67 (by decide) (fun c52 => ?_) (fun c52 => ?_)
        · have h := (k_iB h).2 c52
          refine lv_iconst (v := 0) hx hb dL_same_108 (by decide) ?_
          refine lv_istore_n (lv' := [(2, .int 0), (0, .ref (a 0)), (1, .ref (b_ 0)), (3, .int x3)]) hx hb dL_same_109 rfl hl (by decide) rfl (fun ls hl => ?_)
          refine lv_iinc (v := (x3 + 1)) (lv' := [(3, .int (x3 + 1)), (2, .int 0), (0, .ref (a 0)), (1, .ref (b_ 0))]) hx hb dL_same_110 hl (k := 3) rfl rfl (by decide) rfl (fun ls hl => ?_)
          refine lv_goto (tgt := 47) hx hb dL_same_113 (by decide) ?_
          exact ih 0 (x3 + 1) _ _ hP hD hS _ (lv_sub hl [2, 3, 1, 0] rfl) h
        · have h := (k_iB h).1 c52
          refine lv_aload_n hx hb dL_same_70 rfl (lv_at hl 0 rfl) ?_
          refine lv_iload_n hx hb dL_same_71 rfl (lv_at hl 3 rfl) ?_
          refine lv_bipush (v := 7) hx hb dL_same_72 (by decide) ?_
          obtain ⟨r53, hu54, h⟩ := ob1_el h
          refine kbi (ci := 5) (q := (RX5, TX5, 8)) (bs := [tdW cI cC cE a t, tdW cI cC cE b_ u]) (cs := [tdW cI cC cE a t]) (cs' := [tdW cI cC cE a t]) (bs1 := [tdW cI cC cE a t, tdW cI cC cE b_ u]) ⟨hx, hb, hml, hown, hts⟩ [0] [1] (cq_trader l D cI cC cE a _ t x3 7 r53 hu54) (cwV 2 hts gL_same_X5_trader rfl rfl rfl (by decide +kernel) ⟨Nat.le_of_ble_eq_true rfl, Nat.le_of_ble_eq_true rfl⟩) hK hP hD hS hA rfl rfl rfl rfl rfl rfl rfl rfl rfl hl.1 rfl (Nat.le_of_ble_eq_true rfl) dL_same_74 ⟨Nat.le_refl 0, Nat.le_refl 0⟩ (fun H locs hP hD hS => ?_)
          refine lv_aload_n hx hb dL_same_77 rfl (lv_at hl 1 rfl) ?_
          refine lv_iload_n hx hb dL_same_78 rfl (lv_at hl 3 rfl) ?_
          refine lv_bipush (v := 7) hx hb dL_same_79 (by decide) ?_
          obtain ⟨r55, hu56, h⟩ := ob1_el h
          refine kbi (ci := 5) (q := (RX5, TX5, 8)) (bs := [tdW cI cC cE a t, tdW cI cC cE b_ u]) (cs := [tdW cI cC cE b_ u]) (cs' := [tdW cI cC cE b_ u]) (bs1 := [tdW cI cC cE a t, tdW cI cC cE b_ u]) ⟨hx, hb, hml, hown, hts⟩ [1] [0] (cq_trader l D cI cC cE b_ _ u x3 7 r55 hu56) (cwV 2 hts gL_same_X5_trader rfl rfl rfl (by decide +kernel) ⟨Nat.le_of_ble_eq_true rfl, Nat.le_of_ble_eq_true rfl⟩) hK hP hD hS hA rfl rfl rfl rfl rfl rfl rfl rfl rfl hl.1 rfl (Nat.le_of_ble_eq_true rfl) dL_same_81 ⟨Nat.le_refl 0, Nat.le_refl 0⟩ (fun H locs hP hD hS => ?_)
          refine lv_icmp_ne (tgt := 108) hx hb dL_same_84 (by decide) (fun c57 => ?_) (fun c57 => ?_)
          · have h := (k_iB h).2 c57
            refine lv_iconst (v := 0) hx hb dL_same_108 (by decide) ?_
            refine lv_istore_n (lv' := [(2, .int 0), (0, .ref (a 0)), (1, .ref (b_ 0)), (3, .int x3)]) hx hb dL_same_109 rfl hl (by decide) rfl (fun ls hl => ?_)
            refine lv_iinc (v := (x3 + 1)) (lv' := [(3, .int (x3 + 1)), (2, .int 0), (0, .ref (a 0)), (1, .ref (b_ 0))]) hx hb dL_same_110 hl (k := 3) rfl rfl (by decide) rfl (fun ls hl => ?_)
            refine lv_goto (tgt := 47) hx hb dL_same_113 (by decide) ?_
            exact ih 0 (x3 + 1) _ _ hP hD hS _ (lv_sub hl [2, 3, 1, 0] rfl) h
          · have h := (k_iB h).1 c57
            refine lv_aload_n hx hb dL_same_87 rfl (lv_at hl 0 rfl) ?_
            refine lv_iload_n hx hb dL_same_88 rfl (lv_at hl 3 rfl) ?_
            refine lv_bipush (v := 6) hx hb dL_same_89 (by decide) ?_
            obtain ⟨r58, hu59, h⟩ := ob1_el h
            refine kbi (ci := 5) (q := (RX5, TX5, 8)) (bs := [tdW cI cC cE a t, tdW cI cC cE b_ u]) (cs := [tdW cI cC cE a t]) (cs' := [tdW cI cC cE a t]) (bs1 := [tdW cI cC cE a t, tdW cI cC cE b_ u]) ⟨hx, hb, hml, hown, hts⟩ [0] [1] (cq_trader l D cI cC cE a _ t x3 6 r58 hu59) (cwV 2 hts gL_same_X5_trader rfl rfl rfl (by decide +kernel) ⟨Nat.le_of_ble_eq_true rfl, Nat.le_of_ble_eq_true rfl⟩) hK hP hD hS hA rfl rfl rfl rfl rfl rfl rfl rfl rfl hl.1 rfl (Nat.le_of_ble_eq_true rfl) dL_same_91 ⟨Nat.le_refl 0, Nat.le_refl 0⟩ (fun H locs hP hD hS => ?_)
            refine lv_aload_n hx hb dL_same_94 rfl (lv_at hl 1 rfl) ?_
            refine lv_iload_n hx hb dL_same_95 rfl (lv_at hl 3 rfl) ?_
            refine lv_bipush (v := 6) hx hb dL_same_96 (by decide) ?_
            obtain ⟨r60, hu61, h⟩ := ob1_el h
            refine kbi (ci := 5) (q := (RX5, TX5, 8)) (bs := [tdW cI cC cE a t, tdW cI cC cE b_ u]) (cs := [tdW cI cC cE b_ u]) (cs' := [tdW cI cC cE b_ u]) (bs1 := [tdW cI cC cE a t, tdW cI cC cE b_ u]) ⟨hx, hb, hml, hown, hts⟩ [1] [0] (cq_trader l D cI cC cE b_ _ u x3 6 r60 hu61) (cwV 2 hts gL_same_X5_trader rfl rfl rfl (by decide +kernel) ⟨Nat.le_of_ble_eq_true rfl, Nat.le_of_ble_eq_true rfl⟩) hK hP hD hS hA rfl rfl rfl rfl rfl rfl rfl rfl rfl hl.1 rfl (Nat.le_of_ble_eq_true rfl) dL_same_98 ⟨Nat.le_refl 0, Nat.le_refl 0⟩ (fun H locs hP hD hS => ?_)
            refine lv_icmp_ne (tgt := 108) hx hb dL_same_101 (by decide) (fun c62 => ?_) (fun c62 => ?_)
            · have h := (k_iB h).2 c62
              refine lv_iconst (v := 0) hx hb dL_same_108 (by decide) ?_
              refine lv_istore_n (lv' := [(2, .int 0), (0, .ref (a 0)), (1, .ref (b_ 0)), (3, .int x3)]) hx hb dL_same_109 rfl hl (by decide) rfl (fun ls hl => ?_)
              refine lv_iinc (v := (x3 + 1)) (lv' := [(3, .int (x3 + 1)), (2, .int 0), (0, .ref (a 0)), (1, .ref (b_ 0))]) hx hb dL_same_110 hl (k := 3) rfl rfl (by decide) rfl (fun ls hl => ?_)
              refine lv_goto (tgt := 47) hx hb dL_same_113 (by decide) ?_
              exact ih 0 (x3 + 1) _ _ hP hD hS _ (lv_sub hl [2, 3, 1, 0] rfl) h
            · have h := (k_iB h).1 c62
              refine lv_iconst (v := 1) hx hb dL_same_104 (by decide) ?_
              refine lv_goto (tgt := 109) hx hb dL_same_105 (by decide) ?_
              refine lv_istore_n (lv' := [(2, .int 1), (0, .ref (a 0)), (1, .ref (b_ 0)), (3, .int x3)]) hx hb dL_same_109 rfl hl (by decide) rfl (fun ls hl => ?_)
              refine lv_iinc (v := (x3 + 1)) (lv' := [(3, .int (x3 + 1)), (2, .int 1), (0, .ref (a 0)), (1, .ref (b_ 0))]) hx hb dL_same_110 hl (k := 3) rfl rfl (by decide) rfl (fun ls hl => ?_)
              refine lv_goto (tgt := 47) hx hb dL_same_113 (by decide) ?_
              exact ih 1 (x3 + 1) _ _ hP hD hS _ (lv_sub hl [2, 3, 1, 0] rfl) h
set_option maxHeartbeats 16000000 in
set_option maxRecDepth 100000 in
theorem t_L_same_4 {p : Program} {l : Launch} {e : Env} {s : State} {m : MethodId} {below : List Frame} {meth : Method} {c : Code} {A : Nat → Prop} {Q : State → Prop} {D : va_G} {cI cC cE : ClassId} {a b_ : Nat → Nat} {t : Td} {u : Td} {r0 : Int32} (hx : p.tables.exec = Jvm.exec) (hb : c.code = cL_same) (hml : c.maxLocals = 4) (hown : s.vm.findClass RL = some m.cls) (hts : ∀ w ∈ wsL_same, w.before [.ref (a 0), .ref (b_ 0)].toArray s = true) (hK : va_K D vwCl (kT cI cC cE) s) (hA : ∀ q, s.heap.size ≤ q → A q) (fin : ∀ (pc : Nat) (ls : Array Slot) (H : Heap) (locs : List Loc), (narrow .boolean (.int r0) = .int r0) → decode cL_same pc = .ok (.ireturn, 1) → va_P D vwCl (fl [tdW cI cC cE a t, tdW cI cC cE b_ u]) H → va_D A (fl [tdW cI cC cE a t, tdW cI cC cE b_ u]) → va_S A s.heap H locs → W p l e ({ frames := 4, cells := 0, slots := 0, locals := 93 } : Room) s m [.ref (a 0), .ref (b_ 0)].toArray below meth c H locs 0 0 Q (F0 m pc ls [.int r0])) (hz : narrow .boolean (.int r0) = .int r0) : ∀ (k : Nat), ∀ (x2 : Int32) (x3 : Int32) (H : Heap) (locs : List Loc), va_P D vwCl (fl [tdW cI cC cE a t, tdW cI cC cE b_ u]) H → va_D A (fl [tdW cI cC cE a t, tdW cI cC cE b_ u]) → va_S A s.heap H locs → ∀ (ls : Array Slot), lv_has ls 4 [(0, .ref (a 0)), (1, .ref (b_ 0)), (2, .int x2), (3, .int x3)] → lp_L_same_4  t u k x2 x3 = some r0 → W p l e ({ frames := 4, cells := 0, slots := 0, locals := 93 } : Room) s m [.ref (a 0), .ref (b_ 0)].toArray below meth c H locs 0 0 Q (F0 m 4 ls []) := by
  intro k
  induction k with
  | zero =>
    intro x2 x3 H locs hP hD hS ls hl h
    exact k_none h
  | succ k ih =>
    intro x2 x3 H locs hP hD hS ls hl h
    dsimp only [lp_L_same_4] at h
    refine lv_iload_n hx hb dL_same_4 rfl (lv_at hl 3 rfl) ?_
    refine lv_bipush (v := 20) hx hb dL_same_5 (by decide) ?_
    refine lv_icmp_ge (tgt := 45) hx hb dL_same_7 (by decide) (fun c1 => ?_) (fun c1 => ?_)
    · have h := (k_iB h).1 c1
      refine lv_iconst (v := 0) hx hb dL_same_45 (by decide) ?_
      refine lv_istore_n (lv' := [(3, .int 0), (0, .ref (a 0)), (1, .ref (b_ 0)), (2, .int x2)]) hx hb dL_same_46 rfl hl (by decide) rfl (fun ls hl => ?_)
      exact (t_L_same_47 hx hb hml hown hts hK hA fin hz)   fuel x2 0 _ _ hP hD hS _ (lv_sub hl [1, 2, 3, 0] rfl) h
    · have h := (k_iB h).2 c1
      refine lv_iload_n hx hb dL_same_10 rfl (lv_at hl 2 rfl) ?_
      refine lv_if_eq (tgt := 45) hx hb dL_same_11 (by decide) (fun c63 => ?_) (fun c63 => ?_)
      · have h := (k_iB h).1 c63
        refine lv_iconst (v := 0) hx hb dL_same_45 (by decide) ?_
        refine lv_istore_n (lv' := [(3, .int 0), (0, .ref (a 0)), (1, .ref (b_ 0)), (2, .int x2)]) hx hb dL_same_46 rfl hl (by decide) rfl (fun ls hl => ?_)
        exact (t_L_same_47 hx hb hml hown hts hK hA fin hz)   fuel x2 0 _ _ hP hD hS _ (lv_sub hl [1, 2, 3, 0] rfl) h
      · have h := (k_iB h).2 c63
        refine lv_iload_n hx hb dL_same_14 rfl (lv_at hl 3 rfl) ?_
        refine lv_bipush (v := 19) hx hb dL_same_15 (by decide) ?_
        refine lv_icmp_eq (tgt := 33) hx hb dL_same_17 (by decide) (fun c64 => ?_) (fun c64 => ?_)
        · have h := (k_iB h).1 c64
          refine lv_iconst (v := 1) hx hb dL_same_33 (by decide) ?_
          refine lv_goto (tgt := 38) hx hb dL_same_34 (by decide) ?_
          refine lv_istore_n (lv' := [(2, .int 1), (0, .ref (a 0)), (1, .ref (b_ 0)), (3, .int x3)]) hx hb dL_same_38 rfl hl (by decide) rfl (fun ls hl => ?_)
          refine lv_iinc (v := (x3 + 1)) (lv' := [(3, .int (x3 + 1)), (2, .int 1), (0, .ref (a 0)), (1, .ref (b_ 0))]) hx hb dL_same_39 hl (k := 3) rfl rfl (by decide) rfl (fun ls hl => ?_)
          refine lv_goto (tgt := 4) hx hb dL_same_42 (by decide) ?_
          exact ih 1 (x3 + 1) _ _ hP hD hS _ (lv_sub hl [2, 3, 1, 0] rfl) h
        · have h := (k_iB h).2 c64
          refine lv_aload_n hx hb dL_same_20 rfl (lv_at hl 0 rfl) ?_
          refine lv_iload_n hx hb dL_same_21 rfl (lv_at hl 3 rfl) ?_
          obtain ⟨r65, hu66, h⟩ := ob1_el h
          refine kbi (ci := 5) (q := (RX5, TX5, 8)) (bs := [tdW cI cC cE a t, tdW cI cC cE b_ u]) (cs := [tdW cI cC cE a t]) (cs' := [tdW cI cC cE a t]) (bs1 := [tdW cI cC cE a t, tdW cI cC cE b_ u]) ⟨hx, hb, hml, hown, hts⟩ [0] [1] (cq_count l D cI cC cE a _ t x3 r65 hu66) (cwV 1 hts gL_same_X5_count rfl rfl rfl (by decide +kernel) ⟨Nat.le_of_ble_eq_true rfl, Nat.le_of_ble_eq_true rfl⟩) hK hP hD hS hA rfl rfl rfl rfl rfl rfl rfl rfl rfl hl.1 rfl (Nat.le_of_ble_eq_true rfl) dL_same_22 ⟨Nat.le_refl 0, Nat.le_refl 0⟩ (fun H locs hP hD hS => ?_)
          refine lv_aload_n hx hb dL_same_25 rfl (lv_at hl 1 rfl) ?_
          refine lv_iload_n hx hb dL_same_26 rfl (lv_at hl 3 rfl) ?_
          obtain ⟨r67, hu68, h⟩ := ob1_el h
          refine kbi (ci := 5) (q := (RX5, TX5, 8)) (bs := [tdW cI cC cE a t, tdW cI cC cE b_ u]) (cs := [tdW cI cC cE b_ u]) (cs' := [tdW cI cC cE b_ u]) (bs1 := [tdW cI cC cE a t, tdW cI cC cE b_ u]) ⟨hx, hb, hml, hown, hts⟩ [1] [0] (cq_count l D cI cC cE b_ _ u x3 r67 hu68) (cwV 1 hts gL_same_X5_count rfl rfl rfl (by decide +kernel) ⟨Nat.le_of_ble_eq_true rfl, Nat.le_of_ble_eq_true rfl⟩) hK hP hD hS hA rfl rfl rfl rfl rfl rfl rfl rfl rfl hl.1 rfl (Nat.le_of_ble_eq_true rfl) dL_same_27 ⟨Nat.le_refl 0, Nat.le_refl 0⟩ (fun H locs hP hD hS => ?_)
          refine lv_icmp_ne (tgt := 37) hx hb dL_same_30 (by decide) (fun c69 => ?_) (fun c69 => ?_)
          · have h := (k_iB h).2 c69
            refine lv_iconst (v := 0) hx hb dL_same_37 (by decide) ?_
            refine lv_istore_n (lv' := [(2, .int 0), (0, .ref (a 0)), (1, .ref (b_ 0)), (3, .int x3)]) hx hb dL_same_38 rfl hl (by decide) rfl (fun ls hl => ?_)
            refine lv_iinc (v := (x3 + 1)) (lv' := [(3, .int (x3 + 1)), (2, .int 0), (0, .ref (a 0)), (1, .ref (b_ 0))]) hx hb dL_same_39 hl (k := 3) rfl rfl (by decide) rfl (fun ls hl => ?_)
            refine lv_goto (tgt := 4) hx hb dL_same_42 (by decide) ?_
            exact ih 0 (x3 + 1) _ _ hP hD hS _ (lv_sub hl [2, 3, 1, 0] rfl) h
          · have h := (k_iB h).1 c69
            refine lv_iconst (v := 1) hx hb dL_same_33 (by decide) ?_
            refine lv_goto (tgt := 38) hx hb dL_same_34 (by decide) ?_
            refine lv_istore_n (lv' := [(2, .int 1), (0, .ref (a 0)), (1, .ref (b_ 0)), (3, .int x3)]) hx hb dL_same_38 rfl hl (by decide) rfl (fun ls hl => ?_)
            refine lv_iinc (v := (x3 + 1)) (lv' := [(3, .int (x3 + 1)), (2, .int 1), (0, .ref (a 0)), (1, .ref (b_ 0))]) hx hb dL_same_39 hl (k := 3) rfl rfl (by decide) rfl (fun ls hl => ?_)
            refine lv_goto (tgt := 4) hx hb dL_same_42 (by decide) ?_
            exact ih 1 (x3 + 1) _ _ hP hD hS _ (lv_sub hl [2, 3, 1, 0] rfl) h
set_option maxHeartbeats 16000000 in
set_option maxRecDepth 100000 in
theorem c_L_same (l : Launch) (D : va_G) (cI cC cE : ClassId) (a b_ : Nat → Nat) (sz : Nat) (t : Td) (u : Td) (r0 : Int32) (h : d_L_same t u = some r0) (hz : narrow .boolean (.int r0) = .int r0) : Met l yL_same wsL_same ({ frames := 4, cells := 0, slots := 0, locals := 93 } : Room) (kP D (kT cI cC cE) [.ref (a 0), .ref (b_ 0)] (fl [tdW cI cC cE a t, tdW cI cC cE b_ u]) sz) (kQi D (kT cI cC cE) (fl [tdW cI cC cE a t, tdW cI cC cE b_ u]) (fl [tdW cI cC cE a t, tdW cI cC cE b_ u]) sz r0) 0 0 (va_A (fl [tdW cI cC cE a t, tdW cI cC cE b_ u]) sz) := by
  refine kMetZ (cc := cL_same) (maxL := 4) (own := RL) (by decide) rfl (Nat.le_of_ble_eq_true rfl) rfl ?_
  intro p e s m below meth c A Q hx hb hml hown hts hP hK hD hA hS hname fin ls hl
  have hl : lv_has ls 4 [(0, .ref (a 0)), (1, .ref (b_ 0))] := hl
  dsimp only [d_L_same] at h
  refine lv_iconst (v := 1) hx hb dL_same_0 (by decide) ?_
  refine lv_istore_n (lv' := [(2, .int 1), (0, .ref (a 0)), (1, .ref (b_ 0))]) hx hb dL_same_1 rfl hl (by decide) rfl (fun ls hl => ?_)
  refine lv_iconst (v := 0) hx hb dL_same_2 (by decide) ?_
  refine lv_istore_n (lv' := [(3, .int 0), (2, .int 1), (0, .ref (a 0)), (1, .ref (b_ 0))]) hx hb dL_same_3 rfl hl (by decide) rfl (fun ls hl => ?_)
  exact (t_L_same_4 hx hb hml hown hts hK hA fin hz)   fuel 1 0 _ _ hP hD hS _ (lv_sub hl [2, 3, 1, 0] rfl) h
