/-! part 81: the law's loop -/
set_option maxHeartbeats 4000000 in
set_option maxRecDepth 100000 in
theorem law_loop {p : Program} {l : Launch} {e : Env} {s : State} {m : MethodId} {below : List Frame} {meth : Method} {c : Code} {D : va_G} {cI cC cE : ClassId} {b L h0 k0 : Nat} {xs : Nat → Int32} (hr : meth.sig.returnType = ret) (hlocks : meth.locks = false) (C0 : LCtx p s m c b L xs D cI cC cE) (hL : L ≤ 2560) :
    ∀ (n i : Nat), i ≤ L → L < i + n → ∀ (H : Heap) (locs : List Loc) (ls : Array Slot), LInv D cI cC cE (lwA s) h0 k0 H → va_S (lwA s) s.heap H locs → lv_has ls 4 [(0, .ref b), (1, .ref h0), (2, .ref k0), (3, .int (nI i))] → W p l e room_1 s m #[Value.ref b] below meth c H locs 600000 7302250 (lw_Z below #[Value.ref b] s) (F0 m 18 ls []) := by
  obtain ⟨hx, hb, hml, hown, hts, hX, hbl, hK⟩ := id C0
  have hA : ∀ q : Nat, s.heap.size ≤ q → lwA s q := fun _ h => h
  have hbA : ¬ lwA s b := Nat.not_le.mpr hbl
  intro n
  induction n with
  | zero =>
    intro i h1 h2
    exact absurd h2 (by omega)
  | succ n ih =>
    intro i hi hin H locs ls hI hS hl
    have hLi : (Int32.ofNat L - 5 : Int32).toInt = (L : Int) - 5 := by
      have h1 : (Int32.ofNat L).toInt = L := nI_toInt (n := L) (by omega)
      have h5 : (5 : Int32).toInt = 5 := rfl
      rw [sub_toInt (by rw [h1, h5]; omega) (by rw [h1, h5]; omega), h1, h5]
    have hii : (nI i).toInt = i := nI_toInt (by omega)
    refine lv_iload_n hx hb dL_law_18 rfl (lv_at hl 3 rfl) ?_
    refine lv_aload_n hx hb dL_law_19 rfl (lv_at hl 0 rfl) ?_
    refine va_slen hx hb hX hbl hbA hS dL_law_20 ?_
    refine lv_iconst (v := 5) hx hb dL_law_21 (by decide) ?_
    refine lv_isub hx hb dL_law_22 ?_
    refine lv_icmp_gt (tgt := 760) hx hb dL_law_23 (by decide) (fun c0 => ?_) (fun c0 => ?_)
    · refine lv_iconst (v := 1) hx hb dL_law_760 (by decide) ?_
      refine va_forget (fun q hq => hS.2.2 q hq) ?_
      exact lw_ret hx hb hr hlocks dL_law_761
    · rw [Int32.lt_iff_toInt_lt, hLi, hii] at c0
      have hi5 : i + 5 ≤ L := by omega
      have kk : ∀ (H : Heap) (locs : List Loc) (ls : Array Slot), LInv D cI cC cE (lwA s) h0 k0 H → va_S (lwA s) s.heap H locs → lv_has ls 4 [(0, .ref b), (1, .ref h0), (2, .ref k0), (3, .int (nI i))] → W p l e room_1 s m #[Value.ref b] below meth c H locs 600000 7302250 (lw_Z below #[Value.ref b] s) (F0 m 754 ls []) := by
        intro H locs ls hI hS hl
        refine lv_iinc (v := nI (i + 5)) (lv' := [(3, .int (nI (i + 5))), (0, .ref b), (1, .ref h0), (2, .ref k0)]) hx hb dL_law_754 hl (k := 3) rfl (nJ_add i 5) (by decide) rfl (fun ls hl => ?_)
        refine lv_goto (tgt := 18) hx hb dL_law_757 (by decide) ?_
        exact ih (i + 5) hi5 (by omega) H locs ls hI hS (lv_sub hl [1, 2, 3, 0] rfl)
      refine lv_aload_n hx hb dL_law_26 rfl (lv_at hl 0 rfl) ?_
      refine lv_iload_n hx hb dL_law_27 rfl (lv_at hl 3 rfl) ?_
      refine va_sld hx hb hX hbl hbA hS (k_vin (i := i) (by omega) (by omega)) dL_law_28 ?_
      refine lv_bipush (v := 31) hx hb dL_law_29 (by decide) ?_
      refine lv_iand hx hb dL_law_31 ?_
      generalize (xs (nI i).toNatClampNeg &&& 31) = X
      by_cases c0_ : X = 0
      · refine lv_tableIn (off := 112) (tgt := 144) hx hb dL_law_32 (by rw [c0_]; decide) (by rw [c0_]; decide) (by rw [c0_]; rfl) (by decide) ?_
        exact law_c0 C0 hi5 hL kk H locs ls hI hS hl
      by_cases c1_ : X = 1
      · refine lv_tableIn (off := 155) (tgt := 187) hx hb dL_law_32 (by rw [c1_]; decide) (by rw [c1_]; decide) (by rw [c1_]; rfl) (by decide) ?_
        exact law_c1 C0 hi5 hL kk H locs ls hI hS hl
      by_cases c2_ : X = 2
      · refine lv_tableIn (off := 178) (tgt := 210) hx hb dL_law_32 (by rw [c2_]; decide) (by rw [c2_]; decide) (by rw [c2_]; rfl) (by decide) ?_
        exact law_c2 C0 hi5 hL kk H locs ls hI hS hl
      by_cases c3_ : X = 3
      · refine lv_tableIn (off := 231) (tgt := 263) hx hb dL_law_32 (by rw [c3_]; decide) (by rw [c3_]; decide) (by rw [c3_]; rfl) (by decide) ?_
        exact law_c3 C0 hi5 hL kk H locs ls hI hS hl
      by_cases c4_ : X = 4
      · refine lv_tableIn (off := 244) (tgt := 276) hx hb dL_law_32 (by rw [c4_]; decide) (by rw [c4_]; decide) (by rw [c4_]; rfl) (by decide) ?_
        exact law_c4 C0 hi5 hL kk H locs ls hI hS hl
      by_cases c5_ : X = 5
      · refine lv_tableIn (off := 277) (tgt := 309) hx hb dL_law_32 (by rw [c5_]; decide) (by rw [c5_]; decide) (by rw [c5_]; rfl) (by decide) ?_
        exact law_c5 C0 hi5 hL kk H locs ls hI hS hl
      by_cases c6_ : X = 6
      · refine lv_tableIn (off := 300) (tgt := 332) hx hb dL_law_32 (by rw [c6_]; decide) (by rw [c6_]; decide) (by rw [c6_]; rfl) (by decide) ?_
        exact law_c6 C0 hi5 hL kk H locs ls hI hS hl
      by_cases c7_ : X = 7
      · refine lv_tableIn (off := 325) (tgt := 357) hx hb dL_law_32 (by rw [c7_]; decide) (by rw [c7_]; decide) (by rw [c7_]; rfl) (by decide) ?_
        exact law_c7 C0 hi5 hL kk H locs ls hI hS hl
      by_cases c8_ : X = 8
      · refine lv_tableIn (off := 338) (tgt := 370) hx hb dL_law_32 (by rw [c8_]; decide) (by rw [c8_]; decide) (by rw [c8_]; rfl) (by decide) ?_
        exact law_c8 C0 hi5 hL kk H locs ls hI hS hl
      by_cases c9_ : X = 9
      · refine lv_tableIn (off := 351) (tgt := 383) hx hb dL_law_32 (by rw [c9_]; decide) (by rw [c9_]; decide) (by rw [c9_]; rfl) (by decide) ?_
        exact law_c9 C0 hi5 hL kk H locs ls hI hS hl
      by_cases c10_ : X = 10
      · refine lv_tableIn (off := 374) (tgt := 406) hx hb dL_law_32 (by rw [c10_]; decide) (by rw [c10_]; decide) (by rw [c10_]; rfl) (by decide) ?_
        exact law_c10 C0 hi5 hL kk H locs ls hI hS hl
      by_cases c11_ : X = 11
      · refine lv_tableIn (off := 387) (tgt := 419) hx hb dL_law_32 (by rw [c11_]; decide) (by rw [c11_]; decide) (by rw [c11_]; rfl) (by decide) ?_
        exact law_c11 C0 hi5 hL kk H locs ls hI hS hl
      by_cases c12_ : X = 12
      · refine lv_tableIn (off := 400) (tgt := 432) hx hb dL_law_32 (by rw [c12_]; decide) (by rw [c12_]; decide) (by rw [c12_]; rfl) (by decide) ?_
        exact law_c12 C0 hi5 hL kk H locs ls hI hS hl
      by_cases c13_ : X = 13
      · refine lv_tableIn (off := 413) (tgt := 445) hx hb dL_law_32 (by rw [c13_]; decide) (by rw [c13_]; decide) (by rw [c13_]; rfl) (by decide) ?_
        exact law_c13 C0 hi5 hL kk H locs ls hI hS hl
      by_cases c14_ : X = 14
      · refine lv_tableIn (off := 446) (tgt := 478) hx hb dL_law_32 (by rw [c14_]; decide) (by rw [c14_]; decide) (by rw [c14_]; rfl) (by decide) ?_
        exact law_c14 C0 hi5 hL kk H locs ls hI hS hl
      by_cases c15_ : X = 15
      · refine lv_tableIn (off := 479) (tgt := 511) hx hb dL_law_32 (by rw [c15_]; decide) (by rw [c15_]; decide) (by rw [c15_]; rfl) (by decide) ?_
        exact law_c15 C0 hi5 hL kk H locs ls hI hS hl
      by_cases c16_ : X = 16
      · refine lv_tableIn (off := 512) (tgt := 544) hx hb dL_law_32 (by rw [c16_]; decide) (by rw [c16_]; decide) (by rw [c16_]; rfl) (by decide) ?_
        exact law_c16 C0 hi5 hL kk H locs ls hI hS hl
      by_cases c17_ : X = 17
      · refine lv_tableIn (off := 535) (tgt := 567) hx hb dL_law_32 (by rw [c17_]; decide) (by rw [c17_]; decide) (by rw [c17_]; rfl) (by decide) ?_
        exact law_c17 C0 hi5 hL kk H locs ls hI hS hl
      by_cases c18_ : X = 18
      · refine lv_tableIn (off := 568) (tgt := 600) hx hb dL_law_32 (by rw [c18_]; decide) (by rw [c18_]; decide) (by rw [c18_]; rfl) (by decide) ?_
        exact law_c18 C0 hi5 hL kk H locs ls hI hS hl
      by_cases c19_ : X = 19
      · refine lv_tableIn (off := 591) (tgt := 623) hx hb dL_law_32 (by rw [c19_]; decide) (by rw [c19_]; decide) (by rw [c19_]; rfl) (by decide) ?_
        exact law_c19 C0 hi5 hL kk H locs ls hI hS hl
      by_cases c20_ : X = 20
      · refine lv_tableIn (off := 614) (tgt := 646) hx hb dL_law_32 (by rw [c20_]; decide) (by rw [c20_]; decide) (by rw [c20_]; rfl) (by decide) ?_
        exact law_c20 C0 hi5 hL kk H locs ls hI hS hl
      by_cases c21_ : X = 21
      · refine lv_tableIn (off := 663) (tgt := 695) hx hb dL_law_32 (by rw [c21_]; decide) (by rw [c21_]; decide) (by rw [c21_]; rfl) (by decide) ?_
        exact law_c21 C0 hi5 hL kk H locs ls hI hS hl
      by_cases c22_ : X = 22
      · refine lv_tableIn (off := 676) (tgt := 708) hx hb dL_law_32 (by rw [c22_]; decide) (by rw [c22_]; decide) (by rw [c22_]; rfl) (by decide) ?_
        exact law_c22 C0 hi5 hL kk H locs ls hI hS hl
      by_cases c23_ : X = 23
      · refine lv_tableIn (off := 699) (tgt := 731) hx hb dL_law_32 (by rw [c23_]; decide) (by rw [c23_]; decide) (by rw [c23_]; rfl) (by decide) ?_
        exact law_c23 C0 hi5 hL kk H locs ls hI hS hl
      refine lv_tableOut (tgt := 754) hx hb dL_law_32 (by have z0 := lv_neT c0_ (show ((0 : Int32)).toInt = 0 from rfl); have z1 := lv_neT c1_ (show ((1 : Int32)).toInt = 1 from rfl); have z2 := lv_neT c2_ (show ((2 : Int32)).toInt = 2 from rfl); have z3 := lv_neT c3_ (show ((3 : Int32)).toInt = 3 from rfl); have z4 := lv_neT c4_ (show ((4 : Int32)).toInt = 4 from rfl); have z5 := lv_neT c5_ (show ((5 : Int32)).toInt = 5 from rfl); have z6 := lv_neT c6_ (show ((6 : Int32)).toInt = 6 from rfl); have z7 := lv_neT c7_ (show ((7 : Int32)).toInt = 7 from rfl); have z8 := lv_neT c8_ (show ((8 : Int32)).toInt = 8 from rfl); have z9 := lv_neT c9_ (show ((9 : Int32)).toInt = 9 from rfl); have z10 := lv_neT c10_ (show ((10 : Int32)).toInt = 10 from rfl); have z11 := lv_neT c11_ (show ((11 : Int32)).toInt = 11 from rfl); have z12 := lv_neT c12_ (show ((12 : Int32)).toInt = 12 from rfl); have z13 := lv_neT c13_ (show ((13 : Int32)).toInt = 13 from rfl); have z14 := lv_neT c14_ (show ((14 : Int32)).toInt = 14 from rfl); have z15 := lv_neT c15_ (show ((15 : Int32)).toInt = 15 from rfl); have z16 := lv_neT c16_ (show ((16 : Int32)).toInt = 16 from rfl); have z17 := lv_neT c17_ (show ((17 : Int32)).toInt = 17 from rfl); have z18 := lv_neT c18_ (show ((18 : Int32)).toInt = 18 from rfl); have z19 := lv_neT c19_ (show ((19 : Int32)).toInt = 19 from rfl); have z20 := lv_neT c20_ (show ((20 : Int32)).toInt = 20 from rfl); have z21 := lv_neT c21_ (show ((21 : Int32)).toInt = 21 from rfl); have z22 := lv_neT c22_ (show ((22 : Int32)).toInt = 22 from rfl); have z23 := lv_neT c23_ (show ((23 : Int32)).toInt = 23 from rfl); omega) (by decide) ?_
      exact kk H locs ls hI hS hl
