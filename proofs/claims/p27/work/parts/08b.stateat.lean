/-! the one method that answers a reference -/
theorem k_in {x : Int32} {n : Nat} {N : Int32} (h0 : ¬ x < 0) (h1 : ¬ N ≤ x) (hN : N.toInt = n) : vp_in x n := by
  rw [vp_in_iff]
  rw [Int32.lt_iff_toInt_lt] at h0
  rw [Int32.le_iff_toInt_le] at h1
  have z : (0 : Int32).toInt = 0 := rfl
  omega
def d_X1_stateAt (p1 old : Int32) (aH : Nat → Nat → Nat) : Option Nat := if (old + p1) - (old + p1) / 4 * 4 < 0 then none else if 4 ≤ (old + p1) - (old + p1) / 4 * 4 then none else some (aH ((old + p1) - (old + p1) / 4 * 4).toNatClampNeg 0)
theorem st_none {p1 old : Int32} {aH : Nat → Nat → Nat} (h : (old + p1) - (old + p1) / 4 * 4 < 0 ∨ 4 ≤ (old + p1) - (old + p1) / 4 * 4) : d_X1_stateAt p1 old aH = none := by
  unfold d_X1_stateAt
  rcases h with h | h
  · rw [if_pos h]
  · by_cases c : (old + p1) - (old + p1) / 4 * 4 < 0
    · rw [if_pos c]
    · rw [if_neg c, if_pos h]
theorem st_some {p1 old k : Int32} {n : Nat} {aH : Nat → Nat → Nat} (h : (old + p1) - (old + p1) / 4 * 4 = k) (hk : ¬ k < 0 ∧ ¬ 4 ≤ k ∧ k.toNatClampNeg = n) : d_X1_stateAt p1 old aH = some (aH n 0) := by
  unfold d_X1_stateAt
  rw [h, if_neg hk.1, if_neg hk.2.1, hk.2.2]
theorem st_big {e : Int32} (c : ¬ e < 0) (c0 : ¬ e = 0) (c1 : ¬ e = 1) (c2 : ¬ e = 2) (c3 : ¬ e = 3) : 4 ≤ e := by
  have z0 := lv_neT c0 (show ((0 : Int32)).toInt = 0 from rfl)
  have z1 := lv_neT c1 (show ((1 : Int32)).toInt = 1 from rfl)
  have z2 := lv_neT c2 (show ((2 : Int32)).toInt = 2 from rfl)
  have z3 := lv_neT c3 (show ((3 : Int32)).toInt = 3 from rfl)
  rw [Int32.lt_iff_toInt_lt] at c
  rw [Int32.le_iff_toInt_le]
  have z : (0 : Int32).toInt = 0 := rfl
  have z4 : (4 : Int32).toInt = 4 := rfl
  omega
abbrev w_X1_stateAt (cI cC cE : ClassId) (hh hr : Nat) (aH : Nat → Nat → Nat) (old sze : Int32) : va_W := [(hh, .inr (1, [.ref hr, .int old, .int sze])), (hr, .inl (cE, 4, .inr (.inr (.inr (.inr (fun j => some (aH j 0)))))))]
set_option maxHeartbeats 4000000 in
set_option maxRecDepth 100000 in
theorem c_X1_stateAt (l : Launch) (D : va_G) (cI cC cE : ClassId) (hh hr : Nat) (aH : Nat → Nat → Nat) (sz : Nat) (old sze : Int32) (p1 : Int32) (r0 : Option Nat) (h : d_X1_stateAt p1 old aH = r0) : Met l yX1_stateAt wsX1_stateAt ({ frames := 0, cells := 0, slots := 0, locals := 0 } : Room) (kP D (kT cI cC cE) [.ref hh, .int p1] (w_X1_stateAt cI cC cE hh hr aH old sze) sz) (kQr D (kT cI cC cE) (w_X1_stateAt cI cC cE hh hr aH old sze) (w_X1_stateAt cI cC cE hh hr aH old sze) sz r0) 0 0 (va_A (w_X1_stateAt cI cC cE hh hr aH old sze) sz) := by
  refine kMetR (cc := cX1_stateAt) (maxL := 3) (own := RX1) ⟨_, rfl⟩ (by decide) rfl (Nat.le_of_ble_eq_true rfl) rfl ?_
  intro p e s m below meth c A Q hx hb hml hown hts hP hK hD hA hS hname fin ls hl
  have hl : lv_has ls 3 [(0, .ref hh), (1, .int p1)] := hl
  have hiX1 : ∀ w ∈ u_ws RX1 TX1 3, w ∈ wsX1_stateAt := by decide +kernel
  unfold d_X1_stateAt at h
  refine lv_aload_n hx hb dX1_stateAt_0 rfl (lv_at hl 0 rfl) ?_
  refine va_get (ci := 1) (C := RX1) (T := TX1) (N := 3) hx hb hts hiX1 hown hK hP 0 rfl rfl 1 (by decide) (hts (.fieldLink RX1 22 "RiddleTrade$History" "oldest" "I") (by decide +kernel)) (fun _ h9 => h9) rfl dX1_stateAt_1 ?_
  refine lv_iload_n hx hb dX1_stateAt_4 rfl (lv_at hl 1 rfl) ?_
  refine lv_iadd hx hb dX1_stateAt_5 ?_
  refine lv_iconst (v := 4) hx hb dX1_stateAt_6 (by decide) ?_
  refine lv_irem hx hb dX1_stateAt_7 (by decide) ?_
  refine lv_istore_n (lv' := [(2, .int ((old + p1) - (old + p1) / 4 * 4)), (0, .ref hh), (1, .int p1)]) hx hb dX1_stateAt_8 rfl hl (by decide) rfl (fun ls hl => ?_)
  refine lv_iload_n hx hb dX1_stateAt_9 rfl (lv_at hl 0 rfl) ?_
  refine lv_if_lt (tgt := 31) hx hb dX1_stateAt_10 (by decide) (fun c1 => ?_) (fun c1 => ?_)
  · have h := (k_iB h).1 c1
    refine lv_null hx hb dX1_stateAt_31 ?_
    subst h
    exact fin _ _ _ _ dX1_stateAt_32 hP hD hS
  · have h := (k_iB h).2 c1
    refine lv_iload_n hx hb dX1_stateAt_13 rfl (lv_at hl 0 rfl) ?_
    refine lv_aload_n hx hb dX1_stateAt_14 rfl (lv_at hl 1 rfl) ?_
    refine va_get (ci := 1) (C := RX1) (T := TX1) (N := 3) hx hb hts hiX1 hown hK hP 0 rfl rfl 0 (by decide) (hts (.fieldLink RX1 11 "RiddleTrade$History" "states" "[LRiddleTrade$Exchange;") (by decide +kernel)) (fun _ h9 => h9) rfl dX1_stateAt_15 ?_
    refine va_alen (v := 4) hx hb hK hP 1 2 rfl rfl (show Int32.ofNat 4 = 4 from rfl) dX1_stateAt_18 ?_
    refine lv_icmp_ge (tgt := 31) hx hb dX1_stateAt_19 (by decide) (fun c2 => ?_) (fun c2 => ?_)
    · have h := (k_iB h).1 c2
      refine lv_null hx hb dX1_stateAt_31 ?_
      subst h
      exact fin _ _ _ _ dX1_stateAt_32 hP hD hS
    · have h := (k_iB h).2 c2
      refine lv_aload_n hx hb dX1_stateAt_22 rfl (lv_at hl 1 rfl) ?_
      refine va_get (ci := 1) (C := RX1) (T := TX1) (N := 3) hx hb hts hiX1 hown hK hP 0 rfl rfl 0 (by decide) (hts (.fieldLink RX1 11 "RiddleTrade$History" "states" "[LRiddleTrade$Exchange;") (by decide +kernel)) (fun _ h9 => h9) rfl dX1_stateAt_23 ?_
      refine lv_iload_n hx hb dX1_stateAt_26 rfl (lv_at hl 0 rfl) ?_
      refine va_aldq hx hb hK hP 1 2 rfl rfl (k_in c1 c2 rfl) dX1_stateAt_27 ?_
      refine lv_goto (tgt := 32) hx hb dX1_stateAt_28 (by decide) ?_
      subst h
      exact fin _ _ _ _ dX1_stateAt_32 hP hD hS
