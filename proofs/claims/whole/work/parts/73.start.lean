/-! part 73: the state at the start, on both sides -/
theorem fl_law (a b c d e f g h i j k : va_W) : fl [a, b, c, d, fl [e, f, g, h, i], j] ++ k = fl [a, b, c, d, e, f, g, h, i, j, k] := by
  simp only [fl, List.append_assoc]
theorem s0_z {j : Nat} (h : 8 ≤ j) (h2 : j < 479 ∨ 482 < j) : s0_ j = 0 := by
  unfold s0_
  rw [upd_ne (by omega), upd_ne (by omega), upd_ne (by omega), upd_ne (by omega), upd_ne (by omega), upd_ne (by omega), upd_ne (by omega), upd_ne (by omega), upd_ne (by omega), upd_ne (by omega), upd_ne (by omega), upd_ne (by omega)]
theorem s0_t {t : Nat} (h : t < 8) : s0_ t = 100 := by
  rcases (show t = 0 ∨ t = 1 ∨ t = 2 ∨ t = 3 ∨ t = 4 ∨ t = 5 ∨ t = 6 ∨ t = 7 by omega) with rfl | rfl | rfl | rfl | rfl | rfl | rfl | rfl <;> decide +kernel
theorem fT0_t {t : Nat} (h : t < 8) : fT0 (2 * t) = 100 ∧ fT0 (2 * t + 1) = 0 := by
  rcases (show t = 0 ∨ t = 1 ∨ t = 2 ∨ t = 3 ∨ t = 4 ∨ t = 5 ∨ t = 6 ∨ t = 7 by omega) with rfl | rfl | rfl | rfl | rfl | rfl | rfl | rfl <;> decide +kernel
theorem IE0 : IE fE0 := by
  refine ⟨⟨2, by decide, by decide +kernel⟩, ⟨4, by decide, by decide +kernel⟩, ⟨3, by decide, by decide, by decide +kernel⟩, ⟨50, by decide, by decide +kernel⟩, by decide +kernel, by decide +kernel, by decide +kernel, by decide +kernel, by decide +kernel, by decide +kernel, by decide +kernel, by decide +kernel⟩
theorem GX0 : GX E0 s0_ := by
  refine ⟨0, by decide, 0, 0, rfl, rfl, by decide, rfl, s0_z (by decide) (by decide), [], ⟨⟨fun t ht => ?_, fun t ht => ?_, ?_⟩, ⟨by decide, s0_z (by decide) (by decide), fun r hr => ?_⟩, ⟨by decide, s0_z (by decide) (by decide), fun k hk => s0_z (by omega) (by omega), s0_z (by decide) (by decide), s0_z (by decide) (by decide)⟩, fun r hr => absurd hr (Nat.not_lt_zero r), ⟨?_, ?_, ?_⟩, ⟨?_, ?_, ?_, ?_⟩, fun a ha => absurd ha (Nat.not_lt_zero a), fun r hr => absurd hr (Nat.not_lt_zero r), ⟨List.nodup_nil, fun a => ⟨fun h => absurd h List.not_mem_nil, fun h => absurd h.1 (Nat.not_lt_zero a)⟩⟩, IE0, ⟨⟨by decide, by decide⟩, by decide, by decide⟩, fun t ht => ?_⟩, ⟨by decide, ⟨0, by decide, rfl, fun k hk => absurd hk (Nat.not_lt_zero k)⟩, rfl, s0_z (by decide) (by decide), fun k hk => absurd hk (Nat.not_lt_zero k)⟩⟩
  · rw [s0_t ht]; exact (fT0_t ht).1.symm
  · rw [s0_z (by omega) (by omega)]; exact (fT0_t ht).2.symm
  · rw [s0_z (by decide) (by decide)]; decide +kernel
  · exact ⟨s0_z (by omega) (by omega), s0_z (by omega) (by omega), s0_z (by omega) (by omega), s0_z (by omega) (by omega)⟩
  · exact s0_z (by decide) (by decide)
  · exact s0_z (by decide) (by decide)
  · exact s0_z (by decide) (by decide)
  · decide +kernel
  · decide +kernel
  · decide +kernel
  · decide +kernel
  · show _ ≤ (fT0 (2 * t)).toInt ∧ (fT0 (2 * t)).toInt ≤ _
    rw [(fT0_t ht).1, show (100 : Int32).toInt = 100 from rfl]
    omega
theorem HX0 : HX (fun _ => E0) 0 0 (fun _ => 0) 0 := ⟨0, 0, by decide, by decide, rfl, rfl, rfl, fun k hk => absurd hk (Nat.not_lt_zero k)⟩
theorem KX0 : KX E0 0 (fun _ => 0) 0 := Or.inl ⟨rfl, rfl⟩
theorem TX0_ : ∃ L, TX (fun _ => 0) 0 (fun _ => 0) 0 L := ⟨0, by decide, rfl, rfl, fun j hj => absurd hj (Nat.not_lt_zero j)⟩
theorem ZX0 : ZX (-5) (-5) 0 0 0 := Or.inl ⟨rfl, rfl, rfl⟩
