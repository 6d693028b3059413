theorem nI_toI9 {n : Nat} (h : n < 2147483648) : (nI n).toInt = (n : Int) := Int32.toInt_ofNat_of_lt h
theorem sw_cases {v : Int32} (h : ¬ (v.toInt < 0 ∨ 19 < v.toInt)) : ∃ k, k < 20 ∧ v = nI k := by
  have h0 : ¬ v < 0 := fun h9 => h (Or.inl (Int32.lt_iff_toInt_lt.mp h9))
  obtain ⟨n, hn, rfl⟩ := nI_nn h0
  rw [nI_toI9 hn] at h
  exact ⟨n, by omega, rfl⟩
set_option maxHeartbeats 1000000 in
set_option maxRecDepth 100000 in
/-- one turn: what call it is, and the call -/
theorem law_turn {p : Program} {l : Launch} {e : Env} {s : State} {m : MethodId} {below : List Frame} {meth : Method} {cd : Code} {Q : State → Prop} {sb L : Nat} {xs : Nat → Int32} {D : va_G} {y : Nat → ClassId} (C : LCtx p s m cd sb L xs D y) (hl0 : l.stackTraces = false) {X0 O : Nat} {E E2 Y Z Z2 : Nat → Nat} {j : Nat} (hi : 4 * j + 4 ≤ L) (hj : j ≤ 512) {w : va_W} (hI : LInv X0 O E E2 Y Z Z2 y j w) {H : Heap} {locs : List Loc} {ls : Array Slot} {cells slots : Nat} (hc : cells + 58 ≤ 601024 ∧ slots + 484 ≤ 7293034) (hP : va_P D vwCl w H) (hD : va_D (lA s) w) (hS : va_S (lA s) s.heap H locs) (hl : lv_has ls 9 [(4, .int (nI (4 * j))), (3, .ref O), (2, .ref (Y 0)), (1, .ref X0), (0, .ref sb)])
    (KK : LNext p l e s m below meth cd sb Q X0 O E E2 Y Z Z2 D y (4 * j) j cells slots) : W p l e room_1 s m #[Value.ref sb] below meth cd H locs cells slots Q (F0 m 32 ls []) := by
  have hx := C.hx
  have hb := C.hb
  refine lv_aload_n hx hb dL_law_32 rfl (lv_at hl 4 rfl) ?_
  refine lv_iload hx hb dL_law_33 (lv_at hl 0 rfl) ?_
  refine va_sld hx hb C.hXs C.hbl C.hbA hS (vp_in_n (by omega) (by have := C.hL; omega)) dL_law_35 ?_
  rw [nI_clamp (by have := C.hL; omega)]
  refine lv_bipush (v := 31) hx hb dL_law_36 (by decide) ?_
  refine lv_iand hx hb dL_law_38 ?_
  generalize xs (4 * j) &&& 31 = v
  by_cases hv : v.toInt < 0 ∨ 19 < v.toInt
  · refine lv_tableOut (tgt := 1267) hx hb dL_law_39 hv (by decide) ?_
    obtain ⟨t, o, q, b, b', c, bc, n, ar, fi, re, T, g, th, T', S, hw⟩ := hI
    refine W.widen (k := cells + 58) (n := slots + 484) (by omega) (by omega) ?_
    exact KK w H locs ls ⟨t, o, q, b, b', c, bc, n, ar, fi, re, T, g, th, T', S.up, hw⟩ hP hD hS hl
  obtain ⟨t, o, q, b, b', c, bc, n, ar, fi, re, T, g, th, T', S, rfl⟩ := hI
  obtain ⟨k, hk, rfl⟩ := sw_cases hv
  rcases (show k = 0 ∨ k = 1 ∨ k = 2 ∨ k = 3 ∨ k = 4 ∨ k = 5 ∨ k = 6 ∨ k = 7 ∨ k = 8 ∨ k = 9 ∨ k = 10 ∨ k = 11 ∨ k = 12 ∨ k = 13 ∨ k = 14 ∨ k = 15 ∨ k = 16 ∨ k = 17 ∨ k = 18 ∨ k = 19 by omega) with rfl | rfl | rfl | rfl | rfl | rfl | rfl | rfl | rfl | rfl | rfl | rfl | rfl | rfl | rfl | rfl | rfl | rfl | rfl | rfl
  · refine lv_tableIn (off := 93) (tgt := 132) hx hb dL_law_39 (by decide) (by decide) (by decide) (by decide) ?_
    exact step_weir C hl0 hi hj S hc hP hD hS hl KK
  · refine lv_tableIn (off := 173) (tgt := 212) hx hb dL_law_39 (by decide) (by decide) (by decide) (by decide) ?_
    exact step_gate C hl0 hi hj S hc hP hD hS hl KK
  · refine lv_tableIn (off := 236) (tgt := 275) hx hb dL_law_39 (by decide) (by decide) (by decide) (by decide) ?_
    exact step_mend C hl0 hi hj S hc hP hD hS hl KK
  · refine lv_tableIn (off := 304) (tgt := 343) hx hb dL_law_39 (by decide) (by decide) (by decide) (by decide) ?_
    exact step_drive C hl0 hi hj S hc hP hD hS hl KK
  · refine lv_tableIn (off := 372) (tgt := 411) hx hb dL_law_39 (by decide) (by decide) (by decide) (by decide) ?_
    exact step_sell C hl0 hi hj S hc hP hD hS hl KK
  · refine lv_tableIn (off := 428) (tgt := 467) hx hb dL_law_39 (by decide) (by decide) (by decide) (by decide) ?_
    exact step_setRun C hl0 hi hj S hc hP hD hS hl KK
  · refine lv_tableIn (off := 496) (tgt := 535) hx hb dL_law_39 (by decide) (by decide) (by decide) (by decide) ?_
    exact step_barge C hl0 hi hj S hc hP hD hS hl KK
  · refine lv_tableIn (off := 552) (tgt := 591) hx hb dL_law_39 (by decide) (by decide) (by decide) (by decide) ?_
    exact step_about C hl0 hi hj S hc hP hD hS hl KK
  · refine lv_tableIn (off := 620) (tgt := 659) hx hb dL_law_39 (by decide) (by decide) (by decide) (by decide) ?_
    exact step_told C hl0 hi hj S hc hP hD hS hl KK
  · refine lv_tableIn (off := 688) (tgt := 727) hx hb dL_law_39 (by decide) (by decide) (by decide) (by decide) ?_
    exact step_count C hl0 hi hj S hc hP hD hS hl KK
  · refine lv_tableIn (off := 744) (tgt := 783) hx hb dL_law_39 (by decide) (by decide) (by decide) (by decide) ?_
    exact step_hinders C hl0 hi hj S hc hP hD hS hl KK
  · refine lv_tableIn (off := 800) (tgt := 839) hx hb dL_law_39 (by decide) (by decide) (by decide) (by decide) ?_
    exact step_richest C hl0 hi hj S hc hP hD hS hl KK
  · refine lv_tableIn (off := 813) (tgt := 852) hx hb dL_law_39 (by decide) (by decide) (by decide) (by decide) ?_
    exact step_pass C hl0 hi hj S hc hP hD hS hl KK
  · refine lv_tableIn (off := 869) (tgt := 908) hx hb dL_law_39 (by decide) (by decide) (by decide) (by decide) ?_
    exact step_catches C hl0 hi hj S hc hP hD hS hl KK
  · refine lv_tableIn (off := 925) (tgt := 964) hx hb dL_law_39 (by decide) (by decide) (by decide) (by decide) ?_
    exact step_arrives C hl0 hi hj S hc hP hD hS hl KK
  · refine lv_tableIn (off := 981) (tgt := 1020) hx hb dL_law_39 (by decide) (by decide) (by decide) (by decide) ?_
    exact step_lasts C hl0 hi hj S hc hP hD hS hl KK
  · refine lv_tableIn (off := 1037) (tgt := 1076) hx hb dL_law_39 (by decide) (by decide) (by decide) (by decide) ?_
    exact step_foresee C hl0 hi hj S hc hP hD hS hl KK
  · refine lv_tableIn (off := 1105) (tgt := 1144) hx hb dL_law_39 (by decide) (by decide) (by decide) (by decide) ?_
    exact step_advise C hl0 hi hj S hc hP hD hS hl KK
  · refine lv_tableIn (off := 1173) (tgt := 1212) hx hb dL_law_39 (by decide) (by decide) (by decide) (by decide) ?_
    exact step_mean C hl0 hi hj S hc hP hD hS hl KK
  · refine lv_tableIn (off := 1214) (tgt := 1253) hx hb dL_law_39 (by decide) (by decide) (by decide) (by decide) ?_
    exact step_digest C hl0 hi hj S hc hP hD hS hl KK
set_option maxHeartbeats 1000000 in
set_option maxRecDepth 100000 in
/-- the loop: L / 4 turns -/
theorem law_loop {p : Program} {l : Launch} {e : Env} {s : State} {m : MethodId} {below : List Frame} {meth : Method} {cd : Code} {Q : State → Prop} {sb L : Nat} {xs : Nat → Int32} {D : va_G} {y : Nat → ClassId} (C : LCtx p s m cd sb L xs D y) (hl0 : l.stackTraces = false) {X0 O : Nat} {E E2 Y Z Z2 : Nat → Nat} {c0 s0 : Nat} (hc0 : c0 + 58 * 512 ≤ 601024) (hs0 : s0 + 484 * 512 ≤ 7293034)
    (EX : ∀ (H : Heap) (locs : List Loc) (ls : Array Slot), va_S (lA s) s.heap H locs → W p l e room_1 s m #[Value.ref sb] below meth cd H locs 601024 7293034 Q (F0 m 1273 ls [])) :
    ∀ j, j ≤ L / 4 → ∀ (w : va_W) (H : Heap) (locs : List Loc) (ls : Array Slot), LInv X0 O E E2 Y Z Z2 y j w → va_P D vwCl w H → va_D (lA s) w → va_S (lA s) s.heap H locs → lv_has ls 9 [(4, .int (nI (4 * j))), (3, .ref O), (2, .ref (Y 0)), (1, .ref X0), (0, .ref sb)] → W p l e room_1 s m #[Value.ref sb] below meth cd H locs (c0 + 58 * j) (s0 + 484 * j) Q (F0 m 23 ls []) := by
  have hx := C.hx
  have hb := C.hb
  have hL := C.hL
  have test : ∀ (j : Nat), j ≤ L / 4 → ∀ (H : Heap) (locs : List Loc) (ls : Array Slot) (cells slots : Nat), va_S (lA s) s.heap H locs → lv_has ls 9 [(4, .int (nI (4 * j))), (3, .ref O), (2, .ref (Y 0)), (1, .ref X0), (0, .ref sb)] → (4 * j + 4 ≤ L → W p l e room_1 s m #[Value.ref sb] below meth cd H locs cells slots Q (F0 m 32 ls [])) → (¬ 4 * j + 4 ≤ L → W p l e room_1 s m #[Value.ref sb] below meth cd H locs cells slots Q (F0 m 1273 ls [])) → W p l e room_1 s m #[Value.ref sb] below meth cd H locs cells slots Q (F0 m 23 ls []) := by
    intro j hj H locs ls cells slots hS hl k1 k2
    refine lv_iload hx hb dL_law_23 (lv_at hl 0 rfl) ?_
    refine lv_aload_n hx hb dL_law_25 rfl (lv_at hl 4 rfl) ?_
    refine va_slen hx hb C.hXs C.hbl C.hbA hS dL_law_26 ?_
    refine lv_iconst (v := 4) hx hb dL_law_27 (by decide) ?_
    refine lv_isub hx hb dL_law_28 ?_
    refine lv_icmp_gt (tgt := 1273) hx hb dL_law_29 (by decide) (fun c9 => k2 (fun h9 => ?_)) (fun c9 => k1 ?_)
    · have e9 : Int32.ofNat L - 4 = nI (L - 4) := pk_sub (a := L) (b := 4) (by omega)
      rw [e9] at c9
      exact absurd c9 (nI_nlt (by omega) (by omega))
    · by_cases h4 : 4 ≤ L
      · have e9 : Int32.ofNat L - 4 = nI (L - 4) := pk_sub (a := L) (b := 4) h4
        rw [e9] at c9
        exact Nat.le_of_not_lt (fun h9 => c9 (nI_lt (by omega) (by omega)))
      · exfalso
        have hj0 : j = 0 := by omega
        subst hj0
        rcases (show L = 0 ∨ L = 1 ∨ L = 2 ∨ L = 3 by omega) with rfl | rfl | rfl | rfl <;> exact c9 (by decide)
  refine down ?_ ?_
  · intro w H locs ls hI hP hD hS hl
    refine test (L / 4) (Nat.le_refl _) H locs ls _ _ hS hl (fun h9 => absurd h9 (by omega)) (fun _ => ?_)
    refine W.widen (k := 601024) (n := 7293034) (by omega) (by omega) ?_
    exact EX H locs ls hS
  · intro j hj ih w H locs ls hI hP hD hS hl
    refine test j (by omega) H locs ls _ _ hS hl (fun h9 => ?_) (fun h9 => absurd (show 4 * j + 4 ≤ L by omega) h9)
    refine law_turn C hl0 h9 (by omega) hI ⟨by omega, by omega⟩ hP hD hS hl ?_
    intro w H locs ls hI hP hD hS hl
    refine lv_iinc (k := 0) (v := nI (4 * (j + 1))) (lv' := [(4, .int (nI (4 * (j + 1)))), (3, .ref O), (2, .ref (Y 0)), (1, .ref X0), (0, .ref sb)]) hx hb dL_law_1267 hl rfl (nI_add (4 * j) 4) (by decide) rfl (fun ls hl => ?_)
    refine lv_goto (tgt := 23) hx hb dL_law_1270 (by decide) ?_
    refine W.cs (cells' := c0 + 58 * (j + 1)) (slots' := s0 + 484 * (j + 1)) (by omega) (by omega) ?_
    exact ih w H locs ls hI hP hD hS hl
