def dm17 (t : Nat → Int32) (q : Fld) (c bc n : Nat) (ar fi rn : Int32) : Int64 := (digS (digS (digS (digS (digS (digS (digS (digS (digS (digS (digS (digS (digS (digS (digS (digS (digS 1409 (cntF t q c bc n ar fi rn 0)) (cntF t q c bc n ar fi rn 1)) (cntF t q c bc n ar fi rn 2)) (cntF t q c bc n ar fi rn 3)) (cntF t q c bc n ar fi rn 4)) (cntF t q c bc n ar fi rn 5)) (cntF t q c bc n ar fi rn 6)) (cntF t q c bc n ar fi rn 7)) (cntF t q c bc n ar fi rn 8)) (cntF t q c bc n ar fi rn 9)) (t 0)) (t 1)) (t 2)) (t 3)) (t 4)) (t 5)) (t 6))
def dmW8 (q : Fld) (k : Nat) (d : Int64) : Int64 := (digS (digS (digS (digS (digS (digS (digS (digS d (wtF q k 0)) (wtF q k 1)) (wtF q k 2)) (wtF q k 3)) (wtF q k 4)) (wtF q k 5)) (wtF q k 6)) (wtF q k 7))
def dmB4 (q b : Fld) (c : Nat) (pp : Nat → Nat) (k : Nat) (d : Int64) : Int64 := (digS (digS (digS (digS d (b 1 k)) (b 2 k)) (b 3 k)) (nfO q (b 1 k) c (40 - pp k)))
def dmWs (q : Fld) (d : Int64) : Nat → Int64
  | 0 => d
  | k + 1 => dmW8 q k (dmWs q d k)
def dmBs (q b : Fld) (c : Nat) (pp : Nat → Nat) (d : Int64) : Nat → Int64
  | 0 => d
  | k + 1 => dmB4 q b c pp k (dmBs q b c pp d k)
def digM (t : Nat → Int32) (q b : Fld) (c bc n : Nat) (ar fi rn : Int32) (pp : Nat → Nat) : Int64 := dmBs q b c pp (dmWs q (dm17 t q c bc n ar fi rn) c) bc
set_option maxHeartbeats 1000000 in
set_option maxRecDepth 100000 in
theorem c_X5_digest (l : Launch) (D : va_G) (y : Nat → ClassId) (Y Z Z2 : Nat → Nat) (th : Int32) (t : Nat → Int32) (c : Nat) (q b : Fld) (bc n : Nat) (ar fi rn : Int32) (T : Nst) (pp : Nat → Nat) (hpp : ∀ j, j < bc → b 2 j + 1 = nI (pp j) ∧ pp j ≤ 40) (hc : c ≤ 6) (hbc : bc ≤ 5) (hn : n < 2147483648) (sz : Nat) : zMN l yX5_digest wsX5_digest { frames := 4, cells := 58, slots := 484, locals := 88 } D y [.ref (Y 0)] (zW Y Z Z2 y th t c q b bc n ar fi rn T) sz (some (.long (digM t q b c bc n ar fi rn pp))) (zW Y Z Z2 y 0 t c q b bc n ar fi rn T) 58 484 := by
  refine zMN.of (cc := cX5_digest) (maxL := 7) (ret := (some .long)) (own := RX5) (by decide) rfl (Nat.le_of_ble_eq_true rfl) rfl ?_
  intro p e s m args below meth cd ls A H locs hx hb hr hml hown hts hlocks hP hK hD hA hS hN hl hin
  have hS0 := hS
  have hl : lv_has ls 7 [(0, .ref (Y 0))] := hl
  have hf31 : (Cond.fieldLink RX5 31 "StakeWeirsModel" "thrown" "I").before args s = true := hts _ (by decide +kernel)
  have hinX5 : ∀ w ∈ wsX50, w ∈ wsX5_digest := by decide +kernel
  have hk132 : (Cond.constantLong RX5 132 (1409)).before args s = true := hts _ (by decide +kernel)
  have hk134 : (Cond.constantLong RX5 134 (31)).before args s = true := hts _ (by decide +kernel)
  have hf24 : (Cond.fieldLink RX5 24 "StakeWeirsModel" "s" "LStakeWeirsModel$State;").before args s = true := hts _ (by decide +kernel)
  have hf7 : (Cond.fieldLink RX5 7 "StakeWeirsModel" "table" "[I").before args s = true := hts _ (by decide +kernel)
  have hf35 : (Cond.fieldLink RX5 35 "StakeWeirsModel" "weirs" "I").before args s = true := hts _ (by decide +kernel)
  have hf42 : (Cond.fieldLinkNest "StakeWeirsModel" 42 "StakeWeirsModel$State" "barges" "I" "StakeWeirsModel").before args s = true := va_Nw.use rfl (hN ("StakeWeirsModel", 42, "StakeWeirsModel$State", "barges", "I", "StakeWeirsModel") (by decide +kernel))
  have hinX4 : ∀ w ∈ wsX40, w ∈ wsX5_digest := by decide +kernel
  refine lv_aload_n hx hb dX5_digest_0 rfl (lv_at hl 0 rfl) ?_
  refine lv_iconst (v := 0) hx hb dX5_digest_1 (by decide) ?_
  refine va_put (D := D) (ci := 5) (v := .int 0) (ty := .int) (C := RX5) (T := TX5) (N := 7) hx hb hts hinX5 tyX5 tyX5_ok nmX5 hown hK hP hD hS (0) rfl rfl 0 (by decide) hf31 (fun _ h9 => h9) rfl (by decide +kernel) rfl rfl (Nat.le_of_ble_eq_true rfl) dX5_digest_2 (fun H locs hP hD hS => ?_)
  have hP : va_P D vwCl (zW Y Z Z2 y 0 t c q b bc n ar fi rn T) H := hP
  have hD : va_D A (zW Y Z Z2 y 0 t c q b bc n ar fi rn T) := hD
  refine lv_ldc2 (v := 1409) hx hb hown hk132 dX5_digest_5 ?_
  refine lv_lstore_n (lv' := [(1, .long 1409), (0, .ref (Y 0))]) hx hb dX5_digest_8 rfl hl (by decide) rfl (fun ls hl => ?_)
  refine lv_iconst (v := 0) hx hb dX5_digest_9 (by decide) ?_
  refine lv_istore_n (lv' := [(3, .int 0), (1, .long 1409), (0, .ref (Y 0))]) hx hb dX5_digest_10 rfl hl (by decide) rfl (fun ls hl => ?_)
  refine lv_iload_n hx hb dX5_digest_11 rfl (lv_at hl 0 rfl) ?_
  refine lv_bipush (v := 9) hx hb dX5_digest_12 (by decide) ?_
  refine lv_icmp_gt (tgt := 39) hx hb dX5_digest_14 (by decide) (fun c1 => ?_) (fun c1 => ?_)
  · exact absurd c1 (by decide)
  · have d1 := Int32.not_lt.mp c1
    refine lv_lload_n hx hb dX5_digest_17 rfl (lv_at hl 1 rfl) ?_
    refine lv_ldc2 (v := 31) hx hb hown hk134 dX5_digest_18 ?_
    refine lv_lmul hx hb dX5_digest_21 ?_
    refine lv_aload_n hx hb dX5_digest_22 rfl (lv_at hl 2 rfl) ?_
    refine va_get (D := D) (ci := 5) (v := .ref (Z 0)) (C := RX5) (T := TX5) (N := 7) hx hb hts hinX5 hown hK hP (0) rfl rfl 5 (by decide) hf24 (fun _ h9 => h9) rfl dX5_digest_23 ?_
    refine lv_iload_n hx hb dX5_digest_26 rfl (lv_at hl 0 rfl) ?_
    refine zcNMV (As := [.int 0]) (rest := [.long ((1409 * 31))]) (st1 := [.int ((cntF t q c bc n ar fi rn 0)), .long ((1409 * 31))]) (cells1 := 1) (slots1 := 10) ⟨hx, hb, hml, hown, hts⟩ (c_X4_counted l D y Y Z (Z 0) (Z2 0) 0 t c q b bc n ar fi rn 0 (by omega) (by omega) (by omega) _) (cwV 1 hts gX5_digest_X4_counted rfl rfl rfl (by decide +kernel) ⟨Nat.le_of_ble_eq_true rfl, Nat.le_of_ble_eq_true rfl⟩) hN hK (zz_sP hP) (zz_sD hD) (ci := 4) (q0 := 4) rfl rfl rfl rfl hl.1 rfl (lv_room (Nat.le_of_ble_eq_true rfl)) dX5_digest_27 hS (zz_sF hD hS hA) ⟨Nat.le_of_ble_eq_true rfl, Nat.le_of_ble_eq_true rfl⟩ rfl rfl rfl (fun H locs hP1 hz hfr hS => ?_)
    obtain ⟨hP, hD⟩ := zz_sB hP hD hP1 hfr
    have hP : va_P D vwCl (zW Y Z Z2 y 0 t c q b bc n ar fi rn T) H := hP
    have hD : va_D A (zW Y Z Z2 y 0 t c q b bc n ar fi rn T) := hD
    refine lv_i2l hx hb dX5_digest_30 rfl ?_
    refine lv_ladd hx hb dX5_digest_31 ?_
    refine zt_l (x' := (digS 1409 ((cntF t q c bc n ar fi rn 0)))) rfl ?_
    refine lv_lstore_n (lv' := [(1, .long ((digS 1409 ((cntF t q c bc n ar fi rn 0))))), (3, .int 0), (0, .ref (Y 0))]) hx hb dX5_digest_32 rfl hl (by decide) rfl (fun ls hl => ?_)
    refine lv_iinc (v := 1) (lv' := [(3, .int 1), (1, .long ((digS 1409 ((cntF t q c bc n ar fi rn 0))))), (0, .ref (Y 0))]) hx hb dX5_digest_33 hl (k := 1) rfl (by decide) (by decide) rfl (fun ls hl => ?_)
    refine lv_goto (tgt := 11) hx hb dX5_digest_36 (by decide) ?_
    refine lv_iload_n hx hb dX5_digest_11 rfl (lv_at hl 0 rfl) ?_
    refine lv_bipush (v := 9) hx hb dX5_digest_12 (by decide) ?_
    refine lv_icmp_gt (tgt := 39) hx hb dX5_digest_14 (by decide) (fun c2 => ?_) (fun c2 => ?_)
    · exact absurd c2 (by decide)
    · have d2 := Int32.not_lt.mp c2
      refine lv_lload_n hx hb dX5_digest_17 rfl (lv_at hl 1 rfl) ?_
      refine lv_ldc2 (v := 31) hx hb hown hk134 dX5_digest_18 ?_
      refine lv_lmul hx hb dX5_digest_21 ?_
      refine lv_aload_n hx hb dX5_digest_22 rfl (lv_at hl 2 rfl) ?_
      refine va_get (D := D) (ci := 5) (v := .ref (Z 0)) (C := RX5) (T := TX5) (N := 7) hx hb hts hinX5 hown hK hP (0) rfl rfl 5 (by decide) hf24 (fun _ h9 => h9) rfl dX5_digest_23 ?_
      refine lv_iload_n hx hb dX5_digest_26 rfl (lv_at hl 0 rfl) ?_
      refine zcNMV (As := [.int 1]) (rest := [.long (((digS 1409 ((cntF t q c bc n ar fi rn 0))) * 31))]) (st1 := [.int ((cntF t q c bc n ar fi rn 1)), .long (((digS 1409 ((cntF t q c bc n ar fi rn 0))) * 31))]) (cells1 := 2) (slots1 := 20) ⟨hx, hb, hml, hown, hts⟩ (c_X4_counted l D y Y Z (Z 0) (Z2 0) 0 t c q b bc n ar fi rn 1 (by omega) (by omega) (by omega) _) (cwV 1 hts gX5_digest_X4_counted rfl rfl rfl (by decide +kernel) ⟨Nat.le_of_ble_eq_true rfl, Nat.le_of_ble_eq_true rfl⟩) hN hK (zz_sP hP) (zz_sD hD) (ci := 4) (q0 := 4) rfl rfl rfl rfl hl.1 rfl (lv_room (Nat.le_of_ble_eq_true rfl)) dX5_digest_27 hS (zz_sF hD hS hA) ⟨Nat.le_of_ble_eq_true rfl, Nat.le_of_ble_eq_true rfl⟩ rfl rfl rfl (fun H locs hP1 hz hfr hS => ?_)
      obtain ⟨hP, hD⟩ := zz_sB hP hD hP1 hfr
      have hP : va_P D vwCl (zW Y Z Z2 y 0 t c q b bc n ar fi rn T) H := hP
      have hD : va_D A (zW Y Z Z2 y 0 t c q b bc n ar fi rn T) := hD
      refine lv_i2l hx hb dX5_digest_30 rfl ?_
      refine lv_ladd hx hb dX5_digest_31 ?_
      refine zt_l (x' := (digS (digS 1409 ((cntF t q c bc n ar fi rn 0))) ((cntF t q c bc n ar fi rn 1)))) rfl ?_
      refine lv_lstore_n (lv' := [(1, .long ((digS (digS 1409 ((cntF t q c bc n ar fi rn 0))) ((cntF t q c bc n ar fi rn 1))))), (3, .int 1), (0, .ref (Y 0))]) hx hb dX5_digest_32 rfl hl (by decide) rfl (fun ls hl => ?_)
      refine lv_iinc (v := 2) (lv' := [(3, .int 2), (1, .long ((digS (digS 1409 ((cntF t q c bc n ar fi rn 0))) ((cntF t q c bc n ar fi rn 1))))), (0, .ref (Y 0))]) hx hb dX5_digest_33 hl (k := 1) rfl (by decide) (by decide) rfl (fun ls hl => ?_)
      refine lv_goto (tgt := 11) hx hb dX5_digest_36 (by decide) ?_
      refine lv_iload_n hx hb dX5_digest_11 rfl (lv_at hl 0 rfl) ?_
      refine lv_bipush (v := 9) hx hb dX5_digest_12 (by decide) ?_
      refine lv_icmp_gt (tgt := 39) hx hb dX5_digest_14 (by decide) (fun c3 => ?_) (fun c3 => ?_)
      · exact absurd c3 (by decide)
      · have d3 := Int32.not_lt.mp c3
        refine lv_lload_n hx hb dX5_digest_17 rfl (lv_at hl 1 rfl) ?_
        refine lv_ldc2 (v := 31) hx hb hown hk134 dX5_digest_18 ?_
        refine lv_lmul hx hb dX5_digest_21 ?_
        refine lv_aload_n hx hb dX5_digest_22 rfl (lv_at hl 2 rfl) ?_
        refine va_get (D := D) (ci := 5) (v := .ref (Z 0)) (C := RX5) (T := TX5) (N := 7) hx hb hts hinX5 hown hK hP (0) rfl rfl 5 (by decide) hf24 (fun _ h9 => h9) rfl dX5_digest_23 ?_
        refine lv_iload_n hx hb dX5_digest_26 rfl (lv_at hl 0 rfl) ?_
        refine zcNMV (As := [.int 2]) (rest := [.long (((digS (digS 1409 ((cntF t q c bc n ar fi rn 0))) ((cntF t q c bc n ar fi rn 1))) * 31))]) (st1 := [.int ((cntF t q c bc n ar fi rn 2)), .long (((digS (digS 1409 ((cntF t q c bc n ar fi rn 0))) ((cntF t q c bc n ar fi rn 1))) * 31))]) (cells1 := 3) (slots1 := 30) ⟨hx, hb, hml, hown, hts⟩ (c_X4_counted l D y Y Z (Z 0) (Z2 0) 0 t c q b bc n ar fi rn 2 (by omega) (by omega) (by omega) _) (cwV 1 hts gX5_digest_X4_counted rfl rfl rfl (by decide +kernel) ⟨Nat.le_of_ble_eq_true rfl, Nat.le_of_ble_eq_true rfl⟩) hN hK (zz_sP hP) (zz_sD hD) (ci := 4) (q0 := 4) rfl rfl rfl rfl hl.1 rfl (lv_room (Nat.le_of_ble_eq_true rfl)) dX5_digest_27 hS (zz_sF hD hS hA) ⟨Nat.le_of_ble_eq_true rfl, Nat.le_of_ble_eq_true rfl⟩ rfl rfl rfl (fun H locs hP1 hz hfr hS => ?_)
        obtain ⟨hP, hD⟩ := zz_sB hP hD hP1 hfr
        have hP : va_P D vwCl (zW Y Z Z2 y 0 t c q b bc n ar fi rn T) H := hP
        have hD : va_D A (zW Y Z Z2 y 0 t c q b bc n ar fi rn T) := hD
        refine lv_i2l hx hb dX5_digest_30 rfl ?_
        refine lv_ladd hx hb dX5_digest_31 ?_
        refine zt_l (x' := (digS (digS (digS 1409 ((cntF t q c bc n ar fi rn 0))) ((cntF t q c bc n ar fi rn 1))) ((cntF t q c bc n ar fi rn 2)))) rfl ?_
        refine lv_lstore_n (lv' := [(1, .long ((digS (digS (digS 1409 ((cntF t q c bc n ar fi rn 0))) ((cntF t q c bc n ar fi rn 1))) ((cntF t q c bc n ar fi rn 2))))), (3, .int 2), (0, .ref (Y 0))]) hx hb dX5_digest_32 rfl hl (by decide) rfl (fun ls hl => ?_)
        refine lv_iinc (v := 3) (lv' := [(3, .int 3), (1, .long ((digS (digS (digS 1409 ((cntF t q c bc n ar fi rn 0))) ((cntF t q c bc n ar fi rn 1))) ((cntF t q c bc n ar fi rn 2))))), (0, .ref (Y 0))]) hx hb dX5_digest_33 hl (k := 1) rfl (by decide) (by decide) rfl (fun ls hl => ?_)
        refine lv_goto (tgt := 11) hx hb dX5_digest_36 (by decide) ?_
        refine lv_iload_n hx hb dX5_digest_11 rfl (lv_at hl 0 rfl) ?_
        refine lv_bipush (v := 9) hx hb dX5_digest_12 (by decide) ?_
        refine lv_icmp_gt (tgt := 39) hx hb dX5_digest_14 (by decide) (fun c4 => ?_) (fun c4 => ?_)
        · exact absurd c4 (by decide)
        · have d4 := Int32.not_lt.mp c4
          refine lv_lload_n hx hb dX5_digest_17 rfl (lv_at hl 1 rfl) ?_
          refine lv_ldc2 (v := 31) hx hb hown hk134 dX5_digest_18 ?_
          refine lv_lmul hx hb dX5_digest_21 ?_
          refine lv_aload_n hx hb dX5_digest_22 rfl (lv_at hl 2 rfl) ?_
          refine va_get (D := D) (ci := 5) (v := .ref (Z 0)) (C := RX5) (T := TX5) (N := 7) hx hb hts hinX5 hown hK hP (0) rfl rfl 5 (by decide) hf24 (fun _ h9 => h9) rfl dX5_digest_23 ?_
          refine lv_iload_n hx hb dX5_digest_26 rfl (lv_at hl 0 rfl) ?_
          refine zcNMV (As := [.int 3]) (rest := [.long (((digS (digS (digS 1409 ((cntF t q c bc n ar fi rn 0))) ((cntF t q c bc n ar fi rn 1))) ((cntF t q c bc n ar fi rn 2))) * 31))]) (st1 := [.int ((cntF t q c bc n ar fi rn 3)), .long (((digS (digS (digS 1409 ((cntF t q c bc n ar fi rn 0))) ((cntF t q c bc n ar fi rn 1))) ((cntF t q c bc n ar fi rn 2))) * 31))]) (cells1 := 4) (slots1 := 40) ⟨hx, hb, hml, hown, hts⟩ (c_X4_counted l D y Y Z (Z 0) (Z2 0) 0 t c q b bc n ar fi rn 3 (by omega) (by omega) (by omega) _) (cwV 1 hts gX5_digest_X4_counted rfl rfl rfl (by decide +kernel) ⟨Nat.le_of_ble_eq_true rfl, Nat.le_of_ble_eq_true rfl⟩) hN hK (zz_sP hP) (zz_sD hD) (ci := 4) (q0 := 4) rfl rfl rfl rfl hl.1 rfl (lv_room (Nat.le_of_ble_eq_true rfl)) dX5_digest_27 hS (zz_sF hD hS hA) ⟨Nat.le_of_ble_eq_true rfl, Nat.le_of_ble_eq_true rfl⟩ rfl rfl rfl (fun H locs hP1 hz hfr hS => ?_)
          obtain ⟨hP, hD⟩ := zz_sB hP hD hP1 hfr
          have hP : va_P D vwCl (zW Y Z Z2 y 0 t c q b bc n ar fi rn T) H := hP
          have hD : va_D A (zW Y Z Z2 y 0 t c q b bc n ar fi rn T) := hD
          refine lv_i2l hx hb dX5_digest_30 rfl ?_
          refine lv_ladd hx hb dX5_digest_31 ?_
          refine zt_l (x' := (digS (digS (digS (digS 1409 ((cntF t q c bc n ar fi rn 0))) ((cntF t q c bc n ar fi rn 1))) ((cntF t q c bc n ar fi rn 2))) ((cntF t q c bc n ar fi rn 3)))) rfl ?_
          refine lv_lstore_n (lv' := [(1, .long ((digS (digS (digS (digS 1409 ((cntF t q c bc n ar fi rn 0))) ((cntF t q c bc n ar fi rn 1))) ((cntF t q c bc n ar fi rn 2))) ((cntF t q c bc n ar fi rn 3))))), (3, .int 3), (0, .ref (Y 0))]) hx hb dX5_digest_32 rfl hl (by decide) rfl (fun ls hl => ?_)
          refine lv_iinc (v := 4) (lv' := [(3, .int 4), (1, .long ((digS (digS (digS (digS 1409 ((cntF t q c bc n ar fi rn 0))) ((cntF t q c bc n ar fi rn 1))) ((cntF t q c bc n ar fi rn 2))) ((cntF t q c bc n ar fi rn 3))))), (0, .ref (Y 0))]) hx hb dX5_digest_33 hl (k := 1) rfl (by decide) (by decide) rfl (fun ls hl => ?_)
          refine lv_goto (tgt := 11) hx hb dX5_digest_36 (by decide) ?_
          refine lv_iload_n hx hb dX5_digest_11 rfl (lv_at hl 0 rfl) ?_
          refine lv_bipush (v := 9) hx hb dX5_digest_12 (by decide) ?_
          refine lv_icmp_gt (tgt := 39) hx hb dX5_digest_14 (by decide) (fun c5 => ?_) (fun c5 => ?_)
          · exact absurd c5 (by decide)
          · have d5 := Int32.not_lt.mp c5
            refine lv_lload_n hx hb dX5_digest_17 rfl (lv_at hl 1 rfl) ?_
            refine lv_ldc2 (v := 31) hx hb hown hk134 dX5_digest_18 ?_
            refine lv_lmul hx hb dX5_digest_21 ?_
            refine lv_aload_n hx hb dX5_digest_22 rfl (lv_at hl 2 rfl) ?_
            refine va_get (D := D) (ci := 5) (v := .ref (Z 0)) (C := RX5) (T := TX5) (N := 7) hx hb hts hinX5 hown hK hP (0) rfl rfl 5 (by decide) hf24 (fun _ h9 => h9) rfl dX5_digest_23 ?_
            refine lv_iload_n hx hb dX5_digest_26 rfl (lv_at hl 0 rfl) ?_
            refine zcNMV (As := [.int 4]) (rest := [.long (((digS (digS (digS (digS 1409 ((cntF t q c bc n ar fi rn 0))) ((cntF t q c bc n ar fi rn 1))) ((cntF t q c bc n ar fi rn 2))) ((cntF t q c bc n ar fi rn 3))) * 31))]) (st1 := [.int ((cntF t q c bc n ar fi rn 4)), .long (((digS (digS (digS (digS 1409 ((cntF t q c bc n ar fi rn 0))) ((cntF t q c bc n ar fi rn 1))) ((cntF t q c bc n ar fi rn 2))) ((cntF t q c bc n ar fi rn 3))) * 31))]) (cells1 := 5) (slots1 := 50) ⟨hx, hb, hml, hown, hts⟩ (c_X4_counted l D y Y Z (Z 0) (Z2 0) 0 t c q b bc n ar fi rn 4 (by omega) (by omega) (by omega) _) (cwV 1 hts gX5_digest_X4_counted rfl rfl rfl (by decide +kernel) ⟨Nat.le_of_ble_eq_true rfl, Nat.le_of_ble_eq_true rfl⟩) hN hK (zz_sP hP) (zz_sD hD) (ci := 4) (q0 := 4) rfl rfl rfl rfl hl.1 rfl (lv_room (Nat.le_of_ble_eq_true rfl)) dX5_digest_27 hS (zz_sF hD hS hA) ⟨Nat.le_of_ble_eq_true rfl, Nat.le_of_ble_eq_true rfl⟩ rfl rfl rfl (fun H locs hP1 hz hfr hS => ?_)
            obtain ⟨hP, hD⟩ := zz_sB hP hD hP1 hfr
            have hP : va_P D vwCl (zW Y Z Z2 y 0 t c q b bc n ar fi rn T) H := hP
            have hD : va_D A (zW Y Z Z2 y 0 t c q b bc n ar fi rn T) := hD
            refine lv_i2l hx hb dX5_digest_30 rfl ?_
            refine lv_ladd hx hb dX5_digest_31 ?_
            refine zt_l (x' := (digS (digS (digS (digS (digS 1409 ((cntF t q c bc n ar fi rn 0))) ((cntF t q c bc n ar fi rn 1))) ((cntF t q c bc n ar fi rn 2))) ((cntF t q c bc n ar fi rn 3))) ((cntF t q c bc n ar fi rn 4)))) rfl ?_
            refine lv_lstore_n (lv' := [(1, .long ((digS (digS (digS (digS (digS 1409 ((cntF t q c bc n ar fi rn 0))) ((cntF t q c bc n ar fi rn 1))) ((cntF t q c bc n ar fi rn 2))) ((cntF t q c bc n ar fi rn 3))) ((cntF t q c bc n ar fi rn 4))))), (3, .int 4), (0, .ref (Y 0))]) hx hb dX5_digest_32 rfl hl (by decide) rfl (fun ls hl => ?_)
            refine lv_iinc (v := 5) (lv' := [(3, .int 5), (1, .long ((digS (digS (digS (digS (digS 1409 ((cntF t q c bc n ar fi rn 0))) ((cntF t q c bc n ar fi rn 1))) ((cntF t q c bc n ar fi rn 2))) ((cntF t q c bc n ar fi rn 3))) ((cntF t q c bc n ar fi rn 4))))), (0, .ref (Y 0))]) hx hb dX5_digest_33 hl (k := 1) rfl (by decide) (by decide) rfl (fun ls hl => ?_)
            refine lv_goto (tgt := 11) hx hb dX5_digest_36 (by decide) ?_
            refine lv_iload_n hx hb dX5_digest_11 rfl (lv_at hl 0 rfl) ?_
            refine lv_bipush (v := 9) hx hb dX5_digest_12 (by decide) ?_
            refine lv_icmp_gt (tgt := 39) hx hb dX5_digest_14 (by decide) (fun c6 => ?_) (fun c6 => ?_)
            · exact absurd c6 (by decide)
            · have d6 := Int32.not_lt.mp c6
              refine lv_lload_n hx hb dX5_digest_17 rfl (lv_at hl 1 rfl) ?_
              refine lv_ldc2 (v := 31) hx hb hown hk134 dX5_digest_18 ?_
              refine lv_lmul hx hb dX5_digest_21 ?_
              refine lv_aload_n hx hb dX5_digest_22 rfl (lv_at hl 2 rfl) ?_
              refine va_get (D := D) (ci := 5) (v := .ref (Z 0)) (C := RX5) (T := TX5) (N := 7) hx hb hts hinX5 hown hK hP (0) rfl rfl 5 (by decide) hf24 (fun _ h9 => h9) rfl dX5_digest_23 ?_
              refine lv_iload_n hx hb dX5_digest_26 rfl (lv_at hl 0 rfl) ?_
              refine zcNMV (As := [.int 5]) (rest := [.long (((digS (digS (digS (digS (digS 1409 ((cntF t q c bc n ar fi rn 0))) ((cntF t q c bc n ar fi rn 1))) ((cntF t q c bc n ar fi rn 2))) ((cntF t q c bc n ar fi rn 3))) ((cntF t q c bc n ar fi rn 4))) * 31))]) (st1 := [.int ((cntF t q c bc n ar fi rn 5)), .long (((digS (digS (digS (digS (digS 1409 ((cntF t q c bc n ar fi rn 0))) ((cntF t q c bc n ar fi rn 1))) ((cntF t q c bc n ar fi rn 2))) ((cntF t q c bc n ar fi rn 3))) ((cntF t q c bc n ar fi rn 4))) * 31))]) (cells1 := 6) (slots1 := 60) ⟨hx, hb, hml, hown, hts⟩ (c_X4_counted l D y Y Z (Z 0) (Z2 0) 0 t c q b bc n ar fi rn 5 (by omega) (by omega) (by omega) _) (cwV 1 hts gX5_digest_X4_counted rfl rfl rfl (by decide +kernel) ⟨Nat.le_of_ble_eq_true rfl, Nat.le_of_ble_eq_true rfl⟩) hN hK (zz_sP hP) (zz_sD hD) (ci := 4) (q0 := 4) rfl rfl rfl rfl hl.1 rfl (lv_room (Nat.le_of_ble_eq_true rfl)) dX5_digest_27 hS (zz_sF hD hS hA) ⟨Nat.le_of_ble_eq_true rfl, Nat.le_of_ble_eq_true rfl⟩ rfl rfl rfl (fun H locs hP1 hz hfr hS => ?_)
              obtain ⟨hP, hD⟩ := zz_sB hP hD hP1 hfr
              have hP : va_P D vwCl (zW Y Z Z2 y 0 t c q b bc n ar fi rn T) H := hP
              have hD : va_D A (zW Y Z Z2 y 0 t c q b bc n ar fi rn T) := hD
              refine lv_i2l hx hb dX5_digest_30 rfl ?_
              refine lv_ladd hx hb dX5_digest_31 ?_
              refine zt_l (x' := (digS (digS (digS (digS (digS (digS 1409 ((cntF t q c bc n ar fi rn 0))) ((cntF t q c bc n ar fi rn 1))) ((cntF t q c bc n ar fi rn 2))) ((cntF t q c bc n ar fi rn 3))) ((cntF t q c bc n ar fi rn 4))) ((cntF t q c bc n ar fi rn 5)))) rfl ?_
              refine lv_lstore_n (lv' := [(1, .long ((digS (digS (digS (digS (digS (digS 1409 ((cntF t q c bc n ar fi rn 0))) ((cntF t q c bc n ar fi rn 1))) ((cntF t q c bc n ar fi rn 2))) ((cntF t q c bc n ar fi rn 3))) ((cntF t q c bc n ar fi rn 4))) ((cntF t q c bc n ar fi rn 5))))), (3, .int 5), (0, .ref (Y 0))]) hx hb dX5_digest_32 rfl hl (by decide) rfl (fun ls hl => ?_)
              refine lv_iinc (v := 6) (lv' := [(3, .int 6), (1, .long ((digS (digS (digS (digS (digS (digS 1409 ((cntF t q c bc n ar fi rn 0))) ((cntF t q c bc n ar fi rn 1))) ((cntF t q c bc n ar fi rn 2))) ((cntF t q c bc n ar fi rn 3))) ((cntF t q c bc n ar fi rn 4))) ((cntF t q c bc n ar fi rn 5))))), (0, .ref (Y 0))]) hx hb dX5_digest_33 hl (k := 1) rfl (by decide) (by decide) rfl (fun ls hl => ?_)
              refine lv_goto (tgt := 11) hx hb dX5_digest_36 (by decide) ?_
              refine lv_iload_n hx hb dX5_digest_11 rfl (lv_at hl 0 rfl) ?_
              refine lv_bipush (v := 9) hx hb dX5_digest_12 (by decide) ?_
              refine lv_icmp_gt (tgt := 39) hx hb dX5_digest_14 (by decide) (fun c7 => ?_) (fun c7 => ?_)
              · exact absurd c7 (by decide)
              · have d7 := Int32.not_lt.mp c7
                refine lv_lload_n hx hb dX5_digest_17 rfl (lv_at hl 1 rfl) ?_
                refine lv_ldc2 (v := 31) hx hb hown hk134 dX5_digest_18 ?_
                refine lv_lmul hx hb dX5_digest_21 ?_
                refine lv_aload_n hx hb dX5_digest_22 rfl (lv_at hl 2 rfl) ?_
                refine va_get (D := D) (ci := 5) (v := .ref (Z 0)) (C := RX5) (T := TX5) (N := 7) hx hb hts hinX5 hown hK hP (0) rfl rfl 5 (by decide) hf24 (fun _ h9 => h9) rfl dX5_digest_23 ?_
                refine lv_iload_n hx hb dX5_digest_26 rfl (lv_at hl 0 rfl) ?_
                refine zcNMV (As := [.int 6]) (rest := [.long (((digS (digS (digS (digS (digS (digS 1409 ((cntF t q c bc n ar fi rn 0))) ((cntF t q c bc n ar fi rn 1))) ((cntF t q c bc n ar fi rn 2))) ((cntF t q c bc n ar fi rn 3))) ((cntF t q c bc n ar fi rn 4))) ((cntF t q c bc n ar fi rn 5))) * 31))]) (st1 := [.int ((cntF t q c bc n ar fi rn 6)), .long (((digS (digS (digS (digS (digS (digS 1409 ((cntF t q c bc n ar fi rn 0))) ((cntF t q c bc n ar fi rn 1))) ((cntF t q c bc n ar fi rn 2))) ((cntF t q c bc n ar fi rn 3))) ((cntF t q c bc n ar fi rn 4))) ((cntF t q c bc n ar fi rn 5))) * 31))]) (cells1 := 7) (slots1 := 70) ⟨hx, hb, hml, hown, hts⟩ (c_X4_counted l D y Y Z (Z 0) (Z2 0) 0 t c q b bc n ar fi rn 6 (by omega) (by omega) (by omega) _) (cwV 1 hts gX5_digest_X4_counted rfl rfl rfl (by decide +kernel) ⟨Nat.le_of_ble_eq_true rfl, Nat.le_of_ble_eq_true rfl⟩) hN hK (zz_sP hP) (zz_sD hD) (ci := 4) (q0 := 4) rfl rfl rfl rfl hl.1 rfl (lv_room (Nat.le_of_ble_eq_true rfl)) dX5_digest_27 hS (zz_sF hD hS hA) ⟨Nat.le_of_ble_eq_true rfl, Nat.le_of_ble_eq_true rfl⟩ rfl rfl rfl (fun H locs hP1 hz hfr hS => ?_)
                obtain ⟨hP, hD⟩ := zz_sB hP hD hP1 hfr
                have hP : va_P D vwCl (zW Y Z Z2 y 0 t c q b bc n ar fi rn T) H := hP
                have hD : va_D A (zW Y Z Z2 y 0 t c q b bc n ar fi rn T) := hD
                refine lv_i2l hx hb dX5_digest_30 rfl ?_
                refine lv_ladd hx hb dX5_digest_31 ?_
                refine zt_l (x' := (digS (digS (digS (digS (digS (digS (digS 1409 ((cntF t q c bc n ar fi rn 0))) ((cntF t q c bc n ar fi rn 1))) ((cntF t q c bc n ar fi rn 2))) ((cntF t q c bc n ar fi rn 3))) ((cntF t q c bc n ar fi rn 4))) ((cntF t q c bc n ar fi rn 5))) ((cntF t q c bc n ar fi rn 6)))) rfl ?_
                refine lv_lstore_n (lv' := [(1, .long ((digS (digS (digS (digS (digS (digS (digS 1409 ((cntF t q c bc n ar fi rn 0))) ((cntF t q c bc n ar fi rn 1))) ((cntF t q c bc n ar fi rn 2))) ((cntF t q c bc n ar fi rn 3))) ((cntF t q c bc n ar fi rn 4))) ((cntF t q c bc n ar fi rn 5))) ((cntF t q c bc n ar fi rn 6))))), (3, .int 6), (0, .ref (Y 0))]) hx hb dX5_digest_32 rfl hl (by decide) rfl (fun ls hl => ?_)
                refine lv_iinc (v := 7) (lv' := [(3, .int 7), (1, .long ((digS (digS (digS (digS (digS (digS (digS 1409 ((cntF t q c bc n ar fi rn 0))) ((cntF t q c bc n ar fi rn 1))) ((cntF t q c bc n ar fi rn 2))) ((cntF t q c bc n ar fi rn 3))) ((cntF t q c bc n ar fi rn 4))) ((cntF t q c bc n ar fi rn 5))) ((cntF t q c bc n ar fi rn 6))))), (0, .ref (Y 0))]) hx hb dX5_digest_33 hl (k := 1) rfl (by decide) (by decide) rfl (fun ls hl => ?_)
                refine lv_goto (tgt := 11) hx hb dX5_digest_36 (by decide) ?_
                refine lv_iload_n hx hb dX5_digest_11 rfl (lv_at hl 0 rfl) ?_
                refine lv_bipush (v := 9) hx hb dX5_digest_12 (by decide) ?_
                refine lv_icmp_gt (tgt := 39) hx hb dX5_digest_14 (by decide) (fun c8 => ?_) (fun c8 => ?_)
                · exact absurd c8 (by decide)
                · have d8 := Int32.not_lt.mp c8
                  refine lv_lload_n hx hb dX5_digest_17 rfl (lv_at hl 1 rfl) ?_
                  refine lv_ldc2 (v := 31) hx hb hown hk134 dX5_digest_18 ?_
                  refine lv_lmul hx hb dX5_digest_21 ?_
                  refine lv_aload_n hx hb dX5_digest_22 rfl (lv_at hl 2 rfl) ?_
                  refine va_get (D := D) (ci := 5) (v := .ref (Z 0)) (C := RX5) (T := TX5) (N := 7) hx hb hts hinX5 hown hK hP (0) rfl rfl 5 (by decide) hf24 (fun _ h9 => h9) rfl dX5_digest_23 ?_
                  refine lv_iload_n hx hb dX5_digest_26 rfl (lv_at hl 0 rfl) ?_
                  refine zcNMV (As := [.int 7]) (rest := [.long (((digS (digS (digS (digS (digS (digS (digS 1409 ((cntF t q c bc n ar fi rn 0))) ((cntF t q c bc n ar fi rn 1))) ((cntF t q c bc n ar fi rn 2))) ((cntF t q c bc n ar fi rn 3))) ((cntF t q c bc n ar fi rn 4))) ((cntF t q c bc n ar fi rn 5))) ((cntF t q c bc n ar fi rn 6))) * 31))]) (st1 := [.int ((cntF t q c bc n ar fi rn 7)), .long (((digS (digS (digS (digS (digS (digS (digS 1409 ((cntF t q c bc n ar fi rn 0))) ((cntF t q c bc n ar fi rn 1))) ((cntF t q c bc n ar fi rn 2))) ((cntF t q c bc n ar fi rn 3))) ((cntF t q c bc n ar fi rn 4))) ((cntF t q c bc n ar fi rn 5))) ((cntF t q c bc n ar fi rn 6))) * 31))]) (cells1 := 8) (slots1 := 80) ⟨hx, hb, hml, hown, hts⟩ (c_X4_counted l D y Y Z (Z 0) (Z2 0) 0 t c q b bc n ar fi rn 7 (by omega) (by omega) (by omega) _) (cwV 1 hts gX5_digest_X4_counted rfl rfl rfl (by decide +kernel) ⟨Nat.le_of_ble_eq_true rfl, Nat.le_of_ble_eq_true rfl⟩) hN hK (zz_sP hP) (zz_sD hD) (ci := 4) (q0 := 4) rfl rfl rfl rfl hl.1 rfl (lv_room (Nat.le_of_ble_eq_true rfl)) dX5_digest_27 hS (zz_sF hD hS hA) ⟨Nat.le_of_ble_eq_true rfl, Nat.le_of_ble_eq_true rfl⟩ rfl rfl rfl (fun H locs hP1 hz hfr hS => ?_)
                  obtain ⟨hP, hD⟩ := zz_sB hP hD hP1 hfr
                  have hP : va_P D vwCl (zW Y Z Z2 y 0 t c q b bc n ar fi rn T) H := hP
                  have hD : va_D A (zW Y Z Z2 y 0 t c q b bc n ar fi rn T) := hD
                  refine lv_i2l hx hb dX5_digest_30 rfl ?_
                  refine lv_ladd hx hb dX5_digest_31 ?_
                  refine zt_l (x' := (digS (digS (digS (digS (digS (digS (digS (digS 1409 ((cntF t q c bc n ar fi rn 0))) ((cntF t q c bc n ar fi rn 1))) ((cntF t q c bc n ar fi rn 2))) ((cntF t q c bc n ar fi rn 3))) ((cntF t q c bc n ar fi rn 4))) ((cntF t q c bc n ar fi rn 5))) ((cntF t q c bc n ar fi rn 6))) ((cntF t q c bc n ar fi rn 7)))) rfl ?_
                  refine lv_lstore_n (lv' := [(1, .long ((digS (digS (digS (digS (digS (digS (digS (digS 1409 ((cntF t q c bc n ar fi rn 0))) ((cntF t q c bc n ar fi rn 1))) ((cntF t q c bc n ar fi rn 2))) ((cntF t q c bc n ar fi rn 3))) ((cntF t q c bc n ar fi rn 4))) ((cntF t q c bc n ar fi rn 5))) ((cntF t q c bc n ar fi rn 6))) ((cntF t q c bc n ar fi rn 7))))), (3, .int 7), (0, .ref (Y 0))]) hx hb dX5_digest_32 rfl hl (by decide) rfl (fun ls hl => ?_)
                  refine lv_iinc (v := 8) (lv' := [(3, .int 8), (1, .long ((digS (digS (digS (digS (digS (digS (digS (digS 1409 ((cntF t q c bc n ar fi rn 0))) ((cntF t q c bc n ar fi rn 1))) ((cntF t q c bc n ar fi rn 2))) ((cntF t q c bc n ar fi rn 3))) ((cntF t q c bc n ar fi rn 4))) ((cntF t q c bc n ar fi rn 5))) ((cntF t q c bc n ar fi rn 6))) ((cntF t q c bc n ar fi rn 7))))), (0, .ref (Y 0))]) hx hb dX5_digest_33 hl (k := 1) rfl (by decide) (by decide) rfl (fun ls hl => ?_)
                  refine lv_goto (tgt := 11) hx hb dX5_digest_36 (by decide) ?_
                  refine lv_iload_n hx hb dX5_digest_11 rfl (lv_at hl 0 rfl) ?_
                  refine lv_bipush (v := 9) hx hb dX5_digest_12 (by decide) ?_
                  refine lv_icmp_gt (tgt := 39) hx hb dX5_digest_14 (by decide) (fun c9 => ?_) (fun c9 => ?_)
                  · exact absurd c9 (by decide)
                  · have d9 := Int32.not_lt.mp c9
                    refine lv_lload_n hx hb dX5_digest_17 rfl (lv_at hl 1 rfl) ?_
                    refine lv_ldc2 (v := 31) hx hb hown hk134 dX5_digest_18 ?_
                    refine lv_lmul hx hb dX5_digest_21 ?_
                    refine lv_aload_n hx hb dX5_digest_22 rfl (lv_at hl 2 rfl) ?_
                    refine va_get (D := D) (ci := 5) (v := .ref (Z 0)) (C := RX5) (T := TX5) (N := 7) hx hb hts hinX5 hown hK hP (0) rfl rfl 5 (by decide) hf24 (fun _ h9 => h9) rfl dX5_digest_23 ?_
                    refine lv_iload_n hx hb dX5_digest_26 rfl (lv_at hl 0 rfl) ?_
                    refine zcNMV (As := [.int 8]) (rest := [.long (((digS (digS (digS (digS (digS (digS (digS (digS 1409 ((cntF t q c bc n ar fi rn 0))) ((cntF t q c bc n ar fi rn 1))) ((cntF t q c bc n ar fi rn 2))) ((cntF t q c bc n ar fi rn 3))) ((cntF t q c bc n ar fi rn 4))) ((cntF t q c bc n ar fi rn 5))) ((cntF t q c bc n ar fi rn 6))) ((cntF t q c bc n ar fi rn 7))) * 31))]) (st1 := [.int ((cntF t q c bc n ar fi rn 8)), .long (((digS (digS (digS (digS (digS (digS (digS (digS 1409 ((cntF t q c bc n ar fi rn 0))) ((cntF t q c bc n ar fi rn 1))) ((cntF t q c bc n ar fi rn 2))) ((cntF t q c bc n ar fi rn 3))) ((cntF t q c bc n ar fi rn 4))) ((cntF t q c bc n ar fi rn 5))) ((cntF t q c bc n ar fi rn 6))) ((cntF t q c bc n ar fi rn 7))) * 31))]) (cells1 := 9) (slots1 := 90) ⟨hx, hb, hml, hown, hts⟩ (c_X4_counted l D y Y Z (Z 0) (Z2 0) 0 t c q b bc n ar fi rn 8 (by omega) (by omega) (by omega) _) (cwV 1 hts gX5_digest_X4_counted rfl rfl rfl (by decide +kernel) ⟨Nat.le_of_ble_eq_true rfl, Nat.le_of_ble_eq_true rfl⟩) hN hK (zz_sP hP) (zz_sD hD) (ci := 4) (q0 := 4) rfl rfl rfl rfl hl.1 rfl (lv_room (Nat.le_of_ble_eq_true rfl)) dX5_digest_27 hS (zz_sF hD hS hA) ⟨Nat.le_of_ble_eq_true rfl, Nat.le_of_ble_eq_true rfl⟩ rfl rfl rfl (fun H locs hP1 hz hfr hS => ?_)
                    obtain ⟨hP, hD⟩ := zz_sB hP hD hP1 hfr
                    have hP : va_P D vwCl (zW Y Z Z2 y 0 t c q b bc n ar fi rn T) H := hP
                    have hD : va_D A (zW Y Z Z2 y 0 t c q b bc n ar fi rn T) := hD
                    refine lv_i2l hx hb dX5_digest_30 rfl ?_
                    refine lv_ladd hx hb dX5_digest_31 ?_
                    refine zt_l (x' := (digS (digS (digS (digS (digS (digS (digS (digS (digS 1409 ((cntF t q c bc n ar fi rn 0))) ((cntF t q c bc n ar fi rn 1))) ((cntF t q c bc n ar fi rn 2))) ((cntF t q c bc n ar fi rn 3))) ((cntF t q c bc n ar fi rn 4))) ((cntF t q c bc n ar fi rn 5))) ((cntF t q c bc n ar fi rn 6))) ((cntF t q c bc n ar fi rn 7))) ((cntF t q c bc n ar fi rn 8)))) rfl ?_
                    refine lv_lstore_n (lv' := [(1, .long ((digS (digS (digS (digS (digS (digS (digS (digS (digS 1409 ((cntF t q c bc n ar fi rn 0))) ((cntF t q c bc n ar fi rn 1))) ((cntF t q c bc n ar fi rn 2))) ((cntF t q c bc n ar fi rn 3))) ((cntF t q c bc n ar fi rn 4))) ((cntF t q c bc n ar fi rn 5))) ((cntF t q c bc n ar fi rn 6))) ((cntF t q c bc n ar fi rn 7))) ((cntF t q c bc n ar fi rn 8))))), (3, .int 8), (0, .ref (Y 0))]) hx hb dX5_digest_32 rfl hl (by decide) rfl (fun ls hl => ?_)
                    refine lv_iinc (v := 9) (lv' := [(3, .int 9), (1, .long ((digS (digS (digS (digS (digS (digS (digS (digS (digS 1409 ((cntF t q c bc n ar fi rn 0))) ((cntF t q c bc n ar fi rn 1))) ((cntF t q c bc n ar fi rn 2))) ((cntF t q c bc n ar fi rn 3))) ((cntF t q c bc n ar fi rn 4))) ((cntF t q c bc n ar fi rn 5))) ((cntF t q c bc n ar fi rn 6))) ((cntF t q c bc n ar fi rn 7))) ((cntF t q c bc n ar fi rn 8))))), (0, .ref (Y 0))]) hx hb dX5_digest_33 hl (k := 1) rfl (by decide) (by decide) rfl (fun ls hl => ?_)
                    refine lv_goto (tgt := 11) hx hb dX5_digest_36 (by decide) ?_
                    refine lv_iload_n hx hb dX5_digest_11 rfl (lv_at hl 0 rfl) ?_
                    refine lv_bipush (v := 9) hx hb dX5_digest_12 (by decide) ?_
                    refine lv_icmp_gt (tgt := 39) hx hb dX5_digest_14 (by decide) (fun c10 => ?_) (fun c10 => ?_)
                    · exact absurd c10 (by decide)
                    · have d10 := Int32.not_lt.mp c10
                      refine lv_lload_n hx hb dX5_digest_17 rfl (lv_at hl 1 rfl) ?_
                      refine lv_ldc2 (v := 31) hx hb hown hk134 dX5_digest_18 ?_
                      refine lv_lmul hx hb dX5_digest_21 ?_
                      refine lv_aload_n hx hb dX5_digest_22 rfl (lv_at hl 2 rfl) ?_
                      refine va_get (D := D) (ci := 5) (v := .ref (Z 0)) (C := RX5) (T := TX5) (N := 7) hx hb hts hinX5 hown hK hP (0) rfl rfl 5 (by decide) hf24 (fun _ h9 => h9) rfl dX5_digest_23 ?_
                      refine lv_iload_n hx hb dX5_digest_26 rfl (lv_at hl 0 rfl) ?_
                      refine zcNMV (As := [.int 9]) (rest := [.long (((digS (digS (digS (digS (digS (digS (digS (digS (digS 1409 ((cntF t q c bc n ar fi rn 0))) ((cntF t q c bc n ar fi rn 1))) ((cntF t q c bc n ar fi rn 2))) ((cntF t q c bc n ar fi rn 3))) ((cntF t q c bc n ar fi rn 4))) ((cntF t q c bc n ar fi rn 5))) ((cntF t q c bc n ar fi rn 6))) ((cntF t q c bc n ar fi rn 7))) ((cntF t q c bc n ar fi rn 8))) * 31))]) (st1 := [.int ((cntF t q c bc n ar fi rn 9)), .long (((digS (digS (digS (digS (digS (digS (digS (digS (digS 1409 ((cntF t q c bc n ar fi rn 0))) ((cntF t q c bc n ar fi rn 1))) ((cntF t q c bc n ar fi rn 2))) ((cntF t q c bc n ar fi rn 3))) ((cntF t q c bc n ar fi rn 4))) ((cntF t q c bc n ar fi rn 5))) ((cntF t q c bc n ar fi rn 6))) ((cntF t q c bc n ar fi rn 7))) ((cntF t q c bc n ar fi rn 8))) * 31))]) (cells1 := 10) (slots1 := 100) ⟨hx, hb, hml, hown, hts⟩ (c_X4_counted l D y Y Z (Z 0) (Z2 0) 0 t c q b bc n ar fi rn 9 (by omega) (by omega) (by omega) _) (cwV 1 hts gX5_digest_X4_counted rfl rfl rfl (by decide +kernel) ⟨Nat.le_of_ble_eq_true rfl, Nat.le_of_ble_eq_true rfl⟩) hN hK (zz_sP hP) (zz_sD hD) (ci := 4) (q0 := 4) rfl rfl rfl rfl hl.1 rfl (lv_room (Nat.le_of_ble_eq_true rfl)) dX5_digest_27 hS (zz_sF hD hS hA) ⟨Nat.le_of_ble_eq_true rfl, Nat.le_of_ble_eq_true rfl⟩ rfl rfl rfl (fun H locs hP1 hz hfr hS => ?_)
                      obtain ⟨hP, hD⟩ := zz_sB hP hD hP1 hfr
                      have hP : va_P D vwCl (zW Y Z Z2 y 0 t c q b bc n ar fi rn T) H := hP
                      have hD : va_D A (zW Y Z Z2 y 0 t c q b bc n ar fi rn T) := hD
                      refine lv_i2l hx hb dX5_digest_30 rfl ?_
                      refine lv_ladd hx hb dX5_digest_31 ?_
                      refine zt_l (x' := (digS (digS (digS (digS (digS (digS (digS (digS (digS (digS 1409 ((cntF t q c bc n ar fi rn 0))) ((cntF t q c bc n ar fi rn 1))) ((cntF t q c bc n ar fi rn 2))) ((cntF t q c bc n ar fi rn 3))) ((cntF t q c bc n ar fi rn 4))) ((cntF t q c bc n ar fi rn 5))) ((cntF t q c bc n ar fi rn 6))) ((cntF t q c bc n ar fi rn 7))) ((cntF t q c bc n ar fi rn 8))) ((cntF t q c bc n ar fi rn 9)))) rfl ?_
                      refine lv_lstore_n (lv' := [(1, .long ((digS (digS (digS (digS (digS (digS (digS (digS (digS (digS 1409 ((cntF t q c bc n ar fi rn 0))) ((cntF t q c bc n ar fi rn 1))) ((cntF t q c bc n ar fi rn 2))) ((cntF t q c bc n ar fi rn 3))) ((cntF t q c bc n ar fi rn 4))) ((cntF t q c bc n ar fi rn 5))) ((cntF t q c bc n ar fi rn 6))) ((cntF t q c bc n ar fi rn 7))) ((cntF t q c bc n ar fi rn 8))) ((cntF t q c bc n ar fi rn 9))))), (3, .int 9), (0, .ref (Y 0))]) hx hb dX5_digest_32 rfl hl (by decide) rfl (fun ls hl => ?_)
                      refine lv_iinc (v := 10) (lv' := [(3, .int 10), (1, .long ((digS (digS (digS (digS (digS (digS (digS (digS (digS (digS 1409 ((cntF t q c bc n ar fi rn 0))) ((cntF t q c bc n ar fi rn 1))) ((cntF t q c bc n ar fi rn 2))) ((cntF t q c bc n ar fi rn 3))) ((cntF t q c bc n ar fi rn 4))) ((cntF t q c bc n ar fi rn 5))) ((cntF t q c bc n ar fi rn 6))) ((cntF t q c bc n ar fi rn 7))) ((cntF t q c bc n ar fi rn 8))) ((cntF t q c bc n ar fi rn 9))))), (0, .ref (Y 0))]) hx hb dX5_digest_33 hl (k := 1) rfl (by decide) (by decide) rfl (fun ls hl => ?_)
                      refine lv_goto (tgt := 11) hx hb dX5_digest_36 (by decide) ?_
                      refine lv_iload_n hx hb dX5_digest_11 rfl (lv_at hl 0 rfl) ?_
                      refine lv_bipush (v := 9) hx hb dX5_digest_12 (by decide) ?_
                      refine lv_icmp_gt (tgt := 39) hx hb dX5_digest_14 (by decide) (fun c11 => ?_) (fun c11 => ?_)
                      · have d11 := Int32.not_le.mpr c11
                        refine lv_aload_n hx hb dX5_digest_39 rfl (lv_at hl 2 rfl) ?_
                        refine va_get (D := D) (ci := 5) (v := .ref (Y 1)) (C := RX5) (T := TX5) (N := 7) hx hb hts hinX5 hown hK hP (0) rfl rfl 1 (by decide) hf7 (fun _ h9 => h9) rfl dX5_digest_40 ?_
                        refine lv_astore_n (lv' := [(3, .ref (Y 1)), (1, .long ((digS (digS (digS (digS (digS (digS (digS (digS (digS (digS 1409 ((cntF t q c bc n ar fi rn 0))) ((cntF t q c bc n ar fi rn 1))) ((cntF t q c bc n ar fi rn 2))) ((cntF t q c bc n ar fi rn 3))) ((cntF t q c bc n ar fi rn 4))) ((cntF t q c bc n ar fi rn 5))) ((cntF t q c bc n ar fi rn 6))) ((cntF t q c bc n ar fi rn 7))) ((cntF t q c bc n ar fi rn 8))) ((cntF t q c bc n ar fi rn 9))))), (0, .ref (Y 0))]) hx hb dX5_digest_43 rfl hl (by decide) rfl (fun ls hl => ?_)
                        refine lv_aload_n hx hb dX5_digest_44 rfl (lv_at hl 0 rfl) ?_
                        refine va_alen hx hb hK hP 1 0 (v := 7) rfl rfl rfl dX5_digest_45 ?_
                        refine lv_istore (lv' := [(4, .int (nI 7)), (3, .ref (Y 1)), (1, .long ((digS (digS (digS (digS (digS (digS (digS (digS (digS (digS 1409 ((cntF t q c bc n ar fi rn 0))) ((cntF t q c bc n ar fi rn 1))) ((cntF t q c bc n ar fi rn 2))) ((cntF t q c bc n ar fi rn 3))) ((cntF t q c bc n ar fi rn 4))) ((cntF t q c bc n ar fi rn 5))) ((cntF t q c bc n ar fi rn 6))) ((cntF t q c bc n ar fi rn 7))) ((cntF t q c bc n ar fi rn 8))) ((cntF t q c bc n ar fi rn 9))))), (0, .ref (Y 0))]) hx hb dX5_digest_46 hl (by decide) rfl (fun ls hl => ?_)
                        refine lv_iconst (v := 0) hx hb dX5_digest_48 (by decide) ?_
                        refine lv_istore (lv' := [(5, .int 0), (4, .int (nI 7)), (3, .ref (Y 1)), (1, .long ((digS (digS (digS (digS (digS (digS (digS (digS (digS (digS 1409 ((cntF t q c bc n ar fi rn 0))) ((cntF t q c bc n ar fi rn 1))) ((cntF t q c bc n ar fi rn 2))) ((cntF t q c bc n ar fi rn 3))) ((cntF t q c bc n ar fi rn 4))) ((cntF t q c bc n ar fi rn 5))) ((cntF t q c bc n ar fi rn 6))) ((cntF t q c bc n ar fi rn 7))) ((cntF t q c bc n ar fi rn 8))) ((cntF t q c bc n ar fi rn 9))))), (0, .ref (Y 0))]) hx hb dX5_digest_49 hl (by decide) rfl (fun ls hl => ?_)
                        refine lv_iload hx hb dX5_digest_51 (lv_at hl 0 rfl) ?_
                        refine lv_iload hx hb dX5_digest_53 (lv_at hl 1 rfl) ?_
                        refine lv_icmp_ge (tgt := 80) hx hb dX5_digest_55 (by decide) (fun c12 => ?_) (fun c12 => ?_)
                        · exact absurd c12 (nI_ge (a := 0) (b := 7) (by omega) (by omega))
                        · have d12 := Int32.not_le.mp c12
                          refine lv_aload_n hx hb dX5_digest_58 rfl (lv_at hl 2 rfl) ?_
                          refine lv_iload hx hb dX5_digest_59 (lv_at hl 0 rfl) ?_
                          refine z_ald hx hb hK hP 1 (f := t) rfl 0 rfl (by omega) (by decide) dX5_digest_61 ?_
                          refine lv_istore (lv' := [(6, .int ((t 0))), (5, .int 0), (4, .int (nI 7)), (3, .ref (Y 1)), (1, .long ((digS (digS (digS (digS (digS (digS (digS (digS (digS (digS 1409 ((cntF t q c bc n ar fi rn 0))) ((cntF t q c bc n ar fi rn 1))) ((cntF t q c bc n ar fi rn 2))) ((cntF t q c bc n ar fi rn 3))) ((cntF t q c bc n ar fi rn 4))) ((cntF t q c bc n ar fi rn 5))) ((cntF t q c bc n ar fi rn 6))) ((cntF t q c bc n ar fi rn 7))) ((cntF t q c bc n ar fi rn 8))) ((cntF t q c bc n ar fi rn 9))))), (0, .ref (Y 0))]) hx hb dX5_digest_62 hl (by decide) rfl (fun ls hl => ?_)
                          refine lv_lload_n hx hb dX5_digest_64 rfl (lv_at hl 4 rfl) ?_
                          refine lv_ldc2 (v := 31) hx hb hown hk134 dX5_digest_65 ?_
                          refine lv_lmul hx hb dX5_digest_68 ?_
                          refine lv_iload hx hb dX5_digest_69 (lv_at hl 0 rfl) ?_
                          refine lv_i2l hx hb dX5_digest_71 rfl ?_
                          refine lv_ladd hx hb dX5_digest_72 ?_
                          refine zt_l (x' := (digS (digS (digS (digS (digS (digS (digS (digS (digS (digS (digS 1409 ((cntF t q c bc n ar fi rn 0))) ((cntF t q c bc n ar fi rn 1))) ((cntF t q c bc n ar fi rn 2))) ((cntF t q c bc n ar fi rn 3))) ((cntF t q c bc n ar fi rn 4))) ((cntF t q c bc n ar fi rn 5))) ((cntF t q c bc n ar fi rn 6))) ((cntF t q c bc n ar fi rn 7))) ((cntF t q c bc n ar fi rn 8))) ((cntF t q c bc n ar fi rn 9))) ((t 0)))) rfl ?_
                          refine lv_lstore_n (lv' := [(1, .long ((digS (digS (digS (digS (digS (digS (digS (digS (digS (digS (digS 1409 ((cntF t q c bc n ar fi rn 0))) ((cntF t q c bc n ar fi rn 1))) ((cntF t q c bc n ar fi rn 2))) ((cntF t q c bc n ar fi rn 3))) ((cntF t q c bc n ar fi rn 4))) ((cntF t q c bc n ar fi rn 5))) ((cntF t q c bc n ar fi rn 6))) ((cntF t q c bc n ar fi rn 7))) ((cntF t q c bc n ar fi rn 8))) ((cntF t q c bc n ar fi rn 9))) ((t 0))))), (6, .int ((t 0))), (5, .int 0), (4, .int (nI 7)), (3, .ref (Y 1)), (0, .ref (Y 0))]) hx hb dX5_digest_73 rfl hl (by decide) rfl (fun ls hl => ?_)
                          refine lv_iinc (v := 1) (lv' := [(5, .int 1), (1, .long ((digS (digS (digS (digS (digS (digS (digS (digS (digS (digS (digS 1409 ((cntF t q c bc n ar fi rn 0))) ((cntF t q c bc n ar fi rn 1))) ((cntF t q c bc n ar fi rn 2))) ((cntF t q c bc n ar fi rn 3))) ((cntF t q c bc n ar fi rn 4))) ((cntF t q c bc n ar fi rn 5))) ((cntF t q c bc n ar fi rn 6))) ((cntF t q c bc n ar fi rn 7))) ((cntF t q c bc n ar fi rn 8))) ((cntF t q c bc n ar fi rn 9))) ((t 0))))), (6, .int ((t 0))), (4, .int (nI 7)), (3, .ref (Y 1)), (0, .ref (Y 0))]) hx hb dX5_digest_74 hl (k := 2) rfl (by decide) (by decide) rfl (fun ls hl => ?_)
                          refine lv_goto (tgt := 51) hx hb dX5_digest_77 (by decide) ?_
                          refine lv_iload hx hb dX5_digest_51 (lv_at hl 0 rfl) ?_
                          refine lv_iload hx hb dX5_digest_53 (lv_at hl 3 rfl) ?_
                          refine lv_icmp_ge (tgt := 80) hx hb dX5_digest_55 (by decide) (fun c13 => ?_) (fun c13 => ?_)
                          · exact absurd c13 (nI_ge (a := 1) (b := 7) (by omega) (by omega))
                          · have d13 := Int32.not_le.mp c13
                            refine lv_aload_n hx hb dX5_digest_58 rfl (lv_at hl 4 rfl) ?_
                            refine lv_iload hx hb dX5_digest_59 (lv_at hl 0 rfl) ?_
                            refine z_ald hx hb hK hP 1 (f := t) rfl 1 rfl (by omega) (by decide) dX5_digest_61 ?_
                            refine lv_istore (lv' := [(6, .int ((t 1))), (5, .int 1), (1, .long ((digS (digS (digS (digS (digS (digS (digS (digS (digS (digS (digS 1409 ((cntF t q c bc n ar fi rn 0))) ((cntF t q c bc n ar fi rn 1))) ((cntF t q c bc n ar fi rn 2))) ((cntF t q c bc n ar fi rn 3))) ((cntF t q c bc n ar fi rn 4))) ((cntF t q c bc n ar fi rn 5))) ((cntF t q c bc n ar fi rn 6))) ((cntF t q c bc n ar fi rn 7))) ((cntF t q c bc n ar fi rn 8))) ((cntF t q c bc n ar fi rn 9))) ((t 0))))), (4, .int (nI 7)), (3, .ref (Y 1)), (0, .ref (Y 0))]) hx hb dX5_digest_62 hl (by decide) rfl (fun ls hl => ?_)
                            refine lv_lload_n hx hb dX5_digest_64 rfl (lv_at hl 2 rfl) ?_
                            refine lv_ldc2 (v := 31) hx hb hown hk134 dX5_digest_65 ?_
                            refine lv_lmul hx hb dX5_digest_68 ?_
                            refine lv_iload hx hb dX5_digest_69 (lv_at hl 0 rfl) ?_
                            refine lv_i2l hx hb dX5_digest_71 rfl ?_
                            refine lv_ladd hx hb dX5_digest_72 ?_
                            refine zt_l (x' := (digS (digS (digS (digS (digS (digS (digS (digS (digS (digS (digS (digS 1409 ((cntF t q c bc n ar fi rn 0))) ((cntF t q c bc n ar fi rn 1))) ((cntF t q c bc n ar fi rn 2))) ((cntF t q c bc n ar fi rn 3))) ((cntF t q c bc n ar fi rn 4))) ((cntF t q c bc n ar fi rn 5))) ((cntF t q c bc n ar fi rn 6))) ((cntF t q c bc n ar fi rn 7))) ((cntF t q c bc n ar fi rn 8))) ((cntF t q c bc n ar fi rn 9))) ((t 0))) ((t 1)))) rfl ?_
                            refine lv_lstore_n (lv' := [(1, .long ((digS (digS (digS (digS (digS (digS (digS (digS (digS (digS (digS (digS 1409 ((cntF t q c bc n ar fi rn 0))) ((cntF t q c bc n ar fi rn 1))) ((cntF t q c bc n ar fi rn 2))) ((cntF t q c bc n ar fi rn 3))) ((cntF t q c bc n ar fi rn 4))) ((cntF t q c bc n ar fi rn 5))) ((cntF t q c bc n ar fi rn 6))) ((cntF t q c bc n ar fi rn 7))) ((cntF t q c bc n ar fi rn 8))) ((cntF t q c bc n ar fi rn 9))) ((t 0))) ((t 1))))), (6, .int ((t 1))), (5, .int 1), (4, .int (nI 7)), (3, .ref (Y 1)), (0, .ref (Y 0))]) hx hb dX5_digest_73 rfl hl (by decide) rfl (fun ls hl => ?_)
                            refine lv_iinc (v := 2) (lv' := [(5, .int 2), (1, .long ((digS (digS (digS (digS (digS (digS (digS (digS (digS (digS (digS (digS 1409 ((cntF t q c bc n ar fi rn 0))) ((cntF t q c bc n ar fi rn 1))) ((cntF t q c bc n ar fi rn 2))) ((cntF t q c bc n ar fi rn 3))) ((cntF t q c bc n ar fi rn 4))) ((cntF t q c bc n ar fi rn 5))) ((cntF t q c bc n ar fi rn 6))) ((cntF t q c bc n ar fi rn 7))) ((cntF t q c bc n ar fi rn 8))) ((cntF t q c bc n ar fi rn 9))) ((t 0))) ((t 1))))), (6, .int ((t 1))), (4, .int (nI 7)), (3, .ref (Y 1)), (0, .ref (Y 0))]) hx hb dX5_digest_74 hl (k := 2) rfl (by decide) (by decide) rfl (fun ls hl => ?_)
                            refine lv_goto (tgt := 51) hx hb dX5_digest_77 (by decide) ?_
                            refine lv_iload hx hb dX5_digest_51 (lv_at hl 0 rfl) ?_
                            refine lv_iload hx hb dX5_digest_53 (lv_at hl 3 rfl) ?_
                            refine lv_icmp_ge (tgt := 80) hx hb dX5_digest_55 (by decide) (fun c14 => ?_) (fun c14 => ?_)
                            · exact absurd c14 (nI_ge (a := 2) (b := 7) (by omega) (by omega))
                            · have d14 := Int32.not_le.mp c14
                              refine lv_aload_n hx hb dX5_digest_58 rfl (lv_at hl 4 rfl) ?_
                              refine lv_iload hx hb dX5_digest_59 (lv_at hl 0 rfl) ?_
                              refine z_ald hx hb hK hP 1 (f := t) rfl 2 rfl (by omega) (by decide) dX5_digest_61 ?_
                              refine lv_istore (lv' := [(6, .int ((t 2))), (5, .int 2), (1, .long ((digS (digS (digS (digS (digS (digS (digS (digS (digS (digS (digS (digS 1409 ((cntF t q c bc n ar fi rn 0))) ((cntF t q c bc n ar fi rn 1))) ((cntF t q c bc n ar fi rn 2))) ((cntF t q c bc n ar fi rn 3))) ((cntF t q c bc n ar fi rn 4))) ((cntF t q c bc n ar fi rn 5))) ((cntF t q c bc n ar fi rn 6))) ((cntF t q c bc n ar fi rn 7))) ((cntF t q c bc n ar fi rn 8))) ((cntF t q c bc n ar fi rn 9))) ((t 0))) ((t 1))))), (4, .int (nI 7)), (3, .ref (Y 1)), (0, .ref (Y 0))]) hx hb dX5_digest_62 hl (by decide) rfl (fun ls hl => ?_)
                              refine lv_lload_n hx hb dX5_digest_64 rfl (lv_at hl 2 rfl) ?_
                              refine lv_ldc2 (v := 31) hx hb hown hk134 dX5_digest_65 ?_
                              refine lv_lmul hx hb dX5_digest_68 ?_
                              refine lv_iload hx hb dX5_digest_69 (lv_at hl 0 rfl) ?_
                              refine lv_i2l hx hb dX5_digest_71 rfl ?_
                              refine lv_ladd hx hb dX5_digest_72 ?_
                              refine zt_l (x' := (digS (digS (digS (digS (digS (digS (digS (digS (digS (digS (digS (digS (digS 1409 ((cntF t q c bc n ar fi rn 0))) ((cntF t q c bc n ar fi rn 1))) ((cntF t q c bc n ar fi rn 2))) ((cntF t q c bc n ar fi rn 3))) ((cntF t q c bc n ar fi rn 4))) ((cntF t q c bc n ar fi rn 5))) ((cntF t q c bc n ar fi rn 6))) ((cntF t q c bc n ar fi rn 7))) ((cntF t q c bc n ar fi rn 8))) ((cntF t q c bc n ar fi rn 9))) ((t 0))) ((t 1))) ((t 2)))) rfl ?_
                              refine lv_lstore_n (lv' := [(1, .long ((digS (digS (digS (digS (digS (digS (digS (digS (digS (digS (digS (digS (digS 1409 ((cntF t q c bc n ar fi rn 0))) ((cntF t q c bc n ar fi rn 1))) ((cntF t q c bc n ar fi rn 2))) ((cntF t q c bc n ar fi rn 3))) ((cntF t q c bc n ar fi rn 4))) ((cntF t q c bc n ar fi rn 5))) ((cntF t q c bc n ar fi rn 6))) ((cntF t q c bc n ar fi rn 7))) ((cntF t q c bc n ar fi rn 8))) ((cntF t q c bc n ar fi rn 9))) ((t 0))) ((t 1))) ((t 2))))), (6, .int ((t 2))), (5, .int 2), (4, .int (nI 7)), (3, .ref (Y 1)), (0, .ref (Y 0))]) hx hb dX5_digest_73 rfl hl (by decide) rfl (fun ls hl => ?_)
                              refine lv_iinc (v := 3) (lv' := [(5, .int 3), (1, .long ((digS (digS (digS (digS (digS (digS (digS (digS (digS (digS (digS (digS (digS 1409 ((cntF t q c bc n ar fi rn 0))) ((cntF t q c bc n ar fi rn 1))) ((cntF t q c bc n ar fi rn 2))) ((cntF t q c bc n ar fi rn 3))) ((cntF t q c bc n ar fi rn 4))) ((cntF t q c bc n ar fi rn 5))) ((cntF t q c bc n ar fi rn 6))) ((cntF t q c bc n ar fi rn 7))) ((cntF t q c bc n ar fi rn 8))) ((cntF t q c bc n ar fi rn 9))) ((t 0))) ((t 1))) ((t 2))))), (6, .int ((t 2))), (4, .int (nI 7)), (3, .ref (Y 1)), (0, .ref (Y 0))]) hx hb dX5_digest_74 hl (k := 2) rfl (by decide) (by decide) rfl (fun ls hl => ?_)
                              refine lv_goto (tgt := 51) hx hb dX5_digest_77 (by decide) ?_
                              refine lv_iload hx hb dX5_digest_51 (lv_at hl 0 rfl) ?_
                              refine lv_iload hx hb dX5_digest_53 (lv_at hl 3 rfl) ?_
                              refine lv_icmp_ge (tgt := 80) hx hb dX5_digest_55 (by decide) (fun c15 => ?_) (fun c15 => ?_)
                              · exact absurd c15 (nI_ge (a := 3) (b := 7) (by omega) (by omega))
                              · have d15 := Int32.not_le.mp c15
                                refine lv_aload_n hx hb dX5_digest_58 rfl (lv_at hl 4 rfl) ?_
                                refine lv_iload hx hb dX5_digest_59 (lv_at hl 0 rfl) ?_
                                refine z_ald hx hb hK hP 1 (f := t) rfl 3 rfl (by omega) (by decide) dX5_digest_61 ?_
                                refine lv_istore (lv' := [(6, .int ((t 3))), (5, .int 3), (1, .long ((digS (digS (digS (digS (digS (digS (digS (digS (digS (digS (digS (digS (digS 1409 ((cntF t q c bc n ar fi rn 0))) ((cntF t q c bc n ar fi rn 1))) ((cntF t q c bc n ar fi rn 2))) ((cntF t q c bc n ar fi rn 3))) ((cntF t q c bc n ar fi rn 4))) ((cntF t q c bc n ar fi rn 5))) ((cntF t q c bc n ar fi rn 6))) ((cntF t q c bc n ar fi rn 7))) ((cntF t q c bc n ar fi rn 8))) ((cntF t q c bc n ar fi rn 9))) ((t 0))) ((t 1))) ((t 2))))), (4, .int (nI 7)), (3, .ref (Y 1)), (0, .ref (Y 0))]) hx hb dX5_digest_62 hl (by decide) rfl (fun ls hl => ?_)
                                refine lv_lload_n hx hb dX5_digest_64 rfl (lv_at hl 2 rfl) ?_
                                refine lv_ldc2 (v := 31) hx hb hown hk134 dX5_digest_65 ?_
                                refine lv_lmul hx hb dX5_digest_68 ?_
                                refine lv_iload hx hb dX5_digest_69 (lv_at hl 0 rfl) ?_
                                refine lv_i2l hx hb dX5_digest_71 rfl ?_
                                refine lv_ladd hx hb dX5_digest_72 ?_
                                refine zt_l (x' := (digS (digS (digS (digS (digS (digS (digS (digS (digS (digS (digS (digS (digS (digS 1409 ((cntF t q c bc n ar fi rn 0))) ((cntF t q c bc n ar fi rn 1))) ((cntF t q c bc n ar fi rn 2))) ((cntF t q c bc n ar fi rn 3))) ((cntF t q c bc n ar fi rn 4))) ((cntF t q c bc n ar fi rn 5))) ((cntF t q c bc n ar fi rn 6))) ((cntF t q c bc n ar fi rn 7))) ((cntF t q c bc n ar fi rn 8))) ((cntF t q c bc n ar fi rn 9))) ((t 0))) ((t 1))) ((t 2))) ((t 3)))) rfl ?_
                                refine lv_lstore_n (lv' := [(1, .long ((digS (digS (digS (digS (digS (digS (digS (digS (digS (digS (digS (digS (digS (digS 1409 ((cntF t q c bc n ar fi rn 0))) ((cntF t q c bc n ar fi rn 1))) ((cntF t q c bc n ar fi rn 2))) ((cntF t q c bc n ar fi rn 3))) ((cntF t q c bc n ar fi rn 4))) ((cntF t q c bc n ar fi rn 5))) ((cntF t q c bc n ar fi rn 6))) ((cntF t q c bc n ar fi rn 7))) ((cntF t q c bc n ar fi rn 8))) ((cntF t q c bc n ar fi rn 9))) ((t 0))) ((t 1))) ((t 2))) ((t 3))))), (6, .int ((t 3))), (5, .int 3), (4, .int (nI 7)), (3, .ref (Y 1)), (0, .ref (Y 0))]) hx hb dX5_digest_73 rfl hl (by decide) rfl (fun ls hl => ?_)
                                refine lv_iinc (v := 4) (lv' := [(5, .int 4), (1, .long ((digS (digS (digS (digS (digS (digS (digS (digS (digS (digS (digS (digS (digS (digS 1409 ((cntF t q c bc n ar fi rn 0))) ((cntF t q c bc n ar fi rn 1))) ((cntF t q c bc n ar fi rn 2))) ((cntF t q c bc n ar fi rn 3))) ((cntF t q c bc n ar fi rn 4))) ((cntF t q c bc n ar fi rn 5))) ((cntF t q c bc n ar fi rn 6))) ((cntF t q c bc n ar fi rn 7))) ((cntF t q c bc n ar fi rn 8))) ((cntF t q c bc n ar fi rn 9))) ((t 0))) ((t 1))) ((t 2))) ((t 3))))), (6, .int ((t 3))), (4, .int (nI 7)), (3, .ref (Y 1)), (0, .ref (Y 0))]) hx hb dX5_digest_74 hl (k := 2) rfl (by decide) (by decide) rfl (fun ls hl => ?_)
                                refine lv_goto (tgt := 51) hx hb dX5_digest_77 (by decide) ?_
                                refine lv_iload hx hb dX5_digest_51 (lv_at hl 0 rfl) ?_
                                refine lv_iload hx hb dX5_digest_53 (lv_at hl 3 rfl) ?_
                                refine lv_icmp_ge (tgt := 80) hx hb dX5_digest_55 (by decide) (fun c16 => ?_) (fun c16 => ?_)
                                · exact absurd c16 (nI_ge (a := 4) (b := 7) (by omega) (by omega))
                                · have d16 := Int32.not_le.mp c16
                                  refine lv_aload_n hx hb dX5_digest_58 rfl (lv_at hl 4 rfl) ?_
                                  refine lv_iload hx hb dX5_digest_59 (lv_at hl 0 rfl) ?_
                                  refine z_ald hx hb hK hP 1 (f := t) rfl 4 rfl (by omega) (by decide) dX5_digest_61 ?_
                                  refine lv_istore (lv' := [(6, .int ((t 4))), (5, .int 4), (1, .long ((digS (digS (digS (digS (digS (digS (digS (digS (digS (digS (digS (digS (digS (digS 1409 ((cntF t q c bc n ar fi rn 0))) ((cntF t q c bc n ar fi rn 1))) ((cntF t q c bc n ar fi rn 2))) ((cntF t q c bc n ar fi rn 3))) ((cntF t q c bc n ar fi rn 4))) ((cntF t q c bc n ar fi rn 5))) ((cntF t q c bc n ar fi rn 6))) ((cntF t q c bc n ar fi rn 7))) ((cntF t q c bc n ar fi rn 8))) ((cntF t q c bc n ar fi rn 9))) ((t 0))) ((t 1))) ((t 2))) ((t 3))))), (4, .int (nI 7)), (3, .ref (Y 1)), (0, .ref (Y 0))]) hx hb dX5_digest_62 hl (by decide) rfl (fun ls hl => ?_)
                                  refine lv_lload_n hx hb dX5_digest_64 rfl (lv_at hl 2 rfl) ?_
                                  refine lv_ldc2 (v := 31) hx hb hown hk134 dX5_digest_65 ?_
                                  refine lv_lmul hx hb dX5_digest_68 ?_
                                  refine lv_iload hx hb dX5_digest_69 (lv_at hl 0 rfl) ?_
                                  refine lv_i2l hx hb dX5_digest_71 rfl ?_
                                  refine lv_ladd hx hb dX5_digest_72 ?_
                                  refine zt_l (x' := (digS (digS (digS (digS (digS (digS (digS (digS (digS (digS (digS (digS (digS (digS (digS 1409 ((cntF t q c bc n ar fi rn 0))) ((cntF t q c bc n ar fi rn 1))) ((cntF t q c bc n ar fi rn 2))) ((cntF t q c bc n ar fi rn 3))) ((cntF t q c bc n ar fi rn 4))) ((cntF t q c bc n ar fi rn 5))) ((cntF t q c bc n ar fi rn 6))) ((cntF t q c bc n ar fi rn 7))) ((cntF t q c bc n ar fi rn 8))) ((cntF t q c bc n ar fi rn 9))) ((t 0))) ((t 1))) ((t 2))) ((t 3))) ((t 4)))) rfl ?_
                                  refine lv_lstore_n (lv' := [(1, .long ((digS (digS (digS (digS (digS (digS (digS (digS (digS (digS (digS (digS (digS (digS (digS 1409 ((cntF t q c bc n ar fi rn 0))) ((cntF t q c bc n ar fi rn 1))) ((cntF t q c bc n ar fi rn 2))) ((cntF t q c bc n ar fi rn 3))) ((cntF t q c bc n ar fi rn 4))) ((cntF t q c bc n ar fi rn 5))) ((cntF t q c bc n ar fi rn 6))) ((cntF t q c bc n ar fi rn 7))) ((cntF t q c bc n ar fi rn 8))) ((cntF t q c bc n ar fi rn 9))) ((t 0))) ((t 1))) ((t 2))) ((t 3))) ((t 4))))), (6, .int ((t 4))), (5, .int 4), (4, .int (nI 7)), (3, .ref (Y 1)), (0, .ref (Y 0))]) hx hb dX5_digest_73 rfl hl (by decide) rfl (fun ls hl => ?_)
                                  refine lv_iinc (v := 5) (lv' := [(5, .int 5), (1, .long ((digS (digS (digS (digS (digS (digS (digS (digS (digS (digS (digS (digS (digS (digS (digS 1409 ((cntF t q c bc n ar fi rn 0))) ((cntF t q c bc n ar fi rn 1))) ((cntF t q c bc n ar fi rn 2))) ((cntF t q c bc n ar fi rn 3))) ((cntF t q c bc n ar fi rn 4))) ((cntF t q c bc n ar fi rn 5))) ((cntF t q c bc n ar fi rn 6))) ((cntF t q c bc n ar fi rn 7))) ((cntF t q c bc n ar fi rn 8))) ((cntF t q c bc n ar fi rn 9))) ((t 0))) ((t 1))) ((t 2))) ((t 3))) ((t 4))))), (6, .int ((t 4))), (4, .int (nI 7)), (3, .ref (Y 1)), (0, .ref (Y 0))]) hx hb dX5_digest_74 hl (k := 2) rfl (by decide) (by decide) rfl (fun ls hl => ?_)
                                  refine lv_goto (tgt := 51) hx hb dX5_digest_77 (by decide) ?_
                                  refine lv_iload hx hb dX5_digest_51 (lv_at hl 0 rfl) ?_
                                  refine lv_iload hx hb dX5_digest_53 (lv_at hl 3 rfl) ?_
                                  refine lv_icmp_ge (tgt := 80) hx hb dX5_digest_55 (by decide) (fun c17 => ?_) (fun c17 => ?_)
                                  · exact absurd c17 (nI_ge (a := 5) (b := 7) (by omega) (by omega))
                                  · have d17 := Int32.not_le.mp c17
                                    refine lv_aload_n hx hb dX5_digest_58 rfl (lv_at hl 4 rfl) ?_
                                    refine lv_iload hx hb dX5_digest_59 (lv_at hl 0 rfl) ?_
                                    refine z_ald hx hb hK hP 1 (f := t) rfl 5 rfl (by omega) (by decide) dX5_digest_61 ?_
                                    refine lv_istore (lv' := [(6, .int ((t 5))), (5, .int 5), (1, .long ((digS (digS (digS (digS (digS (digS (digS (digS (digS (digS (digS (digS (digS (digS (digS 1409 ((cntF t q c bc n ar fi rn 0))) ((cntF t q c bc n ar fi rn 1))) ((cntF t q c bc n ar fi rn 2))) ((cntF t q c bc n ar fi rn 3))) ((cntF t q c bc n ar fi rn 4))) ((cntF t q c bc n ar fi rn 5))) ((cntF t q c bc n ar fi rn 6))) ((cntF t q c bc n ar fi rn 7))) ((cntF t q c bc n ar fi rn 8))) ((cntF t q c bc n ar fi rn 9))) ((t 0))) ((t 1))) ((t 2))) ((t 3))) ((t 4))))), (4, .int (nI 7)), (3, .ref (Y 1)), (0, .ref (Y 0))]) hx hb dX5_digest_62 hl (by decide) rfl (fun ls hl => ?_)
                                    refine lv_lload_n hx hb dX5_digest_64 rfl (lv_at hl 2 rfl) ?_
                                    refine lv_ldc2 (v := 31) hx hb hown hk134 dX5_digest_65 ?_
                                    refine lv_lmul hx hb dX5_digest_68 ?_
                                    refine lv_iload hx hb dX5_digest_69 (lv_at hl 0 rfl) ?_
                                    refine lv_i2l hx hb dX5_digest_71 rfl ?_
                                    refine lv_ladd hx hb dX5_digest_72 ?_
                                    refine zt_l (x' := (digS (digS (digS (digS (digS (digS (digS (digS (digS (digS (digS (digS (digS (digS (digS (digS 1409 ((cntF t q c bc n ar fi rn 0))) ((cntF t q c bc n ar fi rn 1))) ((cntF t q c bc n ar fi rn 2))) ((cntF t q c bc n ar fi rn 3))) ((cntF t q c bc n ar fi rn 4))) ((cntF t q c bc n ar fi rn 5))) ((cntF t q c bc n ar fi rn 6))) ((cntF t q c bc n ar fi rn 7))) ((cntF t q c bc n ar fi rn 8))) ((cntF t q c bc n ar fi rn 9))) ((t 0))) ((t 1))) ((t 2))) ((t 3))) ((t 4))) ((t 5)))) rfl ?_
                                    refine lv_lstore_n (lv' := [(1, .long ((digS (digS (digS (digS (digS (digS (digS (digS (digS (digS (digS (digS (digS (digS (digS (digS 1409 ((cntF t q c bc n ar fi rn 0))) ((cntF t q c bc n ar fi rn 1))) ((cntF t q c bc n ar fi rn 2))) ((cntF t q c bc n ar fi rn 3))) ((cntF t q c bc n ar fi rn 4))) ((cntF t q c bc n ar fi rn 5))) ((cntF t q c bc n ar fi rn 6))) ((cntF t q c bc n ar fi rn 7))) ((cntF t q c bc n ar fi rn 8))) ((cntF t q c bc n ar fi rn 9))) ((t 0))) ((t 1))) ((t 2))) ((t 3))) ((t 4))) ((t 5))))), (6, .int ((t 5))), (5, .int 5), (4, .int (nI 7)), (3, .ref (Y 1)), (0, .ref (Y 0))]) hx hb dX5_digest_73 rfl hl (by decide) rfl (fun ls hl => ?_)
                                    refine lv_iinc (v := 6) (lv' := [(5, .int 6), (1, .long ((digS (digS (digS (digS (digS (digS (digS (digS (digS (digS (digS (digS (digS (digS (digS (digS 1409 ((cntF t q c bc n ar fi rn 0))) ((cntF t q c bc n ar fi rn 1))) ((cntF t q c bc n ar fi rn 2))) ((cntF t q c bc n ar fi rn 3))) ((cntF t q c bc n ar fi rn 4))) ((cntF t q c bc n ar fi rn 5))) ((cntF t q c bc n ar fi rn 6))) ((cntF t q c bc n ar fi rn 7))) ((cntF t q c bc n ar fi rn 8))) ((cntF t q c bc n ar fi rn 9))) ((t 0))) ((t 1))) ((t 2))) ((t 3))) ((t 4))) ((t 5))))), (6, .int ((t 5))), (4, .int (nI 7)), (3, .ref (Y 1)), (0, .ref (Y 0))]) hx hb dX5_digest_74 hl (k := 2) rfl (by decide) (by decide) rfl (fun ls hl => ?_)
                                    refine lv_goto (tgt := 51) hx hb dX5_digest_77 (by decide) ?_
                                    refine lv_iload hx hb dX5_digest_51 (lv_at hl 0 rfl) ?_
                                    refine lv_iload hx hb dX5_digest_53 (lv_at hl 3 rfl) ?_
                                    refine lv_icmp_ge (tgt := 80) hx hb dX5_digest_55 (by decide) (fun c18 => ?_) (fun c18 => ?_)
                                    · exact absurd c18 (nI_ge (a := 6) (b := 7) (by omega) (by omega))
                                    · have d18 := Int32.not_le.mp c18
                                      refine lv_aload_n hx hb dX5_digest_58 rfl (lv_at hl 4 rfl) ?_
                                      refine lv_iload hx hb dX5_digest_59 (lv_at hl 0 rfl) ?_
                                      refine z_ald hx hb hK hP 1 (f := t) rfl 6 rfl (by omega) (by decide) dX5_digest_61 ?_
                                      refine lv_istore (lv' := [(6, .int ((t 6))), (5, .int 6), (1, .long ((digS (digS (digS (digS (digS (digS (digS (digS (digS (digS (digS (digS (digS (digS (digS (digS 1409 ((cntF t q c bc n ar fi rn 0))) ((cntF t q c bc n ar fi rn 1))) ((cntF t q c bc n ar fi rn 2))) ((cntF t q c bc n ar fi rn 3))) ((cntF t q c bc n ar fi rn 4))) ((cntF t q c bc n ar fi rn 5))) ((cntF t q c bc n ar fi rn 6))) ((cntF t q c bc n ar fi rn 7))) ((cntF t q c bc n ar fi rn 8))) ((cntF t q c bc n ar fi rn 9))) ((t 0))) ((t 1))) ((t 2))) ((t 3))) ((t 4))) ((t 5))))), (4, .int (nI 7)), (3, .ref (Y 1)), (0, .ref (Y 0))]) hx hb dX5_digest_62 hl (by decide) rfl (fun ls hl => ?_)
                                      refine lv_lload_n hx hb dX5_digest_64 rfl (lv_at hl 2 rfl) ?_
                                      refine lv_ldc2 (v := 31) hx hb hown hk134 dX5_digest_65 ?_
                                      refine lv_lmul hx hb dX5_digest_68 ?_
                                      refine lv_iload hx hb dX5_digest_69 (lv_at hl 0 rfl) ?_
                                      refine lv_i2l hx hb dX5_digest_71 rfl ?_
                                      refine lv_ladd hx hb dX5_digest_72 ?_
                                      refine zt_l (x' := (digS (digS (digS (digS (digS (digS (digS (digS (digS (digS (digS (digS (digS (digS (digS (digS (digS 1409 ((cntF t q c bc n ar fi rn 0))) ((cntF t q c bc n ar fi rn 1))) ((cntF t q c bc n ar fi rn 2))) ((cntF t q c bc n ar fi rn 3))) ((cntF t q c bc n ar fi rn 4))) ((cntF t q c bc n ar fi rn 5))) ((cntF t q c bc n ar fi rn 6))) ((cntF t q c bc n ar fi rn 7))) ((cntF t q c bc n ar fi rn 8))) ((cntF t q c bc n ar fi rn 9))) ((t 0))) ((t 1))) ((t 2))) ((t 3))) ((t 4))) ((t 5))) ((t 6)))) rfl ?_
                                      refine lv_lstore_n (lv' := [(1, .long ((digS (digS (digS (digS (digS (digS (digS (digS (digS (digS (digS (digS (digS (digS (digS (digS (digS 1409 ((cntF t q c bc n ar fi rn 0))) ((cntF t q c bc n ar fi rn 1))) ((cntF t q c bc n ar fi rn 2))) ((cntF t q c bc n ar fi rn 3))) ((cntF t q c bc n ar fi rn 4))) ((cntF t q c bc n ar fi rn 5))) ((cntF t q c bc n ar fi rn 6))) ((cntF t q c bc n ar fi rn 7))) ((cntF t q c bc n ar fi rn 8))) ((cntF t q c bc n ar fi rn 9))) ((t 0))) ((t 1))) ((t 2))) ((t 3))) ((t 4))) ((t 5))) ((t 6))))), (6, .int ((t 6))), (5, .int 6), (4, .int (nI 7)), (3, .ref (Y 1)), (0, .ref (Y 0))]) hx hb dX5_digest_73 rfl hl (by decide) rfl (fun ls hl => ?_)
                                      refine lv_iinc (v := 7) (lv' := [(5, .int 7), (1, .long ((digS (digS (digS (digS (digS (digS (digS (digS (digS (digS (digS (digS (digS (digS (digS (digS (digS 1409 ((cntF t q c bc n ar fi rn 0))) ((cntF t q c bc n ar fi rn 1))) ((cntF t q c bc n ar fi rn 2))) ((cntF t q c bc n ar fi rn 3))) ((cntF t q c bc n ar fi rn 4))) ((cntF t q c bc n ar fi rn 5))) ((cntF t q c bc n ar fi rn 6))) ((cntF t q c bc n ar fi rn 7))) ((cntF t q c bc n ar fi rn 8))) ((cntF t q c bc n ar fi rn 9))) ((t 0))) ((t 1))) ((t 2))) ((t 3))) ((t 4))) ((t 5))) ((t 6))))), (6, .int ((t 6))), (4, .int (nI 7)), (3, .ref (Y 1)), (0, .ref (Y 0))]) hx hb dX5_digest_74 hl (k := 2) rfl (by decide) (by decide) rfl (fun ls hl => ?_)
                                      refine lv_goto (tgt := 51) hx hb dX5_digest_77 (by decide) ?_
                                      refine lv_iload hx hb dX5_digest_51 (lv_at hl 0 rfl) ?_
                                      refine lv_iload hx hb dX5_digest_53 (lv_at hl 3 rfl) ?_
                                      refine lv_icmp_ge (tgt := 80) hx hb dX5_digest_55 (by decide) (fun c19 => ?_) (fun c19 => ?_)
                                      · have d19 := Int32.not_lt.mpr c19
                                        refine lv_iconst (v := 0) hx hb dX5_digest_80 (by decide) ?_
                                        refine lv_istore_n (lv' := [(3, .int 0), (5, .int 7), (1, .long ((digS (digS (digS (digS (digS (digS (digS (digS (digS (digS (digS (digS (digS (digS (digS (digS (digS 1409 ((cntF t q c bc n ar fi rn 0))) ((cntF t q c bc n ar fi rn 1))) ((cntF t q c bc n ar fi rn 2))) ((cntF t q c bc n ar fi rn 3))) ((cntF t q c bc n ar fi rn 4))) ((cntF t q c bc n ar fi rn 5))) ((cntF t q c bc n ar fi rn 6))) ((cntF t q c bc n ar fi rn 7))) ((cntF t q c bc n ar fi rn 8))) ((cntF t q c bc n ar fi rn 9))) ((t 0))) ((t 1))) ((t 2))) ((t 3))) ((t 4))) ((t 5))) ((t 6))))), (6, .int ((t 6))), (4, .int (nI 7)), (0, .ref (Y 0))]) hx hb dX5_digest_81 rfl hl (by decide) rfl (fun ls hl => ?_)
                                        have loop20 : ∀ k, k ≤ c → ∀ (H : Heap) (locs : List Loc) (ls : Array Slot), va_P D vwCl (zW Y Z Z2 y 0 t c q b bc n ar fi rn T) H → va_D A (zW Y Z Z2 y 0 t c q b bc n ar fi rn T) → va_S A s.heap H locs → lv_has ls 7 [(3, .int (nI k)), (1, .long ((dmWs q (dm17 t q c bc n ar fi rn) k))), (0, .ref (Y 0))] → W p l e ({ frames := 4, cells := 58, slots := 484, locals := 88 } : Room) s m args below meth cd H locs (10 + 8 * k) (100 + 64 * k) (MQ below (zMQ (some (.long (digM t q b c bc n ar fi rn pp))) D (zW Y Z Z2 y 0 t c q b bc n ar fi rn T) A) args s 58 484 A) (F0 m 82 ls []) := by
                                          refine down ?_ ?_
                                          · intro H locs ls hP hD hS hl
                                            refine lv_iload_n hx hb dX5_digest_82 rfl (lv_at hl 0 rfl) ?_
                                            refine lv_aload_n hx hb dX5_digest_83 rfl (lv_at hl 2 rfl) ?_
                                            refine va_get (D := D) (ci := 5) (v := .int (nI c)) (C := RX5) (T := TX5) (N := 7) hx hb hts hinX5 hown hK hP (0) rfl rfl 2 (by decide) hf35 (fun _ h9 => h9) rfl dX5_digest_84 ?_
                                            refine lv_icmp_ge (tgt := 127) hx hb dX5_digest_87 (by decide) (fun c21 => ?_) (fun c21 => ?_)
                                            · have d21 := Int32.not_lt.mpr c21
                                              refine lv_iconst (v := 0) hx hb dX5_digest_127 (by decide) ?_
                                              refine lv_istore_n (lv' := [(3, .int 0), (1, .long ((dmWs q (dm17 t q c bc n ar fi rn) c))), (0, .ref (Y 0))]) hx hb dX5_digest_128 rfl hl (by decide) rfl (fun ls hl => ?_)
                                              have loop22 : ∀ k, k ≤ bc → ∀ (H : Heap) (locs : List Loc) (ls : Array Slot), va_P D vwCl (zW Y Z Z2 y 0 t c q b bc n ar fi rn T) H → va_D A (zW Y Z Z2 y 0 t c q b bc n ar fi rn T) → va_S A s.heap H locs → lv_has ls 7 [(3, .int (nI k)), (1, .long ((dmBs q b c pp (dmWs q (dm17 t q c bc n ar fi rn) c) k))), (0, .ref (Y 0))] → W p l e ({ frames := 4, cells := 58, slots := 484, locals := 88 } : Room) s m args below meth cd H locs (10 + 8 * c) (100 + 64 * c) (MQ below (zMQ (some (.long (digM t q b c bc n ar fi rn pp))) D (zW Y Z Z2 y 0 t c q b bc n ar fi rn T) A) args s 58 484 A) (F0 m 129 ls []) := by
                                                refine down ?_ ?_
                                                · intro H locs ls hP hD hS hl
                                                  refine lv_iload_n hx hb dX5_digest_129 rfl (lv_at hl 0 rfl) ?_
                                                  refine lv_aload_n hx hb dX5_digest_130 rfl (lv_at hl 2 rfl) ?_
                                                  refine va_get (D := D) (ci := 5) (v := .ref (Z 0)) (C := RX5) (T := TX5) (N := 7) hx hb hts hinX5 hown hK hP (0) rfl rfl 5 (by decide) hf24 (fun _ h9 => h9) rfl dX5_digest_131 ?_
                                                  refine va_getN (D := D) (ci := 4) (v := .int (nI bc)) (C := RX4) (T := TX4) (N := 16) hx hb hts hinX4 hown hK hP (4) rfl rfl 7 (by decide) hf42 (fun _ h9 => h9) rfl dX5_digest_134 ?_
                                                  refine lv_icmp_ge (tgt := 176) hx hb dX5_digest_137 (by decide) (fun c23 => ?_) (fun c23 => ?_)
                                                  · have d23 := Int32.not_lt.mpr c23
                                                    refine lv_lload_n hx hb dX5_digest_176 rfl (lv_at hl 1 rfl) ?_
                                                    refine W.widen (k := 58) (n := 484) (by omega) (by omega) ?_
                                                    exact zM_l hx hb hr hlocks hS dX5_digest_177 rfl hP
                                                  · exact absurd (nI_le (a := bc) (b := bc) (by omega) (by omega)) c23
                                                · intro k hkk ihk H locs ls hP hD hS hl
                                                  refine lv_iload_n hx hb dX5_digest_129 rfl (lv_at hl 0 rfl) ?_
                                                  refine lv_aload_n hx hb dX5_digest_130 rfl (lv_at hl 2 rfl) ?_
                                                  refine va_get (D := D) (ci := 5) (v := .ref (Z 0)) (C := RX5) (T := TX5) (N := 7) hx hb hts hinX5 hown hK hP (0) rfl rfl 5 (by decide) hf24 (fun _ h9 => h9) rfl dX5_digest_131 ?_
                                                  refine va_getN (D := D) (ci := 4) (v := .int (nI bc)) (C := RX4) (T := TX4) (N := 16) hx hb hts hinX4 hown hK hP (4) rfl rfl 7 (by decide) hf42 (fun _ h9 => h9) rfl dX5_digest_134 ?_
                                                  refine lv_icmp_ge (tgt := 176) hx hb dX5_digest_137 (by decide) (fun c24 => ?_) (fun c24 => ?_)
                                                  · exact absurd c24 (nI_ge (a := k) (b := bc) (by omega) (by omega))
                                                  · have d24 := Int32.not_le.mp c24
                                                    refine lv_iconst (v := 0) hx hb dX5_digest_140 (by decide) ?_
                                                    refine lv_istore (lv' := [(4, .int 0), (3, .int (nI k)), (1, .long ((dmBs q b c pp (dmWs q (dm17 t q c bc n ar fi rn) c) k))), (0, .ref (Y 0))]) hx hb dX5_digest_141 hl (by decide) rfl (fun ls hl => ?_)
                                                    refine lv_iload hx hb dX5_digest_143 (lv_at hl 0 rfl) ?_
                                                    refine lv_iconst (v := 3) hx hb dX5_digest_145 (by decide) ?_
                                                    refine lv_icmp_gt (tgt := 170) hx hb dX5_digest_146 (by decide) (fun c25 => ?_) (fun c25 => ?_)
                                                    · exact absurd c25 (by decide)
                                                    · have d25 := Int32.not_lt.mp c25
                                                      refine lv_lload_n hx hb dX5_digest_149 rfl (lv_at hl 2 rfl) ?_
                                                      refine lv_ldc2 (v := 31) hx hb hown hk134 dX5_digest_150 ?_
                                                      refine lv_lmul hx hb dX5_digest_153 ?_
                                                      refine lv_aload_n hx hb dX5_digest_154 rfl (lv_at hl 3 rfl) ?_
                                                      refine lv_iload_n hx hb dX5_digest_155 rfl (lv_at hl 1 rfl) ?_
                                                      refine lv_iload hx hb dX5_digest_156 (lv_at hl 0 rfl) ?_
                                                      refine zcNRV (As := [.int (nI k), .int 0]) (rest := [.long (((dmBs q b c pp (dmWs q (dm17 t q c bc n ar fi rn) c) k) * 31))]) (st1 := [.int ((b 1 k)), .long (((dmBs q b c pp (dmWs q (dm17 t q c bc n ar fi rn) c) k) * 31))]) ⟨hx, hb, hml, hown, hts⟩ (c_X5_bargeTold_0 l D y Y Z Z2 0 t c q b bc n ar fi rn T k (by omega)) (cwV 2 hts gX5_digest_X5_bargeTold rfl rfl rfl (by decide +kernel) ⟨Nat.le_of_ble_eq_true rfl, Nat.le_of_ble_eq_true rfl⟩) hN hK hP (ci := 5) (q0 := 0) rfl rfl rfl rfl hl.1 rfl (lv_room (Nat.le_of_ble_eq_true rfl)) dX5_digest_158 ⟨by show (10 + 8 * c) ≤ 58; omega, by show (100 + 64 * c) ≤ 484; omega⟩ rfl ?_
                                                      refine lv_i2l hx hb dX5_digest_161 rfl ?_
                                                      refine lv_ladd hx hb dX5_digest_162 ?_
                                                      refine zt_l (x' := (digS (dmBs q b c pp (dmWs q (dm17 t q c bc n ar fi rn) c) k) ((b 1 k)))) rfl ?_
                                                      refine lv_lstore_n (lv' := [(1, .long ((digS (dmBs q b c pp (dmWs q (dm17 t q c bc n ar fi rn) c) k) ((b 1 k))))), (4, .int 0), (3, .int (nI k)), (0, .ref (Y 0))]) hx hb dX5_digest_163 rfl hl (by decide) rfl (fun ls hl => ?_)
                                                      refine lv_iinc (v := 1) (lv' := [(4, .int 1), (1, .long ((digS (dmBs q b c pp (dmWs q (dm17 t q c bc n ar fi rn) c) k) ((b 1 k))))), (3, .int (nI k)), (0, .ref (Y 0))]) hx hb dX5_digest_164 hl (k := 1) rfl (by decide) (by decide) rfl (fun ls hl => ?_)
                                                      refine lv_goto (tgt := 143) hx hb dX5_digest_167 (by decide) ?_
                                                      refine lv_iload hx hb dX5_digest_143 (lv_at hl 0 rfl) ?_
                                                      refine lv_iconst (v := 3) hx hb dX5_digest_145 (by decide) ?_
                                                      refine lv_icmp_gt (tgt := 170) hx hb dX5_digest_146 (by decide) (fun c26 => ?_) (fun c26 => ?_)
                                                      · exact absurd c26 (by decide)
                                                      · have d26 := Int32.not_lt.mp c26
                                                        refine lv_lload_n hx hb dX5_digest_149 rfl (lv_at hl 1 rfl) ?_
                                                        refine lv_ldc2 (v := 31) hx hb hown hk134 dX5_digest_150 ?_
                                                        refine lv_lmul hx hb dX5_digest_153 ?_
                                                        refine lv_aload_n hx hb dX5_digest_154 rfl (lv_at hl 3 rfl) ?_
                                                        refine lv_iload_n hx hb dX5_digest_155 rfl (lv_at hl 2 rfl) ?_
                                                        refine lv_iload hx hb dX5_digest_156 (lv_at hl 0 rfl) ?_
                                                        refine zcNRV (As := [.int (nI k), .int 1]) (rest := [.long (((digS (dmBs q b c pp (dmWs q (dm17 t q c bc n ar fi rn) c) k) ((b 1 k))) * 31))]) (st1 := [.int ((b 2 k)), .long (((digS (dmBs q b c pp (dmWs q (dm17 t q c bc n ar fi rn) c) k) ((b 1 k))) * 31))]) ⟨hx, hb, hml, hown, hts⟩ (c_X5_bargeTold_1 l D y Y Z Z2 0 t c q b bc n ar fi rn T k (by omega)) (cwV 2 hts gX5_digest_X5_bargeTold rfl rfl rfl (by decide +kernel) ⟨Nat.le_of_ble_eq_true rfl, Nat.le_of_ble_eq_true rfl⟩) hN hK hP (ci := 5) (q0 := 0) rfl rfl rfl rfl hl.1 rfl (lv_room (Nat.le_of_ble_eq_true rfl)) dX5_digest_158 ⟨by show (10 + 8 * c) ≤ 58; omega, by show (100 + 64 * c) ≤ 484; omega⟩ rfl ?_
                                                        refine lv_i2l hx hb dX5_digest_161 rfl ?_
                                                        refine lv_ladd hx hb dX5_digest_162 ?_
                                                        refine zt_l (x' := (digS (digS (dmBs q b c pp (dmWs q (dm17 t q c bc n ar fi rn) c) k) ((b 1 k))) ((b 2 k)))) rfl ?_
                                                        refine lv_lstore_n (lv' := [(1, .long ((digS (digS (dmBs q b c pp (dmWs q (dm17 t q c bc n ar fi rn) c) k) ((b 1 k))) ((b 2 k))))), (4, .int 1), (3, .int (nI k)), (0, .ref (Y 0))]) hx hb dX5_digest_163 rfl hl (by decide) rfl (fun ls hl => ?_)
                                                        refine lv_iinc (v := 2) (lv' := [(4, .int 2), (1, .long ((digS (digS (dmBs q b c pp (dmWs q (dm17 t q c bc n ar fi rn) c) k) ((b 1 k))) ((b 2 k))))), (3, .int (nI k)), (0, .ref (Y 0))]) hx hb dX5_digest_164 hl (k := 1) rfl (by decide) (by decide) rfl (fun ls hl => ?_)
                                                        refine lv_goto (tgt := 143) hx hb dX5_digest_167 (by decide) ?_
                                                        refine lv_iload hx hb dX5_digest_143 (lv_at hl 0 rfl) ?_
                                                        refine lv_iconst (v := 3) hx hb dX5_digest_145 (by decide) ?_
                                                        refine lv_icmp_gt (tgt := 170) hx hb dX5_digest_146 (by decide) (fun c27 => ?_) (fun c27 => ?_)
                                                        · exact absurd c27 (by decide)
                                                        · have d27 := Int32.not_lt.mp c27
                                                          refine lv_lload_n hx hb dX5_digest_149 rfl (lv_at hl 1 rfl) ?_
                                                          refine lv_ldc2 (v := 31) hx hb hown hk134 dX5_digest_150 ?_
                                                          refine lv_lmul hx hb dX5_digest_153 ?_
                                                          refine lv_aload_n hx hb dX5_digest_154 rfl (lv_at hl 3 rfl) ?_
                                                          refine lv_iload_n hx hb dX5_digest_155 rfl (lv_at hl 2 rfl) ?_
                                                          refine lv_iload hx hb dX5_digest_156 (lv_at hl 0 rfl) ?_
                                                          refine zcNRV (As := [.int (nI k), .int 2]) (rest := [.long (((digS (digS (dmBs q b c pp (dmWs q (dm17 t q c bc n ar fi rn) c) k) ((b 1 k))) ((b 2 k))) * 31))]) (st1 := [.int ((b 3 k)), .long (((digS (digS (dmBs q b c pp (dmWs q (dm17 t q c bc n ar fi rn) c) k) ((b 1 k))) ((b 2 k))) * 31))]) ⟨hx, hb, hml, hown, hts⟩ (c_X5_bargeTold_2 l D y Y Z Z2 0 t c q b bc n ar fi rn T k (by omega)) (cwV 2 hts gX5_digest_X5_bargeTold rfl rfl rfl (by decide +kernel) ⟨Nat.le_of_ble_eq_true rfl, Nat.le_of_ble_eq_true rfl⟩) hN hK hP (ci := 5) (q0 := 0) rfl rfl rfl rfl hl.1 rfl (lv_room (Nat.le_of_ble_eq_true rfl)) dX5_digest_158 ⟨by show (10 + 8 * c) ≤ 58; omega, by show (100 + 64 * c) ≤ 484; omega⟩ rfl ?_
                                                          refine lv_i2l hx hb dX5_digest_161 rfl ?_
                                                          refine lv_ladd hx hb dX5_digest_162 ?_
                                                          refine zt_l (x' := (digS (digS (digS (dmBs q b c pp (dmWs q (dm17 t q c bc n ar fi rn) c) k) ((b 1 k))) ((b 2 k))) ((b 3 k)))) rfl ?_
                                                          refine lv_lstore_n (lv' := [(1, .long ((digS (digS (digS (dmBs q b c pp (dmWs q (dm17 t q c bc n ar fi rn) c) k) ((b 1 k))) ((b 2 k))) ((b 3 k))))), (4, .int 2), (3, .int (nI k)), (0, .ref (Y 0))]) hx hb dX5_digest_163 rfl hl (by decide) rfl (fun ls hl => ?_)
                                                          refine lv_iinc (v := 3) (lv' := [(4, .int 3), (1, .long ((digS (digS (digS (dmBs q b c pp (dmWs q (dm17 t q c bc n ar fi rn) c) k) ((b 1 k))) ((b 2 k))) ((b 3 k))))), (3, .int (nI k)), (0, .ref (Y 0))]) hx hb dX5_digest_164 hl (k := 1) rfl (by decide) (by decide) rfl (fun ls hl => ?_)
                                                          refine lv_goto (tgt := 143) hx hb dX5_digest_167 (by decide) ?_
                                                          refine lv_iload hx hb dX5_digest_143 (lv_at hl 0 rfl) ?_
                                                          refine lv_iconst (v := 3) hx hb dX5_digest_145 (by decide) ?_
                                                          refine lv_icmp_gt (tgt := 170) hx hb dX5_digest_146 (by decide) (fun c28 => ?_) (fun c28 => ?_)
                                                          · exact absurd c28 (by decide)
                                                          · have d28 := Int32.not_lt.mp c28
                                                            refine lv_lload_n hx hb dX5_digest_149 rfl (lv_at hl 1 rfl) ?_
                                                            refine lv_ldc2 (v := 31) hx hb hown hk134 dX5_digest_150 ?_
                                                            refine lv_lmul hx hb dX5_digest_153 ?_
                                                            refine lv_aload_n hx hb dX5_digest_154 rfl (lv_at hl 3 rfl) ?_
                                                            refine lv_iload_n hx hb dX5_digest_155 rfl (lv_at hl 2 rfl) ?_
                                                            refine lv_iload hx hb dX5_digest_156 (lv_at hl 0 rfl) ?_
                                                            refine zcNRV (As := [.int (nI k), .int 3]) (rest := [.long (((digS (digS (digS (dmBs q b c pp (dmWs q (dm17 t q c bc n ar fi rn) c) k) ((b 1 k))) ((b 2 k))) ((b 3 k))) * 31))]) (st1 := [.int ((nfO q (b 1 k) c (40 - pp k))), .long (((digS (digS (digS (dmBs q b c pp (dmWs q (dm17 t q c bc n ar fi rn) c) k) ((b 1 k))) ((b 2 k))) ((b 3 k))) * 31))]) ⟨hx, hb, hml, hown, hts⟩ (c_X5_bargeTold_3 l D y Y Z Z2 0 t c q b bc n ar fi rn T k (pp k) (by omega) (hpp k (by omega)).1 (hpp k (by omega)).2 (by omega)) (cwV 2 hts gX5_digest_X5_bargeTold rfl rfl rfl (by decide +kernel) ⟨Nat.le_of_ble_eq_true rfl, Nat.le_of_ble_eq_true rfl⟩) hN hK hP (ci := 5) (q0 := 0) rfl rfl rfl rfl hl.1 rfl (lv_room (Nat.le_of_ble_eq_true rfl)) dX5_digest_158 ⟨by show (10 + 8 * c) ≤ 58; omega, by show (100 + 64 * c) ≤ 484; omega⟩ rfl ?_
                                                            refine lv_i2l hx hb dX5_digest_161 rfl ?_
                                                            refine lv_ladd hx hb dX5_digest_162 ?_
                                                            refine zt_l (x' := (digS (digS (digS (digS (dmBs q b c pp (dmWs q (dm17 t q c bc n ar fi rn) c) k) ((b 1 k))) ((b 2 k))) ((b 3 k))) ((nfO q (b 1 k) c (40 - pp k))))) rfl ?_
                                                            refine lv_lstore_n (lv' := [(1, .long ((digS (digS (digS (digS (dmBs q b c pp (dmWs q (dm17 t q c bc n ar fi rn) c) k) ((b 1 k))) ((b 2 k))) ((b 3 k))) ((nfO q (b 1 k) c (40 - pp k)))))), (4, .int 3), (3, .int (nI k)), (0, .ref (Y 0))]) hx hb dX5_digest_163 rfl hl (by decide) rfl (fun ls hl => ?_)
                                                            refine lv_iinc (v := 4) (lv' := [(4, .int 4), (1, .long ((digS (digS (digS (digS (dmBs q b c pp (dmWs q (dm17 t q c bc n ar fi rn) c) k) ((b 1 k))) ((b 2 k))) ((b 3 k))) ((nfO q (b 1 k) c (40 - pp k)))))), (3, .int (nI k)), (0, .ref (Y 0))]) hx hb dX5_digest_164 hl (k := 1) rfl (by decide) (by decide) rfl (fun ls hl => ?_)
                                                            refine lv_goto (tgt := 143) hx hb dX5_digest_167 (by decide) ?_
                                                            refine lv_iload hx hb dX5_digest_143 (lv_at hl 0 rfl) ?_
                                                            refine lv_iconst (v := 3) hx hb dX5_digest_145 (by decide) ?_
                                                            refine lv_icmp_gt (tgt := 170) hx hb dX5_digest_146 (by decide) (fun c29 => ?_) (fun c29 => ?_)
                                                            · have d29 := Int32.not_le.mpr c29
                                                              refine lv_iinc (v := nI (k + 1)) (lv' := [(3, .int (nI (k + 1))), (4, .int 4), (1, .long ((digS (digS (digS (digS (dmBs q b c pp (dmWs q (dm17 t q c bc n ar fi rn) c) k) ((b 1 k))) ((b 2 k))) ((b 3 k))) ((nfO q (b 1 k) c (40 - pp k)))))), (0, .ref (Y 0))]) hx hb dX5_digest_170 hl (k := 2) rfl (nI_1 _) (by decide) rfl (fun ls hl => ?_)
                                                              refine lv_goto (tgt := 129) hx hb dX5_digest_173 (by decide) ?_
                                                              have e30 : (dmBs q b c pp (dmWs q (dm17 t q c bc n ar fi rn) c) (k + 1)) = (digS (digS (digS (digS (dmBs q b c pp (dmWs q (dm17 t q c bc n ar fi rn) c) k) ((b 1 k))) ((b 2 k))) ((b 3 k))) ((nfO q (b 1 k) c (40 - pp k)))) := rfl
                                                              refine ihk H locs ls ?_ ?_ hS ?_
                                                              · first | exact hP | (simp only [e30]; exact hP)
                                                              · first | exact hD | (simp only [e30]; exact hD)
                                                              · first | exact lv_sub hl [0, 2, 3] rfl | (simp only [e30]; exact lv_sub hl [0, 2, 3] rfl)
                                                            · exact absurd (by decide) c29
                                              exact loop22 0 (Nat.zero_le _) H locs ls hP hD hS (lv_sub hl [0, 1, 2] rfl)
                                            · exact absurd (nI_le (a := c) (b := c) (by omega) (by omega)) c21
                                          · intro k hkk ihk H locs ls hP hD hS hl
                                            refine lv_iload_n hx hb dX5_digest_82 rfl (lv_at hl 0 rfl) ?_
                                            refine lv_aload_n hx hb dX5_digest_83 rfl (lv_at hl 2 rfl) ?_
                                            refine va_get (D := D) (ci := 5) (v := .int (nI c)) (C := RX5) (T := TX5) (N := 7) hx hb hts hinX5 hown hK hP (0) rfl rfl 2 (by decide) hf35 (fun _ h9 => h9) rfl dX5_digest_84 ?_
                                            refine lv_icmp_ge (tgt := 127) hx hb dX5_digest_87 (by decide) (fun c31 => ?_) (fun c31 => ?_)
                                            · exact absurd c31 (nI_ge (a := k) (b := c) (by omega) (by omega))
                                            · have d31 := Int32.not_le.mp c31
                                              refine lv_iconst (v := 0) hx hb dX5_digest_90 (by decide) ?_
                                              refine lv_istore (lv' := [(4, .int 0), (3, .int (nI k)), (1, .long ((dmWs q (dm17 t q c bc n ar fi rn) k))), (0, .ref (Y 0))]) hx hb dX5_digest_91 hl (by decide) rfl (fun ls hl => ?_)
                                              refine lv_iload hx hb dX5_digest_93 (lv_at hl 0 rfl) ?_
                                              refine lv_bipush (v := 7) hx hb dX5_digest_95 (by decide) ?_
                                              refine lv_icmp_gt (tgt := 121) hx hb dX5_digest_97 (by decide) (fun c32 => ?_) (fun c32 => ?_)
                                              · exact absurd c32 (by decide)
                                              · have d32 := Int32.not_lt.mp c32
                                                refine lv_lload_n hx hb dX5_digest_100 rfl (lv_at hl 2 rfl) ?_
                                                refine lv_ldc2 (v := 31) hx hb hown hk134 dX5_digest_101 ?_
                                                refine lv_lmul hx hb dX5_digest_104 ?_
                                                refine lv_aload_n hx hb dX5_digest_105 rfl (lv_at hl 3 rfl) ?_
                                                refine lv_iload_n hx hb dX5_digest_106 rfl (lv_at hl 1 rfl) ?_
                                                refine lv_iload hx hb dX5_digest_107 (lv_at hl 0 rfl) ?_
                                                refine zcNMV (As := [.int (nI k), .int 0]) (rest := [.long (((dmWs q (dm17 t q c bc n ar fi rn) k) * 31))]) (st1 := [.int ((wtF q k 0)), .long (((dmWs q (dm17 t q c bc n ar fi rn) k) * 31))]) (cells1 := ((10 + 8 * k) + 1)) (slots1 := ((100 + 64 * k) + 8)) ⟨hx, hb, hml, hown, hts⟩ (c_X5_weirTold l D y Y Z Z2 0 t c q b bc n ar fi rn T k 0 (by omega) (by omega) _) (cwV 2 hts gX5_digest_X5_weirTold rfl rfl rfl (by decide +kernel) ⟨Nat.le_of_ble_eq_true rfl, Nat.le_of_ble_eq_true rfl⟩) hN hK hP (z_D_T hD) (ci := 5) (q0 := 0) rfl rfl rfl rfl hl.1 rfl (lv_room (Nat.le_of_ble_eq_true rfl)) dX5_digest_109 hS (z_sub_F hD hS hA z_in_r) ⟨by show (10 + 8 * k) + 1 ≤ 58; omega, by show (100 + 64 * k) + 8 ≤ 484; omega⟩ rfl rfl rfl (fun H locs hP1 hz hfr hS => ?_)
                                                have hD := z_D_adr hD (show (zW Y Z Z2 y 0 t c q b bc n ar fi rn T).map Prod.fst = _ from rfl)
                                                have hP := hP1
                                                refine lv_i2l hx hb dX5_digest_112 rfl ?_
                                                refine lv_ladd hx hb dX5_digest_113 ?_
                                                refine zt_l (x' := (digS (dmWs q (dm17 t q c bc n ar fi rn) k) ((wtF q k 0)))) rfl ?_
                                                refine lv_lstore_n (lv' := [(1, .long ((digS (dmWs q (dm17 t q c bc n ar fi rn) k) ((wtF q k 0))))), (4, .int 0), (3, .int (nI k)), (0, .ref (Y 0))]) hx hb dX5_digest_114 rfl hl (by decide) rfl (fun ls hl => ?_)
                                                refine lv_iinc (v := 1) (lv' := [(4, .int 1), (1, .long ((digS (dmWs q (dm17 t q c bc n ar fi rn) k) ((wtF q k 0))))), (3, .int (nI k)), (0, .ref (Y 0))]) hx hb dX5_digest_115 hl (k := 1) rfl (by decide) (by decide) rfl (fun ls hl => ?_)
                                                refine lv_goto (tgt := 93) hx hb dX5_digest_118 (by decide) ?_
                                                refine lv_iload hx hb dX5_digest_93 (lv_at hl 0 rfl) ?_
                                                refine lv_bipush (v := 7) hx hb dX5_digest_95 (by decide) ?_
                                                refine lv_icmp_gt (tgt := 121) hx hb dX5_digest_97 (by decide) (fun c33 => ?_) (fun c33 => ?_)
                                                · exact absurd c33 (by decide)
                                                · have d33 := Int32.not_lt.mp c33
                                                  refine lv_lload_n hx hb dX5_digest_100 rfl (lv_at hl 1 rfl) ?_
                                                  refine lv_ldc2 (v := 31) hx hb hown hk134 dX5_digest_101 ?_
                                                  refine lv_lmul hx hb dX5_digest_104 ?_
                                                  refine lv_aload_n hx hb dX5_digest_105 rfl (lv_at hl 3 rfl) ?_
                                                  refine lv_iload_n hx hb dX5_digest_106 rfl (lv_at hl 2 rfl) ?_
                                                  refine lv_iload hx hb dX5_digest_107 (lv_at hl 0 rfl) ?_
                                                  refine zcNMV (As := [.int (nI k), .int 1]) (rest := [.long (((digS (dmWs q (dm17 t q c bc n ar fi rn) k) ((wtF q k 0))) * 31))]) (st1 := [.int ((wtF q k 1)), .long (((digS (dmWs q (dm17 t q c bc n ar fi rn) k) ((wtF q k 0))) * 31))]) (cells1 := (((10 + 8 * k) + 1) + 1)) (slots1 := (((100 + 64 * k) + 8) + 8)) ⟨hx, hb, hml, hown, hts⟩ (c_X5_weirTold l D y Y Z Z2 0 t c q b bc n ar fi rn T k 1 (by omega) (by omega) _) (cwV 2 hts gX5_digest_X5_weirTold rfl rfl rfl (by decide +kernel) ⟨Nat.le_of_ble_eq_true rfl, Nat.le_of_ble_eq_true rfl⟩) hN hK hP (z_D_T hD) (ci := 5) (q0 := 0) rfl rfl rfl rfl hl.1 rfl (lv_room (Nat.le_of_ble_eq_true rfl)) dX5_digest_109 hS (z_sub_F hD hS hA z_in_r) ⟨by show ((10 + 8 * k) + 1) + 1 ≤ 58; omega, by show ((100 + 64 * k) + 8) + 8 ≤ 484; omega⟩ rfl rfl rfl (fun H locs hP1 hz hfr hS => ?_)
                                                  have hD := z_D_adr hD (show (zW Y Z Z2 y 0 t c q b bc n ar fi rn T).map Prod.fst = _ from rfl)
                                                  have hP := hP1
                                                  refine lv_i2l hx hb dX5_digest_112 rfl ?_
                                                  refine lv_ladd hx hb dX5_digest_113 ?_
                                                  refine zt_l (x' := (digS (digS (dmWs q (dm17 t q c bc n ar fi rn) k) ((wtF q k 0))) ((wtF q k 1)))) rfl ?_
                                                  refine lv_lstore_n (lv' := [(1, .long ((digS (digS (dmWs q (dm17 t q c bc n ar fi rn) k) ((wtF q k 0))) ((wtF q k 1))))), (4, .int 1), (3, .int (nI k)), (0, .ref (Y 0))]) hx hb dX5_digest_114 rfl hl (by decide) rfl (fun ls hl => ?_)
                                                  refine lv_iinc (v := 2) (lv' := [(4, .int 2), (1, .long ((digS (digS (dmWs q (dm17 t q c bc n ar fi rn) k) ((wtF q k 0))) ((wtF q k 1))))), (3, .int (nI k)), (0, .ref (Y 0))]) hx hb dX5_digest_115 hl (k := 1) rfl (by decide) (by decide) rfl (fun ls hl => ?_)
                                                  refine lv_goto (tgt := 93) hx hb dX5_digest_118 (by decide) ?_
                                                  refine lv_iload hx hb dX5_digest_93 (lv_at hl 0 rfl) ?_
                                                  refine lv_bipush (v := 7) hx hb dX5_digest_95 (by decide) ?_
                                                  refine lv_icmp_gt (tgt := 121) hx hb dX5_digest_97 (by decide) (fun c34 => ?_) (fun c34 => ?_)
                                                  · exact absurd c34 (by decide)
                                                  · have d34 := Int32.not_lt.mp c34
                                                    refine lv_lload_n hx hb dX5_digest_100 rfl (lv_at hl 1 rfl) ?_
                                                    refine lv_ldc2 (v := 31) hx hb hown hk134 dX5_digest_101 ?_
                                                    refine lv_lmul hx hb dX5_digest_104 ?_
                                                    refine lv_aload_n hx hb dX5_digest_105 rfl (lv_at hl 3 rfl) ?_
                                                    refine lv_iload_n hx hb dX5_digest_106 rfl (lv_at hl 2 rfl) ?_
                                                    refine lv_iload hx hb dX5_digest_107 (lv_at hl 0 rfl) ?_
                                                    refine zcNMV (As := [.int (nI k), .int 2]) (rest := [.long (((digS (digS (dmWs q (dm17 t q c bc n ar fi rn) k) ((wtF q k 0))) ((wtF q k 1))) * 31))]) (st1 := [.int ((wtF q k 2)), .long (((digS (digS (dmWs q (dm17 t q c bc n ar fi rn) k) ((wtF q k 0))) ((wtF q k 1))) * 31))]) (cells1 := ((((10 + 8 * k) + 1) + 1) + 1)) (slots1 := ((((100 + 64 * k) + 8) + 8) + 8)) ⟨hx, hb, hml, hown, hts⟩ (c_X5_weirTold l D y Y Z Z2 0 t c q b bc n ar fi rn T k 2 (by omega) (by omega) _) (cwV 2 hts gX5_digest_X5_weirTold rfl rfl rfl (by decide +kernel) ⟨Nat.le_of_ble_eq_true rfl, Nat.le_of_ble_eq_true rfl⟩) hN hK hP (z_D_T hD) (ci := 5) (q0 := 0) rfl rfl rfl rfl hl.1 rfl (lv_room (Nat.le_of_ble_eq_true rfl)) dX5_digest_109 hS (z_sub_F hD hS hA z_in_r) ⟨by show (((10 + 8 * k) + 1) + 1) + 1 ≤ 58; omega, by show (((100 + 64 * k) + 8) + 8) + 8 ≤ 484; omega⟩ rfl rfl rfl (fun H locs hP1 hz hfr hS => ?_)
                                                    have hD := z_D_adr hD (show (zW Y Z Z2 y 0 t c q b bc n ar fi rn T).map Prod.fst = _ from rfl)
                                                    have hP := hP1
                                                    refine lv_i2l hx hb dX5_digest_112 rfl ?_
                                                    refine lv_ladd hx hb dX5_digest_113 ?_
                                                    refine zt_l (x' := (digS (digS (digS (dmWs q (dm17 t q c bc n ar fi rn) k) ((wtF q k 0))) ((wtF q k 1))) ((wtF q k 2)))) rfl ?_
                                                    refine lv_lstore_n (lv' := [(1, .long ((digS (digS (digS (dmWs q (dm17 t q c bc n ar fi rn) k) ((wtF q k 0))) ((wtF q k 1))) ((wtF q k 2))))), (4, .int 2), (3, .int (nI k)), (0, .ref (Y 0))]) hx hb dX5_digest_114 rfl hl (by decide) rfl (fun ls hl => ?_)
                                                    refine lv_iinc (v := 3) (lv' := [(4, .int 3), (1, .long ((digS (digS (digS (dmWs q (dm17 t q c bc n ar fi rn) k) ((wtF q k 0))) ((wtF q k 1))) ((wtF q k 2))))), (3, .int (nI k)), (0, .ref (Y 0))]) hx hb dX5_digest_115 hl (k := 1) rfl (by decide) (by decide) rfl (fun ls hl => ?_)
                                                    refine lv_goto (tgt := 93) hx hb dX5_digest_118 (by decide) ?_
                                                    refine lv_iload hx hb dX5_digest_93 (lv_at hl 0 rfl) ?_
                                                    refine lv_bipush (v := 7) hx hb dX5_digest_95 (by decide) ?_
                                                    refine lv_icmp_gt (tgt := 121) hx hb dX5_digest_97 (by decide) (fun c35 => ?_) (fun c35 => ?_)
                                                    · exact absurd c35 (by decide)
                                                    · have d35 := Int32.not_lt.mp c35
                                                      refine lv_lload_n hx hb dX5_digest_100 rfl (lv_at hl 1 rfl) ?_
                                                      refine lv_ldc2 (v := 31) hx hb hown hk134 dX5_digest_101 ?_
                                                      refine lv_lmul hx hb dX5_digest_104 ?_
                                                      refine lv_aload_n hx hb dX5_digest_105 rfl (lv_at hl 3 rfl) ?_
                                                      refine lv_iload_n hx hb dX5_digest_106 rfl (lv_at hl 2 rfl) ?_
                                                      refine lv_iload hx hb dX5_digest_107 (lv_at hl 0 rfl) ?_
                                                      refine zcNMV (As := [.int (nI k), .int 3]) (rest := [.long (((digS (digS (digS (dmWs q (dm17 t q c bc n ar fi rn) k) ((wtF q k 0))) ((wtF q k 1))) ((wtF q k 2))) * 31))]) (st1 := [.int ((wtF q k 3)), .long (((digS (digS (digS (dmWs q (dm17 t q c bc n ar fi rn) k) ((wtF q k 0))) ((wtF q k 1))) ((wtF q k 2))) * 31))]) (cells1 := (((((10 + 8 * k) + 1) + 1) + 1) + 1)) (slots1 := (((((100 + 64 * k) + 8) + 8) + 8) + 8)) ⟨hx, hb, hml, hown, hts⟩ (c_X5_weirTold l D y Y Z Z2 0 t c q b bc n ar fi rn T k 3 (by omega) (by omega) _) (cwV 2 hts gX5_digest_X5_weirTold rfl rfl rfl (by decide +kernel) ⟨Nat.le_of_ble_eq_true rfl, Nat.le_of_ble_eq_true rfl⟩) hN hK hP (z_D_T hD) (ci := 5) (q0 := 0) rfl rfl rfl rfl hl.1 rfl (lv_room (Nat.le_of_ble_eq_true rfl)) dX5_digest_109 hS (z_sub_F hD hS hA z_in_r) ⟨by show ((((10 + 8 * k) + 1) + 1) + 1) + 1 ≤ 58; omega, by show ((((100 + 64 * k) + 8) + 8) + 8) + 8 ≤ 484; omega⟩ rfl rfl rfl (fun H locs hP1 hz hfr hS => ?_)
                                                      have hD := z_D_adr hD (show (zW Y Z Z2 y 0 t c q b bc n ar fi rn T).map Prod.fst = _ from rfl)
                                                      have hP := hP1
                                                      refine lv_i2l hx hb dX5_digest_112 rfl ?_
                                                      refine lv_ladd hx hb dX5_digest_113 ?_
                                                      refine zt_l (x' := (digS (digS (digS (digS (dmWs q (dm17 t q c bc n ar fi rn) k) ((wtF q k 0))) ((wtF q k 1))) ((wtF q k 2))) ((wtF q k 3)))) rfl ?_
                                                      refine lv_lstore_n (lv' := [(1, .long ((digS (digS (digS (digS (dmWs q (dm17 t q c bc n ar fi rn) k) ((wtF q k 0))) ((wtF q k 1))) ((wtF q k 2))) ((wtF q k 3))))), (4, .int 3), (3, .int (nI k)), (0, .ref (Y 0))]) hx hb dX5_digest_114 rfl hl (by decide) rfl (fun ls hl => ?_)
                                                      refine lv_iinc (v := 4) (lv' := [(4, .int 4), (1, .long ((digS (digS (digS (digS (dmWs q (dm17 t q c bc n ar fi rn) k) ((wtF q k 0))) ((wtF q k 1))) ((wtF q k 2))) ((wtF q k 3))))), (3, .int (nI k)), (0, .ref (Y 0))]) hx hb dX5_digest_115 hl (k := 1) rfl (by decide) (by decide) rfl (fun ls hl => ?_)
                                                      refine lv_goto (tgt := 93) hx hb dX5_digest_118 (by decide) ?_
                                                      refine lv_iload hx hb dX5_digest_93 (lv_at hl 0 rfl) ?_
                                                      refine lv_bipush (v := 7) hx hb dX5_digest_95 (by decide) ?_
                                                      refine lv_icmp_gt (tgt := 121) hx hb dX5_digest_97 (by decide) (fun c36 => ?_) (fun c36 => ?_)
                                                      · exact absurd c36 (by decide)
                                                      · have d36 := Int32.not_lt.mp c36
                                                        refine lv_lload_n hx hb dX5_digest_100 rfl (lv_at hl 1 rfl) ?_
                                                        refine lv_ldc2 (v := 31) hx hb hown hk134 dX5_digest_101 ?_
                                                        refine lv_lmul hx hb dX5_digest_104 ?_
                                                        refine lv_aload_n hx hb dX5_digest_105 rfl (lv_at hl 3 rfl) ?_
                                                        refine lv_iload_n hx hb dX5_digest_106 rfl (lv_at hl 2 rfl) ?_
                                                        refine lv_iload hx hb dX5_digest_107 (lv_at hl 0 rfl) ?_
                                                        refine zcNMV (As := [.int (nI k), .int 4]) (rest := [.long (((digS (digS (digS (digS (dmWs q (dm17 t q c bc n ar fi rn) k) ((wtF q k 0))) ((wtF q k 1))) ((wtF q k 2))) ((wtF q k 3))) * 31))]) (st1 := [.int ((wtF q k 4)), .long (((digS (digS (digS (digS (dmWs q (dm17 t q c bc n ar fi rn) k) ((wtF q k 0))) ((wtF q k 1))) ((wtF q k 2))) ((wtF q k 3))) * 31))]) (cells1 := ((((((10 + 8 * k) + 1) + 1) + 1) + 1) + 1)) (slots1 := ((((((100 + 64 * k) + 8) + 8) + 8) + 8) + 8)) ⟨hx, hb, hml, hown, hts⟩ (c_X5_weirTold l D y Y Z Z2 0 t c q b bc n ar fi rn T k 4 (by omega) (by omega) _) (cwV 2 hts gX5_digest_X5_weirTold rfl rfl rfl (by decide +kernel) ⟨Nat.le_of_ble_eq_true rfl, Nat.le_of_ble_eq_true rfl⟩) hN hK hP (z_D_T hD) (ci := 5) (q0 := 0) rfl rfl rfl rfl hl.1 rfl (lv_room (Nat.le_of_ble_eq_true rfl)) dX5_digest_109 hS (z_sub_F hD hS hA z_in_r) ⟨by show (((((10 + 8 * k) + 1) + 1) + 1) + 1) + 1 ≤ 58; omega, by show (((((100 + 64 * k) + 8) + 8) + 8) + 8) + 8 ≤ 484; omega⟩ rfl rfl rfl (fun H locs hP1 hz hfr hS => ?_)
                                                        have hD := z_D_adr hD (show (zW Y Z Z2 y 0 t c q b bc n ar fi rn T).map Prod.fst = _ from rfl)
                                                        have hP := hP1
                                                        refine lv_i2l hx hb dX5_digest_112 rfl ?_
                                                        refine lv_ladd hx hb dX5_digest_113 ?_
                                                        refine zt_l (x' := (digS (digS (digS (digS (digS (dmWs q (dm17 t q c bc n ar fi rn) k) ((wtF q k 0))) ((wtF q k 1))) ((wtF q k 2))) ((wtF q k 3))) ((wtF q k 4)))) rfl ?_
                                                        refine lv_lstore_n (lv' := [(1, .long ((digS (digS (digS (digS (digS (dmWs q (dm17 t q c bc n ar fi rn) k) ((wtF q k 0))) ((wtF q k 1))) ((wtF q k 2))) ((wtF q k 3))) ((wtF q k 4))))), (4, .int 4), (3, .int (nI k)), (0, .ref (Y 0))]) hx hb dX5_digest_114 rfl hl (by decide) rfl (fun ls hl => ?_)
                                                        refine lv_iinc (v := 5) (lv' := [(4, .int 5), (1, .long ((digS (digS (digS (digS (digS (dmWs q (dm17 t q c bc n ar fi rn) k) ((wtF q k 0))) ((wtF q k 1))) ((wtF q k 2))) ((wtF q k 3))) ((wtF q k 4))))), (3, .int (nI k)), (0, .ref (Y 0))]) hx hb dX5_digest_115 hl (k := 1) rfl (by decide) (by decide) rfl (fun ls hl => ?_)
                                                        refine lv_goto (tgt := 93) hx hb dX5_digest_118 (by decide) ?_
                                                        refine lv_iload hx hb dX5_digest_93 (lv_at hl 0 rfl) ?_
                                                        refine lv_bipush (v := 7) hx hb dX5_digest_95 (by decide) ?_
                                                        refine lv_icmp_gt (tgt := 121) hx hb dX5_digest_97 (by decide) (fun c37 => ?_) (fun c37 => ?_)
                                                        · exact absurd c37 (by decide)
                                                        · have d37 := Int32.not_lt.mp c37
                                                          refine lv_lload_n hx hb dX5_digest_100 rfl (lv_at hl 1 rfl) ?_
                                                          refine lv_ldc2 (v := 31) hx hb hown hk134 dX5_digest_101 ?_
                                                          refine lv_lmul hx hb dX5_digest_104 ?_
                                                          refine lv_aload_n hx hb dX5_digest_105 rfl (lv_at hl 3 rfl) ?_
                                                          refine lv_iload_n hx hb dX5_digest_106 rfl (lv_at hl 2 rfl) ?_
                                                          refine lv_iload hx hb dX5_digest_107 (lv_at hl 0 rfl) ?_
                                                          refine zcNMV (As := [.int (nI k), .int 5]) (rest := [.long (((digS (digS (digS (digS (digS (dmWs q (dm17 t q c bc n ar fi rn) k) ((wtF q k 0))) ((wtF q k 1))) ((wtF q k 2))) ((wtF q k 3))) ((wtF q k 4))) * 31))]) (st1 := [.int ((wtF q k 5)), .long (((digS (digS (digS (digS (digS (dmWs q (dm17 t q c bc n ar fi rn) k) ((wtF q k 0))) ((wtF q k 1))) ((wtF q k 2))) ((wtF q k 3))) ((wtF q k 4))) * 31))]) (cells1 := (((((((10 + 8 * k) + 1) + 1) + 1) + 1) + 1) + 1)) (slots1 := (((((((100 + 64 * k) + 8) + 8) + 8) + 8) + 8) + 8)) ⟨hx, hb, hml, hown, hts⟩ (c_X5_weirTold l D y Y Z Z2 0 t c q b bc n ar fi rn T k 5 (by omega) (by omega) _) (cwV 2 hts gX5_digest_X5_weirTold rfl rfl rfl (by decide +kernel) ⟨Nat.le_of_ble_eq_true rfl, Nat.le_of_ble_eq_true rfl⟩) hN hK hP (z_D_T hD) (ci := 5) (q0 := 0) rfl rfl rfl rfl hl.1 rfl (lv_room (Nat.le_of_ble_eq_true rfl)) dX5_digest_109 hS (z_sub_F hD hS hA z_in_r) ⟨by show ((((((10 + 8 * k) + 1) + 1) + 1) + 1) + 1) + 1 ≤ 58; omega, by show ((((((100 + 64 * k) + 8) + 8) + 8) + 8) + 8) + 8 ≤ 484; omega⟩ rfl rfl rfl (fun H locs hP1 hz hfr hS => ?_)
                                                          have hD := z_D_adr hD (show (zW Y Z Z2 y 0 t c q b bc n ar fi rn T).map Prod.fst = _ from rfl)
                                                          have hP := hP1
                                                          refine lv_i2l hx hb dX5_digest_112 rfl ?_
                                                          refine lv_ladd hx hb dX5_digest_113 ?_
                                                          refine zt_l (x' := (digS (digS (digS (digS (digS (digS (dmWs q (dm17 t q c bc n ar fi rn) k) ((wtF q k 0))) ((wtF q k 1))) ((wtF q k 2))) ((wtF q k 3))) ((wtF q k 4))) ((wtF q k 5)))) rfl ?_
                                                          refine lv_lstore_n (lv' := [(1, .long ((digS (digS (digS (digS (digS (digS (dmWs q (dm17 t q c bc n ar fi rn) k) ((wtF q k 0))) ((wtF q k 1))) ((wtF q k 2))) ((wtF q k 3))) ((wtF q k 4))) ((wtF q k 5))))), (4, .int 5), (3, .int (nI k)), (0, .ref (Y 0))]) hx hb dX5_digest_114 rfl hl (by decide) rfl (fun ls hl => ?_)
                                                          refine lv_iinc (v := 6) (lv' := [(4, .int 6), (1, .long ((digS (digS (digS (digS (digS (digS (dmWs q (dm17 t q c bc n ar fi rn) k) ((wtF q k 0))) ((wtF q k 1))) ((wtF q k 2))) ((wtF q k 3))) ((wtF q k 4))) ((wtF q k 5))))), (3, .int (nI k)), (0, .ref (Y 0))]) hx hb dX5_digest_115 hl (k := 1) rfl (by decide) (by decide) rfl (fun ls hl => ?_)
                                                          refine lv_goto (tgt := 93) hx hb dX5_digest_118 (by decide) ?_
                                                          refine lv_iload hx hb dX5_digest_93 (lv_at hl 0 rfl) ?_
                                                          refine lv_bipush (v := 7) hx hb dX5_digest_95 (by decide) ?_
                                                          refine lv_icmp_gt (tgt := 121) hx hb dX5_digest_97 (by decide) (fun c38 => ?_) (fun c38 => ?_)
                                                          · exact absurd c38 (by decide)
                                                          · have d38 := Int32.not_lt.mp c38
                                                            refine lv_lload_n hx hb dX5_digest_100 rfl (lv_at hl 1 rfl) ?_
                                                            refine lv_ldc2 (v := 31) hx hb hown hk134 dX5_digest_101 ?_
                                                            refine lv_lmul hx hb dX5_digest_104 ?_
                                                            refine lv_aload_n hx hb dX5_digest_105 rfl (lv_at hl 3 rfl) ?_
                                                            refine lv_iload_n hx hb dX5_digest_106 rfl (lv_at hl 2 rfl) ?_
                                                            refine lv_iload hx hb dX5_digest_107 (lv_at hl 0 rfl) ?_
                                                            refine zcNMV (As := [.int (nI k), .int 6]) (rest := [.long (((digS (digS (digS (digS (digS (digS (dmWs q (dm17 t q c bc n ar fi rn) k) ((wtF q k 0))) ((wtF q k 1))) ((wtF q k 2))) ((wtF q k 3))) ((wtF q k 4))) ((wtF q k 5))) * 31))]) (st1 := [.int ((wtF q k 6)), .long (((digS (digS (digS (digS (digS (digS (dmWs q (dm17 t q c bc n ar fi rn) k) ((wtF q k 0))) ((wtF q k 1))) ((wtF q k 2))) ((wtF q k 3))) ((wtF q k 4))) ((wtF q k 5))) * 31))]) (cells1 := ((((((((10 + 8 * k) + 1) + 1) + 1) + 1) + 1) + 1) + 1)) (slots1 := ((((((((100 + 64 * k) + 8) + 8) + 8) + 8) + 8) + 8) + 8)) ⟨hx, hb, hml, hown, hts⟩ (c_X5_weirTold l D y Y Z Z2 0 t c q b bc n ar fi rn T k 6 (by omega) (by omega) _) (cwV 2 hts gX5_digest_X5_weirTold rfl rfl rfl (by decide +kernel) ⟨Nat.le_of_ble_eq_true rfl, Nat.le_of_ble_eq_true rfl⟩) hN hK hP (z_D_T hD) (ci := 5) (q0 := 0) rfl rfl rfl rfl hl.1 rfl (lv_room (Nat.le_of_ble_eq_true rfl)) dX5_digest_109 hS (z_sub_F hD hS hA z_in_r) ⟨by show (((((((10 + 8 * k) + 1) + 1) + 1) + 1) + 1) + 1) + 1 ≤ 58; omega, by show (((((((100 + 64 * k) + 8) + 8) + 8) + 8) + 8) + 8) + 8 ≤ 484; omega⟩ rfl rfl rfl (fun H locs hP1 hz hfr hS => ?_)
                                                            have hD := z_D_adr hD (show (zW Y Z Z2 y 0 t c q b bc n ar fi rn T).map Prod.fst = _ from rfl)
                                                            have hP := hP1
                                                            refine lv_i2l hx hb dX5_digest_112 rfl ?_
                                                            refine lv_ladd hx hb dX5_digest_113 ?_
                                                            refine zt_l (x' := (digS (digS (digS (digS (digS (digS (digS (dmWs q (dm17 t q c bc n ar fi rn) k) ((wtF q k 0))) ((wtF q k 1))) ((wtF q k 2))) ((wtF q k 3))) ((wtF q k 4))) ((wtF q k 5))) ((wtF q k 6)))) rfl ?_
                                                            refine lv_lstore_n (lv' := [(1, .long ((digS (digS (digS (digS (digS (digS (digS (dmWs q (dm17 t q c bc n ar fi rn) k) ((wtF q k 0))) ((wtF q k 1))) ((wtF q k 2))) ((wtF q k 3))) ((wtF q k 4))) ((wtF q k 5))) ((wtF q k 6))))), (4, .int 6), (3, .int (nI k)), (0, .ref (Y 0))]) hx hb dX5_digest_114 rfl hl (by decide) rfl (fun ls hl => ?_)
                                                            refine lv_iinc (v := 7) (lv' := [(4, .int 7), (1, .long ((digS (digS (digS (digS (digS (digS (digS (dmWs q (dm17 t q c bc n ar fi rn) k) ((wtF q k 0))) ((wtF q k 1))) ((wtF q k 2))) ((wtF q k 3))) ((wtF q k 4))) ((wtF q k 5))) ((wtF q k 6))))), (3, .int (nI k)), (0, .ref (Y 0))]) hx hb dX5_digest_115 hl (k := 1) rfl (by decide) (by decide) rfl (fun ls hl => ?_)
                                                            refine lv_goto (tgt := 93) hx hb dX5_digest_118 (by decide) ?_
                                                            refine lv_iload hx hb dX5_digest_93 (lv_at hl 0 rfl) ?_
                                                            refine lv_bipush (v := 7) hx hb dX5_digest_95 (by decide) ?_
                                                            refine lv_icmp_gt (tgt := 121) hx hb dX5_digest_97 (by decide) (fun c39 => ?_) (fun c39 => ?_)
                                                            · exact absurd c39 (by decide)
                                                            · have d39 := Int32.not_lt.mp c39
                                                              refine lv_lload_n hx hb dX5_digest_100 rfl (lv_at hl 1 rfl) ?_
                                                              refine lv_ldc2 (v := 31) hx hb hown hk134 dX5_digest_101 ?_
                                                              refine lv_lmul hx hb dX5_digest_104 ?_
                                                              refine lv_aload_n hx hb dX5_digest_105 rfl (lv_at hl 3 rfl) ?_
                                                              refine lv_iload_n hx hb dX5_digest_106 rfl (lv_at hl 2 rfl) ?_
                                                              refine lv_iload hx hb dX5_digest_107 (lv_at hl 0 rfl) ?_
                                                              refine zcNMV (As := [.int (nI k), .int 7]) (rest := [.long (((digS (digS (digS (digS (digS (digS (digS (dmWs q (dm17 t q c bc n ar fi rn) k) ((wtF q k 0))) ((wtF q k 1))) ((wtF q k 2))) ((wtF q k 3))) ((wtF q k 4))) ((wtF q k 5))) ((wtF q k 6))) * 31))]) (st1 := [.int ((wtF q k 7)), .long (((digS (digS (digS (digS (digS (digS (digS (dmWs q (dm17 t q c bc n ar fi rn) k) ((wtF q k 0))) ((wtF q k 1))) ((wtF q k 2))) ((wtF q k 3))) ((wtF q k 4))) ((wtF q k 5))) ((wtF q k 6))) * 31))]) (cells1 := (((((((((10 + 8 * k) + 1) + 1) + 1) + 1) + 1) + 1) + 1) + 1)) (slots1 := (((((((((100 + 64 * k) + 8) + 8) + 8) + 8) + 8) + 8) + 8) + 8)) ⟨hx, hb, hml, hown, hts⟩ (c_X5_weirTold l D y Y Z Z2 0 t c q b bc n ar fi rn T k 7 (by omega) (by omega) _) (cwV 2 hts gX5_digest_X5_weirTold rfl rfl rfl (by decide +kernel) ⟨Nat.le_of_ble_eq_true rfl, Nat.le_of_ble_eq_true rfl⟩) hN hK hP (z_D_T hD) (ci := 5) (q0 := 0) rfl rfl rfl rfl hl.1 rfl (lv_room (Nat.le_of_ble_eq_true rfl)) dX5_digest_109 hS (z_sub_F hD hS hA z_in_r) ⟨by show ((((((((10 + 8 * k) + 1) + 1) + 1) + 1) + 1) + 1) + 1) + 1 ≤ 58; omega, by show ((((((((100 + 64 * k) + 8) + 8) + 8) + 8) + 8) + 8) + 8) + 8 ≤ 484; omega⟩ rfl rfl rfl (fun H locs hP1 hz hfr hS => ?_)
                                                              have hD := z_D_adr hD (show (zW Y Z Z2 y 0 t c q b bc n ar fi rn T).map Prod.fst = _ from rfl)
                                                              have hP := hP1
                                                              refine lv_i2l hx hb dX5_digest_112 rfl ?_
                                                              refine lv_ladd hx hb dX5_digest_113 ?_
                                                              refine zt_l (x' := (digS (digS (digS (digS (digS (digS (digS (digS (dmWs q (dm17 t q c bc n ar fi rn) k) ((wtF q k 0))) ((wtF q k 1))) ((wtF q k 2))) ((wtF q k 3))) ((wtF q k 4))) ((wtF q k 5))) ((wtF q k 6))) ((wtF q k 7)))) rfl ?_
                                                              refine lv_lstore_n (lv' := [(1, .long ((digS (digS (digS (digS (digS (digS (digS (digS (dmWs q (dm17 t q c bc n ar fi rn) k) ((wtF q k 0))) ((wtF q k 1))) ((wtF q k 2))) ((wtF q k 3))) ((wtF q k 4))) ((wtF q k 5))) ((wtF q k 6))) ((wtF q k 7))))), (4, .int 7), (3, .int (nI k)), (0, .ref (Y 0))]) hx hb dX5_digest_114 rfl hl (by decide) rfl (fun ls hl => ?_)
                                                              refine lv_iinc (v := 8) (lv' := [(4, .int 8), (1, .long ((digS (digS (digS (digS (digS (digS (digS (digS (dmWs q (dm17 t q c bc n ar fi rn) k) ((wtF q k 0))) ((wtF q k 1))) ((wtF q k 2))) ((wtF q k 3))) ((wtF q k 4))) ((wtF q k 5))) ((wtF q k 6))) ((wtF q k 7))))), (3, .int (nI k)), (0, .ref (Y 0))]) hx hb dX5_digest_115 hl (k := 1) rfl (by decide) (by decide) rfl (fun ls hl => ?_)
                                                              refine lv_goto (tgt := 93) hx hb dX5_digest_118 (by decide) ?_
                                                              refine lv_iload hx hb dX5_digest_93 (lv_at hl 0 rfl) ?_
                                                              refine lv_bipush (v := 7) hx hb dX5_digest_95 (by decide) ?_
                                                              refine lv_icmp_gt (tgt := 121) hx hb dX5_digest_97 (by decide) (fun c40 => ?_) (fun c40 => ?_)
                                                              · have d40 := Int32.not_le.mpr c40
                                                                refine lv_iinc (v := nI (k + 1)) (lv' := [(3, .int (nI (k + 1))), (4, .int 8), (1, .long ((digS (digS (digS (digS (digS (digS (digS (digS (dmWs q (dm17 t q c bc n ar fi rn) k) ((wtF q k 0))) ((wtF q k 1))) ((wtF q k 2))) ((wtF q k 3))) ((wtF q k 4))) ((wtF q k 5))) ((wtF q k 6))) ((wtF q k 7))))), (0, .ref (Y 0))]) hx hb dX5_digest_121 hl (k := 2) rfl (nI_1 _) (by decide) rfl (fun ls hl => ?_)
                                                                refine lv_goto (tgt := 82) hx hb dX5_digest_124 (by decide) ?_
                                                                have e41 : (dmWs q (dm17 t q c bc n ar fi rn) (k + 1)) = (digS (digS (digS (digS (digS (digS (digS (digS (dmWs q (dm17 t q c bc n ar fi rn) k) ((wtF q k 0))) ((wtF q k 1))) ((wtF q k 2))) ((wtF q k 3))) ((wtF q k 4))) ((wtF q k 5))) ((wtF q k 6))) ((wtF q k 7))) := rfl
                                                                refine W.cs (cells' := (10 + 8 * (k + 1))) (slots' := (100 + 64 * (k + 1))) (by omega) (by omega) ?_
                                                                refine ihk H locs ls ?_ ?_ hS ?_
                                                                · first | exact hP | (simp only [e41]; exact hP)
                                                                · first | exact hD | (simp only [e41]; exact hD)
                                                                · first | exact lv_sub hl [0, 2, 3] rfl | (simp only [e41]; exact lv_sub hl [0, 2, 3] rfl)
                                                              · exact absurd (by decide) c40
                                        refine W.cs (cells' := (10 + 8 * 0)) (slots' := (100 + 64 * 0)) (by omega) (by omega) ?_
                                        exact loop20 0 (Nat.zero_le _) H locs ls hP hD hS (lv_sub hl [0, 2, 5] rfl)
                                      · exact absurd (nI_le (a := 7) (b := 7) (by omega) (by omega)) c19
                      · exact absurd (by decide) c11
