set_option maxHeartbeats 4000000 in
set_option maxRecDepth 100000 in
theorem c_X2_isHeld (l : Launch) (D : va_G) (y : Nat → ClassId) (h : Nat) (q : Fld) (k : Nat)  : zR l yX2_isHeld wsX2_isHeld { frames := 0, cells := 0, slots := 0, locals := 0 } D y [.ref h] ([(h, .inr (2, qF q k))]) (some (.int (zb (heldB q k)))) := by
  refine zR.of (cc := cX2_isHeld) (maxL := 1) (ret := (some .boolean)) (own := RX2) (by decide) rfl (Nat.le_of_ble_eq_true rfl) rfl ?_
  intro p e s m args below meth cd ls hx hb hr hml hown hts hlocks hP hK hl
  have hl : lv_has ls 1 [(0, .ref h)] := hl
  have hf34 : (Cond.fieldLink RX2 34 "StakeWeirs$Weir" "owed" "I").before args s = true := hts _ (by decide +kernel)
  have hinX2 : ∀ w ∈ wsX20, w ∈ wsX2_isHeld := by decide +kernel
  refine lv_aload_n hx hb dX2_isHeld_0 rfl (lv_at hl 0 rfl) ?_
  refine va_get (D := D) (ci := 2) (v := .int ((q 7 k))) (C := RX2) (T := TX2) (N := 8) hx hb hts hinX2 hown hK hP (0) rfl rfl 7 (by decide) hf34 (fun _ h9 => h9) rfl dX2_isHeld_1 ?_
  refine lv_iconst (v := 3) hx hb dX2_isHeld_4 (by decide) ?_
  refine lv_icmp_ge (tgt := 12) hx hb dX2_isHeld_5 (by decide) (fun c1 => ?_) (fun c1 => ?_)
  · have d1 := Int32.not_lt.mpr c1
    refine lv_iconst (v := 0) hx hb dX2_isHeld_12 (by decide) ?_
    exact zR_z hx hb hr hlocks dX2_isHeld_13 (Or.inl rfl) (by simp [heldB, zb, c1, d1])
  · have d1 := Int32.not_le.mp c1
    refine lv_iconst (v := 1) hx hb dX2_isHeld_8 (by decide) ?_
    refine lv_goto (tgt := 13) hx hb dX2_isHeld_9 (by decide) ?_
    exact zR_z hx hb hr hlocks dX2_isHeld_13 (Or.inr rfl) (by simp [heldB, zb, c1, d1])
set_option maxHeartbeats 4000000 in
set_option maxRecDepth 100000 in
theorem c_X2_isFishing (l : Launch) (D : va_G) (y : Nat → ClassId) (h : Nat) (q : Fld) (k : Nat)  : zR l yX2_isFishing wsX2_isFishing { frames := 0, cells := 0, slots := 0, locals := 0 } D y [.ref h] ([(h, .inr (2, qF q k))]) (some (.int (zb (fishB q k)))) := by
  refine zR.of (cc := cX2_isFishing) (maxL := 1) (ret := (some .boolean)) (own := RX2) (by decide) rfl (Nat.le_of_ble_eq_true rfl) rfl ?_
  intro p e s m args below meth cd ls hx hb hr hml hown hts hlocks hP hK hl
  have hl : lv_has ls 1 [(0, .ref h)] := hl
  have hf34 : (Cond.fieldLink RX2 34 "StakeWeirs$Weir" "owed" "I").before args s = true := hts _ (by decide +kernel)
  have hinX2 : ∀ w ∈ wsX20, w ∈ wsX2_isFishing := by decide +kernel
  have hf30 : (Cond.fieldLink RX2 30 "StakeWeirs$Weir" "open" "Z").before args s = true := hts _ (by decide +kernel)
  refine lv_aload_n hx hb dX2_isFishing_0 rfl (lv_at hl 0 rfl) ?_
  refine va_get (D := D) (ci := 2) (v := .int ((q 7 k))) (C := RX2) (T := TX2) (N := 8) hx hb hts hinX2 hown hK hP (0) rfl rfl 7 (by decide) hf34 (fun _ h9 => h9) rfl dX2_isFishing_1 ?_
  refine lv_iconst (v := 3) hx hb dX2_isFishing_4 (by decide) ?_
  refine lv_icmp_ge (tgt := 19) hx hb dX2_isFishing_5 (by decide) (fun c1 => ?_) (fun c1 => ?_)
  · have d1 := Int32.not_lt.mpr c1
    refine lv_iconst (v := 0) hx hb dX2_isFishing_19 (by decide) ?_
    exact zR_z hx hb hr hlocks dX2_isFishing_20 (Or.inl rfl) (by simp [fishB, zb, c1, d1])
  · have d1 := Int32.not_le.mp c1
    refine lv_aload_n hx hb dX2_isFishing_8 rfl (lv_at hl 0 rfl) ?_
    refine va_get (D := D) (ci := 2) (v := .int ((q 6 k))) (C := RX2) (T := TX2) (N := 8) hx hb hts hinX2 hown hK hP (0) rfl rfl 6 (by decide) hf30 (fun _ h9 => h9) rfl dX2_isFishing_9 ?_
    refine lv_if_ne (tgt := 19) hx hb dX2_isFishing_12 (by decide) (fun c2 => ?_) (fun c2 => ?_)
    · have d2 := c2
      refine lv_iconst (v := 0) hx hb dX2_isFishing_19 (by decide) ?_
      exact zR_z hx hb hr hlocks dX2_isFishing_20 (Or.inl rfl) (by simp [fishB, zb, c1, d1, c2, d2])
    · have d2 := c2
      refine lv_iconst (v := 1) hx hb dX2_isFishing_15 (by decide) ?_
      refine lv_goto (tgt := 20) hx hb dX2_isFishing_16 (by decide) ?_
      exact zR_z hx hb hr hlocks dX2_isFishing_20 (Or.inr rfl) (by simp [fishB, zb, c1, d1, c2, d2])
set_option maxHeartbeats 4000000 in
set_option maxRecDepth 100000 in
theorem c_X2_isInWay (l : Launch) (D : va_G) (y : Nat → ClassId) (h : Nat) (q : Fld) (k : Nat) (wide : Int32)  : zR l yX2_isInWay wsX2_isInWay { frames := 1, cells := 0, slots := 0, locals := 20 } D y [.ref h, .int wide] ([(h, .inr (2, qF q k))]) (some (.int (zb (wayB q k wide)))) := by
  refine zR.of (cc := cX2_isInWay) (maxL := 2) (ret := (some .boolean)) (own := RX2) (by decide) rfl (Nat.le_of_ble_eq_true rfl) rfl ?_
  intro p e s m args below meth cd ls hx hb hr hml hown hts hlocks hP hK hl
  have hl : lv_has ls 2 [(0, .ref h), (1, .int wide)] := hl
  have hf15 : (Cond.fieldLink RX2 15 "StakeWeirs$Weir" "stakes" "I").before args s = true := hts _ (by decide +kernel)
  have hinX2 : ∀ w ∈ wsX20, w ∈ wsX2_isInWay := by decide +kernel
  refine lv_aload_n hx hb dX2_isInWay_0 rfl (lv_at hl 0 rfl) ?_
  refine zcRV (As := []) (rest := []) (st1 := [.int (zb (fishB q k))]) ⟨hx, hb, hml, hown, hts⟩ (c_X2_isFishing l D y (h) q k) (cwV 0 hts gX2_isInWay_X2_isFishing rfl rfl rfl (by decide +kernel) ⟨Nat.le_of_ble_eq_true rfl, Nat.le_of_ble_eq_true rfl⟩) hK (z_sub_P hP (z_in_1 (k := 0) rfl)) (ci := 2) (q0 := 0) rfl rfl rfl rfl hl.1 rfl (lv_room (Nat.le_of_ble_eq_true rfl)) dX2_isInWay_1 ⟨Nat.le_of_ble_eq_true rfl, Nat.le_of_ble_eq_true rfl⟩ rfl ?_
  refine lv_if_eq (tgt := 22) hx hb dX2_isInWay_4 (by decide) (fun c1 => ?_) (fun c1 => ?_)
  · have c1 : fishB q k = false := zb_f c1
    refine lv_iconst (v := 0) hx hb dX2_isInWay_22 (by decide) ?_
    exact zR_z hx hb hr hlocks dX2_isInWay_23 (Or.inl rfl) (by simp [wayB, zb, c1])
  · have c1 : fishB q k = true := zb_t c1
    refine lv_aload_n hx hb dX2_isInWay_7 rfl (lv_at hl 0 rfl) ?_
    refine va_get (D := D) (ci := 2) (v := .int ((q 1 k))) (C := RX2) (T := TX2) (N := 8) hx hb hts hinX2 hown hK hP (0) rfl rfl 1 (by decide) hf15 (fun _ h9 => h9) rfl dX2_isInWay_8 ?_
    refine lv_bipush (v := 30) hx hb dX2_isInWay_11 (by decide) ?_
    refine lv_iload_n hx hb dX2_isInWay_13 rfl (lv_at hl 1 rfl) ?_
    refine lv_isub hx hb dX2_isInWay_14 ?_
    refine lv_icmp_le (tgt := 22) hx hb dX2_isInWay_15 (by decide) (fun c2 => ?_) (fun c2 => ?_)
    · have d2 := Int32.not_lt.mpr c2
      refine lv_iconst (v := 0) hx hb dX2_isInWay_22 (by decide) ?_
      exact zR_z hx hb hr hlocks dX2_isInWay_23 (Or.inl rfl) (by simp [wayB, zb, c1, c2, d2])
    · have d2 := Int32.not_le.mp c2
      refine lv_iconst (v := 1) hx hb dX2_isInWay_18 (by decide) ?_
      refine lv_goto (tgt := 23) hx hb dX2_isInWay_19 (by decide) ?_
      exact zR_z hx hb hr hlocks dX2_isInWay_23 (Or.inr rfl) (by simp [wayB, zb, c1, c2, d2])
set_option maxHeartbeats 4000000 in
set_option maxRecDepth 100000 in
theorem c_X2_fact_0 (l : Launch) (D : va_G) (y : Nat → ClassId) (h : Nat) (q : Fld) (k : Nat)  : zR l yX2_fact wsX2_fact { frames := 0, cells := 0, slots := 0, locals := 0 } D y [.ref h, .int 0] ([(h, .inr (2, qF q k))]) (some (.int (factW q k 0))) := by
  refine zR.of (cc := cX2_fact) (maxL := 2) (ret := (some .int)) (own := RX2) (by decide) rfl (Nat.le_of_ble_eq_true rfl) rfl ?_
  intro p e s m args below meth cd ls hx hb hr hml hown hts hlocks hP hK hl
  have hl : lv_has ls 2 [(0, .ref h), (1, .int 0)] := hl
  have hf9 : (Cond.fieldLink RX2 9 "StakeWeirs$Weir" "place" "I").before args s = true := hts _ (by decide +kernel)
  have hinX2 : ∀ w ∈ wsX20, w ∈ wsX2_fact := by decide +kernel
  refine lv_iload_n hx hb dX2_fact_0 rfl (lv_at hl 1 rfl) ?_
  refine lv_tableIn (off := 43) (tgt := 44) hx hb dX2_fact_1 (by decide) (by decide) rfl (by decide) ?_
  refine lv_aload_n hx hb dX2_fact_44 rfl (lv_at hl 0 rfl) ?_
  refine va_get (D := D) (ci := 2) (v := .int ((q 0 k))) (C := RX2) (T := TX2) (N := 8) hx hb hts hinX2 hown hK hP (0) rfl rfl 0 (by decide) hf9 (fun _ h9 => h9) rfl dX2_fact_45 ?_
  exact zR_i hx hb hr hlocks dX2_fact_48 rfl
set_option maxHeartbeats 4000000 in
set_option maxRecDepth 100000 in
theorem c_X2_fact_1 (l : Launch) (D : va_G) (y : Nat → ClassId) (h : Nat) (q : Fld) (k : Nat)  : zR l yX2_fact wsX2_fact { frames := 0, cells := 0, slots := 0, locals := 0 } D y [.ref h, .int 1] ([(h, .inr (2, qF q k))]) (some (.int (factW q k 1))) := by
  refine zR.of (cc := cX2_fact) (maxL := 2) (ret := (some .int)) (own := RX2) (by decide) rfl (Nat.le_of_ble_eq_true rfl) rfl ?_
  intro p e s m args below meth cd ls hx hb hr hml hown hts hlocks hP hK hl
  have hl : lv_has ls 2 [(0, .ref h), (1, .int 1)] := hl
  have hf15 : (Cond.fieldLink RX2 15 "StakeWeirs$Weir" "stakes" "I").before args s = true := hts _ (by decide +kernel)
  have hinX2 : ∀ w ∈ wsX20, w ∈ wsX2_fact := by decide +kernel
  refine lv_iload_n hx hb dX2_fact_0 rfl (lv_at hl 1 rfl) ?_
  refine lv_tableIn (off := 48) (tgt := 49) hx hb dX2_fact_1 (by decide) (by decide) rfl (by decide) ?_
  refine lv_aload_n hx hb dX2_fact_49 rfl (lv_at hl 0 rfl) ?_
  refine va_get (D := D) (ci := 2) (v := .int ((q 1 k))) (C := RX2) (T := TX2) (N := 8) hx hb hts hinX2 hown hK hP (0) rfl rfl 1 (by decide) hf15 (fun _ h9 => h9) rfl dX2_fact_50 ?_
  exact zR_i hx hb hr hlocks dX2_fact_53 rfl
set_option maxHeartbeats 4000000 in
set_option maxRecDepth 100000 in
theorem c_X2_fact_2 (l : Launch) (D : va_G) (y : Nat → ClassId) (h : Nat) (q : Fld) (k : Nat)  : zR l yX2_fact wsX2_fact { frames := 0, cells := 0, slots := 0, locals := 0 } D y [.ref h, .int 2] ([(h, .inr (2, qF q k))]) (some (.int (factW q k 2))) := by
  refine zR.of (cc := cX2_fact) (maxL := 2) (ret := (some .int)) (own := RX2) (by decide) rfl (Nat.le_of_ble_eq_true rfl) rfl ?_
  intro p e s m args below meth cd ls hx hb hr hml hown hts hlocks hP hK hl
  have hl : lv_has ls 2 [(0, .ref h), (1, .int 2)] := hl
  have hf18 : (Cond.fieldLink RX2 18 "StakeWeirs$Weir" "wattle" "I").before args s = true := hts _ (by decide +kernel)
  have hinX2 : ∀ w ∈ wsX20, w ∈ wsX2_fact := by decide +kernel
  refine lv_iload_n hx hb dX2_fact_0 rfl (lv_at hl 1 rfl) ?_
  refine lv_tableIn (off := 53) (tgt := 54) hx hb dX2_fact_1 (by decide) (by decide) rfl (by decide) ?_
  refine lv_aload_n hx hb dX2_fact_54 rfl (lv_at hl 0 rfl) ?_
  refine va_get (D := D) (ci := 2) (v := .int ((q 2 k))) (C := RX2) (T := TX2) (N := 8) hx hb hts hinX2 hown hK hP (0) rfl rfl 2 (by decide) hf18 (fun _ h9 => h9) rfl dX2_fact_55 ?_
  exact zR_i hx hb hr hlocks dX2_fact_58 rfl
set_option maxHeartbeats 4000000 in
set_option maxRecDepth 100000 in
theorem c_X2_fact_3 (l : Launch) (D : va_G) (y : Nat → ClassId) (h : Nat) (q : Fld) (k : Nat)  : zR l yX2_fact wsX2_fact { frames := 0, cells := 0, slots := 0, locals := 0 } D y [.ref h, .int 3] ([(h, .inr (2, qF q k))]) (some (.int (factW q k 3))) := by
  refine zR.of (cc := cX2_fact) (maxL := 2) (ret := (some .int)) (own := RX2) (by decide) rfl (Nat.le_of_ble_eq_true rfl) rfl ?_
  intro p e s m args below meth cd ls hx hb hr hml hown hts hlocks hP hK hl
  have hl : lv_has ls 2 [(0, .ref h), (1, .int 3)] := hl
  have hf21 : (Cond.fieldLink RX2 21 "StakeWeirs$Weir" "rent" "I").before args s = true := hts _ (by decide +kernel)
  have hinX2 : ∀ w ∈ wsX20, w ∈ wsX2_fact := by decide +kernel
  refine lv_iload_n hx hb dX2_fact_0 rfl (lv_at hl 1 rfl) ?_
  refine lv_tableIn (off := 58) (tgt := 59) hx hb dX2_fact_1 (by decide) (by decide) rfl (by decide) ?_
  refine lv_aload_n hx hb dX2_fact_59 rfl (lv_at hl 0 rfl) ?_
  refine va_get (D := D) (ci := 2) (v := .int ((q 3 k))) (C := RX2) (T := TX2) (N := 8) hx hb hts hinX2 hown hK hP (0) rfl rfl 3 (by decide) hf21 (fun _ h9 => h9) rfl dX2_fact_60 ?_
  exact zR_i hx hb hr hlocks dX2_fact_63 rfl
set_option maxHeartbeats 4000000 in
set_option maxRecDepth 100000 in
theorem c_X2_fact_4 (l : Launch) (D : va_G) (y : Nat → ClassId) (h : Nat) (q : Fld) (k : Nat)  : zR l yX2_fact wsX2_fact { frames := 0, cells := 0, slots := 0, locals := 0 } D y [.ref h, .int 4] ([(h, .inr (2, qF q k))]) (some (.int (factW q k 4))) := by
  refine zR.of (cc := cX2_fact) (maxL := 2) (ret := (some .int)) (own := RX2) (by decide) rfl (Nat.le_of_ble_eq_true rfl) rfl ?_
  intro p e s m args below meth cd ls hx hb hr hml hown hts hlocks hP hK hl
  have hl : lv_has ls 2 [(0, .ref h), (1, .int 4)] := hl
  have hf24 : (Cond.fieldLink RX2 24 "StakeWeirs$Weir" "coins" "I").before args s = true := hts _ (by decide +kernel)
  have hinX2 : ∀ w ∈ wsX20, w ∈ wsX2_fact := by decide +kernel
  refine lv_iload_n hx hb dX2_fact_0 rfl (lv_at hl 1 rfl) ?_
  refine lv_tableIn (off := 63) (tgt := 64) hx hb dX2_fact_1 (by decide) (by decide) rfl (by decide) ?_
  refine lv_aload_n hx hb dX2_fact_64 rfl (lv_at hl 0 rfl) ?_
  refine va_get (D := D) (ci := 2) (v := .int ((q 4 k))) (C := RX2) (T := TX2) (N := 8) hx hb hts hinX2 hown hK hP (0) rfl rfl 4 (by decide) hf24 (fun _ h9 => h9) rfl dX2_fact_65 ?_
  exact zR_i hx hb hr hlocks dX2_fact_68 rfl
set_option maxHeartbeats 4000000 in
set_option maxRecDepth 100000 in
theorem c_X2_fact_5 (l : Launch) (D : va_G) (y : Nat → ClassId) (h : Nat) (q : Fld) (k : Nat)  : zR l yX2_fact wsX2_fact { frames := 0, cells := 0, slots := 0, locals := 0 } D y [.ref h, .int 5] ([(h, .inr (2, qF q k))]) (some (.int (factW q k 5))) := by
  refine zR.of (cc := cX2_fact) (maxL := 2) (ret := (some .int)) (own := RX2) (by decide) rfl (Nat.le_of_ble_eq_true rfl) rfl ?_
  intro p e s m args below meth cd ls hx hb hr hml hown hts hlocks hP hK hl
  have hl : lv_has ls 2 [(0, .ref h), (1, .int 5)] := hl
  have hf27 : (Cond.fieldLink RX2 27 "StakeWeirs$Weir" "eels" "I").before args s = true := hts _ (by decide +kernel)
  have hinX2 : ∀ w ∈ wsX20, w ∈ wsX2_fact := by decide +kernel
  refine lv_iload_n hx hb dX2_fact_0 rfl (lv_at hl 1 rfl) ?_
  refine lv_tableIn (off := 68) (tgt := 69) hx hb dX2_fact_1 (by decide) (by decide) rfl (by decide) ?_
  refine lv_aload_n hx hb dX2_fact_69 rfl (lv_at hl 0 rfl) ?_
  refine va_get (D := D) (ci := 2) (v := .int ((q 5 k))) (C := RX2) (T := TX2) (N := 8) hx hb hts hinX2 hown hK hP (0) rfl rfl 5 (by decide) hf27 (fun _ h9 => h9) rfl dX2_fact_70 ?_
  exact zR_i hx hb hr hlocks dX2_fact_73 rfl
set_option maxHeartbeats 4000000 in
set_option maxRecDepth 100000 in
theorem c_X2_fact_6 (l : Launch) (D : va_G) (y : Nat → ClassId) (h : Nat) (q : Fld) (k : Nat)  : zR l yX2_fact wsX2_fact { frames := 0, cells := 0, slots := 0, locals := 0 } D y [.ref h, .int 6] ([(h, .inr (2, qF q k))]) (some (.int (factW q k 6))) := by
  refine zR.of (cc := cX2_fact) (maxL := 2) (ret := (some .int)) (own := RX2) (by decide) rfl (Nat.le_of_ble_eq_true rfl) rfl ?_
  intro p e s m args below meth cd ls hx hb hr hml hown hts hlocks hP hK hl
  have hl : lv_has ls 2 [(0, .ref h), (1, .int 6)] := hl
  have hf30 : (Cond.fieldLink RX2 30 "StakeWeirs$Weir" "open" "Z").before args s = true := hts _ (by decide +kernel)
  have hinX2 : ∀ w ∈ wsX20, w ∈ wsX2_fact := by decide +kernel
  refine lv_iload_n hx hb dX2_fact_0 rfl (lv_at hl 1 rfl) ?_
  refine lv_tableIn (off := 73) (tgt := 74) hx hb dX2_fact_1 (by decide) (by decide) rfl (by decide) ?_
  refine lv_aload_n hx hb dX2_fact_74 rfl (lv_at hl 0 rfl) ?_
  refine va_get (D := D) (ci := 2) (v := .int ((q 6 k))) (C := RX2) (T := TX2) (N := 8) hx hb hts hinX2 hown hK hP (0) rfl rfl 6 (by decide) hf30 (fun _ h9 => h9) rfl dX2_fact_75 ?_
  refine lv_if_eq (tgt := 85) hx hb dX2_fact_78 (by decide) (fun c1 => ?_) (fun c1 => ?_)
  · have d1 := c1
    refine lv_iconst (v := 0) hx hb dX2_fact_85 (by decide) ?_
    exact zR_i hx hb hr hlocks dX2_fact_86 (by simp [factW, c1, d1])
  · have d1 := c1
    refine lv_iconst (v := 1) hx hb dX2_fact_81 (by decide) ?_
    refine lv_goto (tgt := 86) hx hb dX2_fact_82 (by decide) ?_
    exact zR_i hx hb hr hlocks dX2_fact_86 (by simp [factW, c1, d1])
set_option maxHeartbeats 4000000 in
set_option maxRecDepth 100000 in
theorem c_X2_fact_7 (l : Launch) (D : va_G) (y : Nat → ClassId) (h : Nat) (q : Fld) (k : Nat)  : zR l yX2_fact wsX2_fact { frames := 0, cells := 0, slots := 0, locals := 0 } D y [.ref h, .int 7] ([(h, .inr (2, qF q k))]) (some (.int (factW q k 7))) := by
  refine zR.of (cc := cX2_fact) (maxL := 2) (ret := (some .int)) (own := RX2) (by decide) rfl (Nat.le_of_ble_eq_true rfl) rfl ?_
  intro p e s m args below meth cd ls hx hb hr hml hown hts hlocks hP hK hl
  have hl : lv_has ls 2 [(0, .ref h), (1, .int 7)] := hl
  have hf34 : (Cond.fieldLink RX2 34 "StakeWeirs$Weir" "owed" "I").before args s = true := hts _ (by decide +kernel)
  have hinX2 : ∀ w ∈ wsX20, w ∈ wsX2_fact := by decide +kernel
  refine lv_iload_n hx hb dX2_fact_0 rfl (lv_at hl 1 rfl) ?_
  refine lv_tableOut (tgt := 87) hx hb dX2_fact_1 (by decide) (by decide) ?_
  refine lv_aload_n hx hb dX2_fact_87 rfl (lv_at hl 0 rfl) ?_
  refine va_get (D := D) (ci := 2) (v := .int ((q 7 k))) (C := RX2) (T := TX2) (N := 8) hx hb hts hinX2 hown hK hP (0) rfl rfl 7 (by decide) hf34 (fun _ h9 => h9) rfl dX2_fact_88 ?_
  exact zR_i hx hb hr hlocks dX2_fact_91 rfl
set_option maxHeartbeats 4000000 in
set_option maxRecDepth 100000 in
theorem c_X2_loseWattle (l : Launch) (D : va_G) (y : Nat → ClassId) (h : Nat) (q : Fld) (k : Nat) (x : Int32)  (sz : Nat) : zM l yX2_loseWattle wsX2_loseWattle { frames := 0, cells := 0, slots := 0, locals := 0 } D y [.ref h, .int x] ([(h, .inr (2, qF q k))]) sz (none) ([(h, .inr (2, qF (loseW q k x) k))]) 0 0 := by
  refine zM.of (cc := cX2_loseWattle) (maxL := 2) (ret := none) (own := RX2) (by decide) rfl (Nat.le_of_ble_eq_true rfl) rfl ?_
  intro p e s m args below meth cd ls A hx hb hr hml hown hts hlocks hP hK hD hA hS hl hin
  have hS0 := hS
  have hl : lv_has ls 2 [(0, .ref h), (1, .int x)] := hl
  have hf18 : (Cond.fieldLink RX2 18 "StakeWeirs$Weir" "wattle" "I").before args s = true := hts _ (by decide +kernel)
  have hinX2 : ∀ w ∈ wsX20, w ∈ wsX2_loseWattle := by decide +kernel
  refine lv_aload_n hx hb dX2_loseWattle_0 rfl (lv_at hl 0 rfl) ?_
  refine lv_aload_n hx hb dX2_loseWattle_1 rfl (lv_at hl 0 rfl) ?_
  refine va_get (D := D) (ci := 2) (v := .int ((q 2 k))) (C := RX2) (T := TX2) (N := 8) hx hb hts hinX2 hown hK hP (0) rfl rfl 2 (by decide) hf18 (fun _ h9 => h9) rfl dX2_loseWattle_2 ?_
  refine lv_iload_n hx hb dX2_loseWattle_5 rfl (lv_at hl 1 rfl) ?_
  refine lv_icmp_le (tgt := 18) hx hb dX2_loseWattle_6 (by decide) (fun c1 => ?_) (fun c1 => ?_)
  · have d1 := Int32.not_lt.mpr c1
    refine lv_iconst (v := 0) hx hb dX2_loseWattle_18 (by decide) ?_
    refine va_put (D := D) (ci := 2) (v := .int 0) (ty := .int) (C := RX2) (T := TX2) (N := 8) hx hb hts hinX2 tyX2 tyX2_ok nmX2 hown hK hP hD hS (0) rfl rfl 2 (by decide) hf18 (fun _ h9 => h9) rfl (by decide +kernel) rfl rfl (Nat.le_of_ble_eq_true rfl) dX2_loseWattle_19 (fun H locs hP hD hS => ?_)
    have hP : va_P D vwCl ([(h, .inr (2, qF (up2 q 2 k 0) k))]) H := by rw [← qF_2]; exact hP
    have hD : va_D A ([(h, .inr (2, qF (up2 q 2 k 0) k))]) := by rw [← qF_2]; exact hD
    exact zM_v hx hb hr hlocks hS dX2_loseWattle_22 rfl (by rw [show loseW q k x = (up2 q 2 k 0) from by simp [loseW, loseI, c1, d1]]; exact hP)
  · have d1 := Int32.not_le.mp c1
    refine lv_aload_n hx hb dX2_loseWattle_9 rfl (lv_at hl 0 rfl) ?_
    refine va_get (D := D) (ci := 2) (v := .int ((q 2 k))) (C := RX2) (T := TX2) (N := 8) hx hb hts hinX2 hown hK hP (0) rfl rfl 2 (by decide) hf18 (fun _ h9 => h9) rfl dX2_loseWattle_10 ?_
    refine lv_iload_n hx hb dX2_loseWattle_13 rfl (lv_at hl 1 rfl) ?_
    refine lv_isub hx hb dX2_loseWattle_14 ?_
    refine lv_goto (tgt := 19) hx hb dX2_loseWattle_15 (by decide) ?_
    refine va_put (D := D) (ci := 2) (v := .int (((q 2 k) - x))) (ty := .int) (C := RX2) (T := TX2) (N := 8) hx hb hts hinX2 tyX2 tyX2_ok nmX2 hown hK hP hD hS (0) rfl rfl 2 (by decide) hf18 (fun _ h9 => h9) rfl (by decide +kernel) rfl rfl (Nat.le_of_ble_eq_true rfl) dX2_loseWattle_19 (fun H locs hP hD hS => ?_)
    have hP : va_P D vwCl ([(h, .inr (2, qF (up2 q 2 k ((q 2 k) - x)) k))]) H := by rw [← qF_2]; exact hP
    have hD : va_D A ([(h, .inr (2, qF (up2 q 2 k ((q 2 k) - x)) k))]) := by rw [← qF_2]; exact hD
    exact zM_v hx hb hr hlocks hS dX2_loseWattle_22 rfl (by rw [show loseW q k x = (up2 q 2 k ((q 2 k) - x)) from by simp [loseW, loseI, c1, d1]]; exact hP)
set_option maxHeartbeats 4000000 in
set_option maxRecDepth 100000 in
theorem c_X2_catchOf (l : Launch) (D : va_G) (y : Nat → ClassId) (h : Nat) (q : Fld) (k : Nat) (x : Int32)  (sz : Nat) : zM l yX2_catchOf wsX2_catchOf { frames := 1, cells := 0, slots := 0, locals := 21 } D y [.ref h, .int x] ([(h, .inr (2, qF q k))]) sz (some (.int (caughtI q k x))) ([(h, .inr (2, qF (catchW q k x) k))]) 0 0 := by
  refine zM.of (cc := cX2_catchOf) (maxL := 3) (ret := (some .int)) (own := RX2) (by decide) rfl (Nat.le_of_ble_eq_true rfl) rfl ?_
  intro p e s m args below meth cd ls A hx hb hr hml hown hts hlocks hP hK hD hA hS hl hin
  have hS0 := hS
  have hl : lv_has ls 3 [(0, .ref h), (1, .int x)] := hl
  have hf15 : (Cond.fieldLink RX2 15 "StakeWeirs$Weir" "stakes" "I").before args s = true := hts _ (by decide +kernel)
  have hinX2 : ∀ w ∈ wsX20, w ∈ wsX2_catchOf := by decide +kernel
  have hf18 : (Cond.fieldLink RX2 18 "StakeWeirs$Weir" "wattle" "I").before args s = true := hts _ (by decide +kernel)
  have hf27 : (Cond.fieldLink RX2 27 "StakeWeirs$Weir" "eels" "I").before args s = true := hts _ (by decide +kernel)
  have hlmin41 : (Cond.methodLink RX2 41 Lib.Math.min.name).before args s = true := hts _ (by decide +kernel)
  have hstmin : (Cond.static Lib.Math.min.name).before args s = true := hts _ (by decide +kernel)
  have hiM : (Cond.initialized "java/lang/Math").before args s = true := hts _ (by decide +kernel)
  have hcmin : (Cond.code Lib.Math.min.name Lib.Math.min.code 2 (some .int)).before args s = true := hts _ (by decide +kernel)
  refine lv_iload_n hx hb dX2_catchOf_0 rfl (lv_at hl 1 rfl) ?_
  refine lv_aload_n hx hb dX2_catchOf_1 rfl (lv_at hl 0 rfl) ?_
  refine va_get (D := D) (ci := 2) (v := .int ((q 1 k))) (C := RX2) (T := TX2) (N := 8) hx hb hts hinX2 hown hK hP (0) rfl rfl 1 (by decide) hf15 (fun _ h9 => h9) rfl dX2_catchOf_2 ?_
  refine lv_imul hx hb dX2_catchOf_5 ?_
  refine lv_aload_n hx hb dX2_catchOf_6 rfl (lv_at hl 0 rfl) ?_
  refine va_get (D := D) (ci := 2) (v := .int ((q 2 k))) (C := RX2) (T := TX2) (N := 8) hx hb hts hinX2 hown hK hP (0) rfl rfl 2 (by decide) hf18 (fun _ h9 => h9) rfl dX2_catchOf_7 ?_
  refine lv_imul hx hb dX2_catchOf_10 ?_
  refine lv_sipush (v := 3000) hx hb dX2_catchOf_11 (by decide) ?_
  refine lv_idiv hx hb dX2_catchOf_14 (by decide) ?_
  refine lv_sipush (v := 200) hx hb dX2_catchOf_15 (by decide) ?_
  refine lv_aload_n hx hb dX2_catchOf_18 rfl (lv_at hl 0 rfl) ?_
  refine va_get (D := D) (ci := 2) (v := .int ((q 5 k))) (C := RX2) (T := TX2) (N := 8) hx hb hts hinX2 hown hK hP (0) rfl rfl 5 (by decide) hf27 (fun _ h9 => h9) rfl dX2_catchOf_19 ?_
  refine lv_isub hx hb dX2_catchOf_22 ?_
  refine va_mmin hx hb (hml.trans hl.1.symm) hown hlmin41 hstmin hiM hcmin (Nat.le_of_ble_eq_true rfl) (Nat.le_of_ble_eq_true rfl) (Nat.le_of_ble_eq_true rfl) (Nat.le_of_ble_eq_true rfl) dX2_catchOf_23 ?_
  refine lv_istore_n (lv' := [(2, .int ((minI ((((x * (q 1 k)) * (q 2 k)) / 3000)) ((200 - (q 5 k)))))), (0, .ref h), (1, .int x)]) hx hb dX2_catchOf_26 rfl hl (by decide) rfl (fun ls hl => ?_)
  refine lv_aload_n hx hb dX2_catchOf_27 rfl (lv_at hl 1 rfl) ?_
  refine lv_dup hx hb dX2_catchOf_28 rfl ?_
  refine va_get (D := D) (ci := 2) (v := .int ((q 5 k))) (C := RX2) (T := TX2) (N := 8) hx hb hts hinX2 hown hK hP (0) rfl rfl 5 (by decide) hf27 (fun _ h9 => h9) rfl dX2_catchOf_29 ?_
  refine lv_iload_n hx hb dX2_catchOf_32 rfl (lv_at hl 0 rfl) ?_
  refine lv_iadd hx hb dX2_catchOf_33 ?_
  refine va_put (D := D) (ci := 2) (v := .int (((q 5 k) + (minI ((((x * (q 1 k)) * (q 2 k)) / 3000)) ((200 - (q 5 k))))))) (ty := .int) (C := RX2) (T := TX2) (N := 8) hx hb hts hinX2 tyX2 tyX2_ok nmX2 hown hK hP hD hS (0) rfl rfl 5 (by decide) hf27 (fun _ h9 => h9) rfl (by decide +kernel) rfl rfl (Nat.le_of_ble_eq_true rfl) dX2_catchOf_34 (fun H locs hP hD hS => ?_)
  have hP : va_P D vwCl ([(h, .inr (2, qF (up2 q 5 k ((q 5 k) + (minI ((((x * (q 1 k)) * (q 2 k)) / 3000)) ((200 - (q 5 k)))))) k))]) H := by rw [← qF_5]; exact hP
  have hD : va_D A ([(h, .inr (2, qF (up2 q 5 k ((q 5 k) + (minI ((((x * (q 1 k)) * (q 2 k)) / 3000)) ((200 - (q 5 k)))))) k))]) := by rw [← qF_5]; exact hD
  refine lv_iload_n hx hb dX2_catchOf_37 rfl (lv_at hl 0 rfl) ?_
  exact zM_i hx hb hr hlocks hS dX2_catchOf_38 rfl hP
set_option maxHeartbeats 4000000 in
set_option maxRecDepth 100000 in
theorem c_X2_breakFor (l : Launch) (D : va_G) (y : Nat → ClassId) (h : Nat) (q : Fld) (k : Nat) (x : Int32)  (sz : Nat) : zM l yX2_breakFor wsX2_breakFor { frames := 1, cells := 0, slots := 0, locals := 21 } D y [.ref h, .int x] ([(h, .inr (2, qF q k))]) sz (some (.int (fineI q k))) ([(h, .inr (2, qF (breakW q k x) k))]) 0 0 := by
  refine zM.of (cc := cX2_breakFor) (maxL := 3) (ret := (some .int)) (own := RX2) (by decide) rfl (Nat.le_of_ble_eq_true rfl) rfl ?_
  intro p e s m args below meth cd ls A hx hb hr hml hown hts hlocks hP hK hD hA hS hl hin
  have hS0 := hS
  have hl : lv_has ls 3 [(0, .ref h), (1, .int x)] := hl
  have hf15 : (Cond.fieldLink RX2 15 "StakeWeirs$Weir" "stakes" "I").before args s = true := hts _ (by decide +kernel)
  have hinX2 : ∀ w ∈ wsX20, w ∈ wsX2_breakFor := by decide +kernel
  have hf24 : (Cond.fieldLink RX2 24 "StakeWeirs$Weir" "coins" "I").before args s = true := hts _ (by decide +kernel)
  have hlmin41 : (Cond.methodLink RX2 41 Lib.Math.min.name).before args s = true := hts _ (by decide +kernel)
  have hstmin : (Cond.static Lib.Math.min.name).before args s = true := hts _ (by decide +kernel)
  have hiM : (Cond.initialized "java/lang/Math").before args s = true := hts _ (by decide +kernel)
  have hcmin : (Cond.code Lib.Math.min.name Lib.Math.min.code 2 (some .int)).before args s = true := hts _ (by decide +kernel)
  refine lv_aload_n hx hb dX2_breakFor_0 rfl (lv_at hl 0 rfl) ?_
  refine lv_bipush (v := 30) hx hb dX2_breakFor_1 (by decide) ?_
  refine lv_iload_n hx hb dX2_breakFor_3 rfl (lv_at hl 1 rfl) ?_
  refine lv_isub hx hb dX2_breakFor_4 ?_
  refine va_put (D := D) (ci := 2) (v := .int ((30 - x))) (ty := .int) (C := RX2) (T := TX2) (N := 8) hx hb hts hinX2 tyX2 tyX2_ok nmX2 hown hK hP hD hS (0) rfl rfl 1 (by decide) hf15 (fun _ h9 => h9) rfl (by decide +kernel) rfl rfl (Nat.le_of_ble_eq_true rfl) dX2_breakFor_5 (fun H locs hP hD hS => ?_)
  have hP : va_P D vwCl ([(h, .inr (2, qF (up2 q 1 k (30 - x)) k))]) H := by rw [← qF_1]; exact hP
  have hD : va_D A ([(h, .inr (2, qF (up2 q 1 k (30 - x)) k))]) := by rw [← qF_1]; exact hD
  refine lv_aload_n hx hb dX2_breakFor_8 rfl (lv_at hl 0 rfl) ?_
  refine lv_bipush (v := 20) hx hb dX2_breakFor_9 (by decide) ?_
  refine zcMV (As := [.int 20]) (rest := []) (st1 := []) (cells1 := 0) (slots1 := 0) ⟨hx, hb, hml, hown, hts⟩ (c_X2_loseWattle l D y (h) (up2 q 1 k (30 - x)) k 20 _) (cwV 1 hts gX2_breakFor_X2_loseWattle rfl rfl rfl (by decide +kernel) ⟨Nat.le_of_ble_eq_true rfl, Nat.le_of_ble_eq_true rfl⟩) hK (z_sub_P hP (z_in_1 (k := 0) rfl)) z_D_1 (ci := 2) (q0 := 0) rfl rfl rfl rfl hl.1 rfl (lv_room (Nat.le_of_ble_eq_true rfl)) dX2_breakFor_11 hS (z_sub_F hD hS hA (z_in_1 (k := 0) rfl)) ⟨Nat.le_of_ble_eq_true rfl, Nat.le_of_ble_eq_true rfl⟩ rfl rfl rfl (fun H locs hP1 hz hfr hS => ?_)
  obtain ⟨hP, hD⟩ := z_one hP hD (k := 0) rfl rfl hP1 hfr
  have hP : va_P D vwCl ([(h, .inr (2, qF (loseW (up2 q 1 k (30 - x)) k 20) k))]) H := hP
  have hD : va_D A ([(h, .inr (2, qF (loseW (up2 q 1 k (30 - x)) k 20) k))]) := hD
  refine lv_iconst (v := 3) hx hb dX2_breakFor_14 (by decide) ?_
  refine lv_aload_n hx hb dX2_breakFor_15 rfl (lv_at hl 0 rfl) ?_
  refine va_get (D := D) (ci := 2) (v := .int (((loseW (up2 q 1 k (30 - x)) k 20) 4 k))) (C := RX2) (T := TX2) (N := 8) hx hb hts hinX2 hown hK hP (0) rfl rfl 4 (by decide) hf24 (fun _ h9 => h9) rfl dX2_breakFor_16 ?_
  refine va_mmin hx hb (hml.trans hl.1.symm) hown hlmin41 hstmin hiM hcmin (Nat.le_of_ble_eq_true rfl) (Nat.le_of_ble_eq_true rfl) (Nat.le_of_ble_eq_true rfl) (Nat.le_of_ble_eq_true rfl) dX2_breakFor_19 ?_
  refine lv_istore_n (lv' := [(2, .int ((minI 3 (((loseW (up2 q 1 k (30 - x)) k 20) 4 k))))), (0, .ref h), (1, .int x)]) hx hb dX2_breakFor_22 rfl hl (by decide) rfl (fun ls hl => ?_)
  refine lv_aload_n hx hb dX2_breakFor_23 rfl (lv_at hl 1 rfl) ?_
  refine lv_dup hx hb dX2_breakFor_24 rfl ?_
  refine va_get (D := D) (ci := 2) (v := .int (((loseW (up2 q 1 k (30 - x)) k 20) 4 k))) (C := RX2) (T := TX2) (N := 8) hx hb hts hinX2 hown hK hP (0) rfl rfl 4 (by decide) hf24 (fun _ h9 => h9) rfl dX2_breakFor_25 ?_
  refine lv_iload_n hx hb dX2_breakFor_28 rfl (lv_at hl 0 rfl) ?_
  refine lv_isub hx hb dX2_breakFor_29 ?_
  refine va_put (D := D) (ci := 2) (v := .int ((((loseW (up2 q 1 k (30 - x)) k 20) 4 k) - (minI 3 (((loseW (up2 q 1 k (30 - x)) k 20) 4 k)))))) (ty := .int) (C := RX2) (T := TX2) (N := 8) hx hb hts hinX2 tyX2 tyX2_ok nmX2 hown hK hP hD hS (0) rfl rfl 4 (by decide) hf24 (fun _ h9 => h9) rfl (by decide +kernel) rfl rfl (Nat.le_of_ble_eq_true rfl) dX2_breakFor_30 (fun H locs hP hD hS => ?_)
  have hP : va_P D vwCl ([(h, .inr (2, qF (up2 (loseW (up2 q 1 k (30 - x)) k 20) 4 k (((loseW (up2 q 1 k (30 - x)) k 20) 4 k) - (minI 3 (((loseW (up2 q 1 k (30 - x)) k 20) 4 k))))) k))]) H := by rw [← qF_4]; exact hP
  have hD : va_D A ([(h, .inr (2, qF (up2 (loseW (up2 q 1 k (30 - x)) k 20) 4 k (((loseW (up2 q 1 k (30 - x)) k 20) 4 k) - (minI 3 (((loseW (up2 q 1 k (30 - x)) k 20) 4 k))))) k))]) := by rw [← qF_4]; exact hD
  refine lv_iload_n hx hb dX2_breakFor_33 rfl (lv_at hl 0 rfl) ?_
  exact zM_i hx hb hr hlocks hS dX2_breakFor_34 rfl hP
set_option maxHeartbeats 4000000 in
set_option maxRecDepth 100000 in
theorem c_X2_payRent (l : Launch) (D : va_G) (y : Nat → ClassId) (h : Nat) (q : Fld) (k : Nat)  (sz : Nat) : zM l yX2_payRent wsX2_payRent { frames := 0, cells := 0, slots := 0, locals := 0 } D y [.ref h] ([(h, .inr (2, qF q k))]) sz (some (.int (paidI q k))) ([(h, .inr (2, qF (payW q k) k))]) 0 0 := by
  refine zM.of (cc := cX2_payRent) (maxL := 1) (ret := (some .int)) (own := RX2) (by decide) rfl (Nat.le_of_ble_eq_true rfl) rfl ?_
  intro p e s m args below meth cd ls A hx hb hr hml hown hts hlocks hP hK hD hA hS hl hin
  have hS0 := hS
  have hl : lv_has ls 1 [(0, .ref h)] := hl
  have hf24 : (Cond.fieldLink RX2 24 "StakeWeirs$Weir" "coins" "I").before args s = true := hts _ (by decide +kernel)
  have hinX2 : ∀ w ∈ wsX20, w ∈ wsX2_payRent := by decide +kernel
  have hf21 : (Cond.fieldLink RX2 21 "StakeWeirs$Weir" "rent" "I").before args s = true := hts _ (by decide +kernel)
  have hf34 : (Cond.fieldLink RX2 34 "StakeWeirs$Weir" "owed" "I").before args s = true := hts _ (by decide +kernel)
  have hf27 : (Cond.fieldLink RX2 27 "StakeWeirs$Weir" "eels" "I").before args s = true := hts _ (by decide +kernel)
  refine lv_aload_n hx hb dX2_payRent_0 rfl (lv_at hl 0 rfl) ?_
  refine va_get (D := D) (ci := 2) (v := .int ((q 4 k))) (C := RX2) (T := TX2) (N := 8) hx hb hts hinX2 hown hK hP (0) rfl rfl 4 (by decide) hf24 (fun _ h9 => h9) rfl dX2_payRent_1 ?_
  refine lv_aload_n hx hb dX2_payRent_4 rfl (lv_at hl 0 rfl) ?_
  refine va_get (D := D) (ci := 2) (v := .int ((q 3 k))) (C := RX2) (T := TX2) (N := 8) hx hb hts hinX2 hown hK hP (0) rfl rfl 3 (by decide) hf21 (fun _ h9 => h9) rfl dX2_payRent_5 ?_
  refine lv_icmp_lt (tgt := 34) hx hb dX2_payRent_8 (by decide) (fun c1 => ?_) (fun c1 => ?_)
  · have d1 := Int32.not_le.mpr c1
    refine lv_aload_n hx hb dX2_payRent_34 rfl (lv_at hl 0 rfl) ?_
    refine lv_dup hx hb dX2_payRent_35 rfl ?_
    refine va_get (D := D) (ci := 2) (v := .int ((q 7 k))) (C := RX2) (T := TX2) (N := 8) hx hb hts hinX2 hown hK hP (0) rfl rfl 7 (by decide) hf34 (fun _ h9 => h9) rfl dX2_payRent_36 ?_
    refine lv_iconst (v := 1) hx hb dX2_payRent_39 (by decide) ?_
    refine lv_iadd hx hb dX2_payRent_40 ?_
    refine va_put (D := D) (ci := 2) (v := .int (((q 7 k) + 1))) (ty := .int) (C := RX2) (T := TX2) (N := 8) hx hb hts hinX2 tyX2 tyX2_ok nmX2 hown hK hP hD hS (0) rfl rfl 7 (by decide) hf34 (fun _ h9 => h9) rfl (by decide +kernel) rfl rfl (Nat.le_of_ble_eq_true rfl) dX2_payRent_41 (fun H locs hP hD hS => ?_)
    have hP : va_P D vwCl ([(h, .inr (2, qF (up2 q 7 k ((q 7 k) + 1)) k))]) H := by rw [← qF_7]; exact hP
    have hD : va_D A ([(h, .inr (2, qF (up2 q 7 k ((q 7 k) + 1)) k))]) := by rw [← qF_7]; exact hD
    refine lv_aload_n hx hb dX2_payRent_44 rfl (lv_at hl 0 rfl) ?_
    refine va_get (D := D) (ci := 2) (v := .int (((up2 q 7 k ((q 7 k) + 1)) 7 k))) (C := RX2) (T := TX2) (N := 8) hx hb hts hinX2 hown hK hP (0) rfl rfl 7 (by decide) hf34 (fun _ h9 => h9) rfl dX2_payRent_45 ?_
    refine zt_i (x' := (q 7 k + 1)) (up2_s _ _ _ _) ?_
    refine lv_iconst (v := 3) hx hb dX2_payRent_48 (by decide) ?_
    refine lv_icmp_lt (tgt := 57) hx hb dX2_payRent_49 (by decide) (fun c2 => ?_) (fun c2 => ?_)
    · have d2 := Int32.not_le.mpr c2
      refine lv_iconst (v := 0) hx hb dX2_payRent_57 (by decide) ?_
      exact zM_i hx hb hr hlocks hS dX2_payRent_58 (by simp [paidI, c1, d1, c2, d2]) (by rw [show payW q k = (up2 q 7 k ((q 7 k) + 1)) from by simp [payW, c1, d1, c2, d2]]; exact hP)
    · have d2 := Int32.not_lt.mp c2
      refine lv_aload_n hx hb dX2_payRent_52 rfl (lv_at hl 0 rfl) ?_
      refine lv_iconst (v := 0) hx hb dX2_payRent_53 (by decide) ?_
      refine va_put (D := D) (ci := 2) (v := .int 0) (ty := .int) (C := RX2) (T := TX2) (N := 8) hx hb hts hinX2 tyX2 tyX2_ok nmX2 hown hK hP hD hS (0) rfl rfl 5 (by decide) hf27 (fun _ h9 => h9) rfl (by decide +kernel) rfl rfl (Nat.le_of_ble_eq_true rfl) dX2_payRent_54 (fun H locs hP hD hS => ?_)
      have hP : va_P D vwCl ([(h, .inr (2, qF (up2 (up2 q 7 k ((q 7 k) + 1)) 5 k 0) k))]) H := by rw [← qF_5]; exact hP
      have hD : va_D A ([(h, .inr (2, qF (up2 (up2 q 7 k ((q 7 k) + 1)) 5 k 0) k))]) := by rw [← qF_5]; exact hD
      refine lv_iconst (v := 0) hx hb dX2_payRent_57 (by decide) ?_
      exact zM_i hx hb hr hlocks hS dX2_payRent_58 (by simp [paidI, c1, d1, c2, d2]) (by rw [show payW q k = (up2 (up2 q 7 k ((q 7 k) + 1)) 5 k 0) from by simp [payW, c1, d1, c2, d2]]; exact hP)
  · have d1 := Int32.not_lt.mp c1
    refine lv_aload_n hx hb dX2_payRent_11 rfl (lv_at hl 0 rfl) ?_
    refine lv_dup hx hb dX2_payRent_12 rfl ?_
    refine va_get (D := D) (ci := 2) (v := .int ((q 4 k))) (C := RX2) (T := TX2) (N := 8) hx hb hts hinX2 hown hK hP (0) rfl rfl 4 (by decide) hf24 (fun _ h9 => h9) rfl dX2_payRent_13 ?_
    refine lv_aload_n hx hb dX2_payRent_16 rfl (lv_at hl 0 rfl) ?_
    refine va_get (D := D) (ci := 2) (v := .int ((q 3 k))) (C := RX2) (T := TX2) (N := 8) hx hb hts hinX2 hown hK hP (0) rfl rfl 3 (by decide) hf21 (fun _ h9 => h9) rfl dX2_payRent_17 ?_
    refine lv_isub hx hb dX2_payRent_20 ?_
    refine va_put (D := D) (ci := 2) (v := .int (((q 4 k) - (q 3 k)))) (ty := .int) (C := RX2) (T := TX2) (N := 8) hx hb hts hinX2 tyX2 tyX2_ok nmX2 hown hK hP hD hS (0) rfl rfl 4 (by decide) hf24 (fun _ h9 => h9) rfl (by decide +kernel) rfl rfl (Nat.le_of_ble_eq_true rfl) dX2_payRent_21 (fun H locs hP hD hS => ?_)
    have hP : va_P D vwCl ([(h, .inr (2, qF (up2 q 4 k ((q 4 k) - (q 3 k))) k))]) H := by rw [← qF_4]; exact hP
    have hD : va_D A ([(h, .inr (2, qF (up2 q 4 k ((q 4 k) - (q 3 k))) k))]) := by rw [← qF_4]; exact hD
    refine lv_aload_n hx hb dX2_payRent_24 rfl (lv_at hl 0 rfl) ?_
    refine lv_iconst (v := 0) hx hb dX2_payRent_25 (by decide) ?_
    refine va_put (D := D) (ci := 2) (v := .int 0) (ty := .int) (C := RX2) (T := TX2) (N := 8) hx hb hts hinX2 tyX2 tyX2_ok nmX2 hown hK hP hD hS (0) rfl rfl 7 (by decide) hf34 (fun _ h9 => h9) rfl (by decide +kernel) rfl rfl (Nat.le_of_ble_eq_true rfl) dX2_payRent_26 (fun H locs hP hD hS => ?_)
    have hP : va_P D vwCl ([(h, .inr (2, qF (up2 (up2 q 4 k ((q 4 k) - (q 3 k))) 7 k 0) k))]) H := by rw [← qF_7]; exact hP
    have hD : va_D A ([(h, .inr (2, qF (up2 (up2 q 4 k ((q 4 k) - (q 3 k))) 7 k 0) k))]) := by rw [← qF_7]; exact hD
    refine lv_aload_n hx hb dX2_payRent_29 rfl (lv_at hl 0 rfl) ?_
    refine va_get (D := D) (ci := 2) (v := .int ((q 3 k))) (C := RX2) (T := TX2) (N := 8) hx hb hts hinX2 hown hK hP (0) rfl rfl 3 (by decide) hf21 (fun _ h9 => h9) rfl dX2_payRent_30 ?_
    exact zM_i hx hb hr hlocks hS dX2_payRent_33 (by simp [paidI, c1, d1]) (by rw [show payW q k = (up2 (up2 q 4 k ((q 4 k) - (q 3 k))) 7 k 0) from by simp [payW, c1, d1]]; exact hP)
set_option maxHeartbeats 4000000 in
set_option maxRecDepth 100000 in
theorem c_X2_makeNew (l : Launch) (D : va_G) (y : Nat → ClassId) (h : Nat) (q : Fld) (k : Nat) (p0 p1 p2 : Int32)  (sz : Nat) : zM l yX2_makeNew wsX2_makeNew { frames := 0, cells := 0, slots := 0, locals := 0 } D y [.ref h, .int p0, .int p1, .int p2] ([(h, .inr (2, qF q k))]) sz (none) ([(h, .inr (2, qF (newW q k p0 p1 p2) k))]) 0 0 := by
  refine zM.of (cc := cX2_makeNew) (maxL := 4) (ret := none) (own := RX2) (by decide) rfl (Nat.le_of_ble_eq_true rfl) rfl ?_
  intro p e s m args below meth cd ls A hx hb hr hml hown hts hlocks hP hK hD hA hS hl hin
  have hS0 := hS
  have hl : lv_has ls 4 [(0, .ref h), (1, .int p0), (2, .int p1), (3, .int p2)] := hl
  have hf9 : (Cond.fieldLink RX2 9 "StakeWeirs$Weir" "place" "I").before args s = true := hts _ (by decide +kernel)
  have hinX2 : ∀ w ∈ wsX20, w ∈ wsX2_makeNew := by decide +kernel
  have hf15 : (Cond.fieldLink RX2 15 "StakeWeirs$Weir" "stakes" "I").before args s = true := hts _ (by decide +kernel)
  have hf18 : (Cond.fieldLink RX2 18 "StakeWeirs$Weir" "wattle" "I").before args s = true := hts _ (by decide +kernel)
  have hf21 : (Cond.fieldLink RX2 21 "StakeWeirs$Weir" "rent" "I").before args s = true := hts _ (by decide +kernel)
  have hf24 : (Cond.fieldLink RX2 24 "StakeWeirs$Weir" "coins" "I").before args s = true := hts _ (by decide +kernel)
  have hf27 : (Cond.fieldLink RX2 27 "StakeWeirs$Weir" "eels" "I").before args s = true := hts _ (by decide +kernel)
  have hf30 : (Cond.fieldLink RX2 30 "StakeWeirs$Weir" "open" "Z").before args s = true := hts _ (by decide +kernel)
  have hf34 : (Cond.fieldLink RX2 34 "StakeWeirs$Weir" "owed" "I").before args s = true := hts _ (by decide +kernel)
  refine lv_aload_n hx hb dX2_makeNew_0 rfl (lv_at hl 0 rfl) ?_
  refine lv_iload_n hx hb dX2_makeNew_1 rfl (lv_at hl 1 rfl) ?_
  refine va_put (D := D) (ci := 2) (v := .int p0) (ty := .int) (C := RX2) (T := TX2) (N := 8) hx hb hts hinX2 tyX2 tyX2_ok nmX2 hown hK hP hD hS (0) rfl rfl 0 (by decide) hf9 (fun _ h9 => h9) rfl (by decide +kernel) rfl rfl (Nat.le_of_ble_eq_true rfl) dX2_makeNew_2 (fun H locs hP hD hS => ?_)
  have hP : va_P D vwCl ([(h, .inr (2, qF (up2 q 0 k p0) k))]) H := by rw [← qF_0]; exact hP
  have hD : va_D A ([(h, .inr (2, qF (up2 q 0 k p0) k))]) := by rw [← qF_0]; exact hD
  refine lv_aload_n hx hb dX2_makeNew_5 rfl (lv_at hl 0 rfl) ?_
  refine lv_iload_n hx hb dX2_makeNew_6 rfl (lv_at hl 2 rfl) ?_
  refine va_put (D := D) (ci := 2) (v := .int p1) (ty := .int) (C := RX2) (T := TX2) (N := 8) hx hb hts hinX2 tyX2 tyX2_ok nmX2 hown hK hP hD hS (0) rfl rfl 1 (by decide) hf15 (fun _ h9 => h9) rfl (by decide +kernel) rfl rfl (Nat.le_of_ble_eq_true rfl) dX2_makeNew_7 (fun H locs hP hD hS => ?_)
  have hP : va_P D vwCl ([(h, .inr (2, qF (up2 (up2 q 0 k p0) 1 k p1) k))]) H := by rw [← qF_1]; exact hP
  have hD : va_D A ([(h, .inr (2, qF (up2 (up2 q 0 k p0) 1 k p1) k))]) := by rw [← qF_1]; exact hD
  refine lv_aload_n hx hb dX2_makeNew_10 rfl (lv_at hl 0 rfl) ?_
  refine lv_bipush (v := 100) hx hb dX2_makeNew_11 (by decide) ?_
  refine va_put (D := D) (ci := 2) (v := .int 100) (ty := .int) (C := RX2) (T := TX2) (N := 8) hx hb hts hinX2 tyX2 tyX2_ok nmX2 hown hK hP hD hS (0) rfl rfl 2 (by decide) hf18 (fun _ h9 => h9) rfl (by decide +kernel) rfl rfl (Nat.le_of_ble_eq_true rfl) dX2_makeNew_13 (fun H locs hP hD hS => ?_)
  have hP : va_P D vwCl ([(h, .inr (2, qF (up2 (up2 (up2 q 0 k p0) 1 k p1) 2 k 100) k))]) H := by rw [← qF_2]; exact hP
  have hD : va_D A ([(h, .inr (2, qF (up2 (up2 (up2 q 0 k p0) 1 k p1) 2 k 100) k))]) := by rw [← qF_2]; exact hD
  refine lv_aload_n hx hb dX2_makeNew_16 rfl (lv_at hl 0 rfl) ?_
  refine lv_iload_n hx hb dX2_makeNew_17 rfl (lv_at hl 3 rfl) ?_
  refine va_put (D := D) (ci := 2) (v := .int p2) (ty := .int) (C := RX2) (T := TX2) (N := 8) hx hb hts hinX2 tyX2 tyX2_ok nmX2 hown hK hP hD hS (0) rfl rfl 3 (by decide) hf21 (fun _ h9 => h9) rfl (by decide +kernel) rfl rfl (Nat.le_of_ble_eq_true rfl) dX2_makeNew_18 (fun H locs hP hD hS => ?_)
  have hP : va_P D vwCl ([(h, .inr (2, qF (up2 (up2 (up2 (up2 q 0 k p0) 1 k p1) 2 k 100) 3 k p2) k))]) H := by rw [← qF_3]; exact hP
  have hD : va_D A ([(h, .inr (2, qF (up2 (up2 (up2 (up2 q 0 k p0) 1 k p1) 2 k 100) 3 k p2) k))]) := by rw [← qF_3]; exact hD
  refine lv_aload_n hx hb dX2_makeNew_21 rfl (lv_at hl 0 rfl) ?_
  refine lv_bipush (v := 20) hx hb dX2_makeNew_22 (by decide) ?_
  refine va_put (D := D) (ci := 2) (v := .int 20) (ty := .int) (C := RX2) (T := TX2) (N := 8) hx hb hts hinX2 tyX2 tyX2_ok nmX2 hown hK hP hD hS (0) rfl rfl 4 (by decide) hf24 (fun _ h9 => h9) rfl (by decide +kernel) rfl rfl (Nat.le_of_ble_eq_true rfl) dX2_makeNew_24 (fun H locs hP hD hS => ?_)
  have hP : va_P D vwCl ([(h, .inr (2, qF (up2 (up2 (up2 (up2 (up2 q 0 k p0) 1 k p1) 2 k 100) 3 k p2) 4 k 20) k))]) H := by rw [← qF_4]; exact hP
  have hD : va_D A ([(h, .inr (2, qF (up2 (up2 (up2 (up2 (up2 q 0 k p0) 1 k p1) 2 k 100) 3 k p2) 4 k 20) k))]) := by rw [← qF_4]; exact hD
  refine lv_aload_n hx hb dX2_makeNew_27 rfl (lv_at hl 0 rfl) ?_
  refine lv_iconst (v := 0) hx hb dX2_makeNew_28 (by decide) ?_
  refine va_put (D := D) (ci := 2) (v := .int 0) (ty := .int) (C := RX2) (T := TX2) (N := 8) hx hb hts hinX2 tyX2 tyX2_ok nmX2 hown hK hP hD hS (0) rfl rfl 5 (by decide) hf27 (fun _ h9 => h9) rfl (by decide +kernel) rfl rfl (Nat.le_of_ble_eq_true rfl) dX2_makeNew_29 (fun H locs hP hD hS => ?_)
  have hP : va_P D vwCl ([(h, .inr (2, qF (up2 (up2 (up2 (up2 (up2 (up2 q 0 k p0) 1 k p1) 2 k 100) 3 k p2) 4 k 20) 5 k 0) k))]) H := by rw [← qF_5]; exact hP
  have hD : va_D A ([(h, .inr (2, qF (up2 (up2 (up2 (up2 (up2 (up2 q 0 k p0) 1 k p1) 2 k 100) 3 k p2) 4 k 20) 5 k 0) k))]) := by rw [← qF_5]; exact hD
  refine lv_aload_n hx hb dX2_makeNew_32 rfl (lv_at hl 0 rfl) ?_
  refine lv_iconst (v := 0) hx hb dX2_makeNew_33 (by decide) ?_
  refine va_put (D := D) (ci := 2) (v := .int 0) (ty := .boolean) (C := RX2) (T := TX2) (N := 8) hx hb hts hinX2 tyX2 tyX2_ok nmX2 hown hK hP hD hS (0) rfl rfl 6 (by decide) hf30 (fun _ h9 => h9) rfl (by decide +kernel) (zb_nar (Or.inl rfl)) (zb_fit (Or.inl rfl)) (Nat.le_of_ble_eq_true rfl) dX2_makeNew_34 (fun H locs hP hD hS => ?_)
  have hP : va_P D vwCl ([(h, .inr (2, qF (up2 (up2 (up2 (up2 (up2 (up2 (up2 q 0 k p0) 1 k p1) 2 k 100) 3 k p2) 4 k 20) 5 k 0) 6 k 0) k))]) H := by rw [← qF_6]; exact hP
  have hD : va_D A ([(h, .inr (2, qF (up2 (up2 (up2 (up2 (up2 (up2 (up2 q 0 k p0) 1 k p1) 2 k 100) 3 k p2) 4 k 20) 5 k 0) 6 k 0) k))]) := by rw [← qF_6]; exact hD
  refine lv_aload_n hx hb dX2_makeNew_37 rfl (lv_at hl 0 rfl) ?_
  refine lv_iconst (v := 0) hx hb dX2_makeNew_38 (by decide) ?_
  refine va_put (D := D) (ci := 2) (v := .int 0) (ty := .int) (C := RX2) (T := TX2) (N := 8) hx hb hts hinX2 tyX2 tyX2_ok nmX2 hown hK hP hD hS (0) rfl rfl 7 (by decide) hf34 (fun _ h9 => h9) rfl (by decide +kernel) rfl rfl (Nat.le_of_ble_eq_true rfl) dX2_makeNew_39 (fun H locs hP hD hS => ?_)
  have hP : va_P D vwCl ([(h, .inr (2, qF (up2 (up2 (up2 (up2 (up2 (up2 (up2 (up2 q 0 k p0) 1 k p1) 2 k 100) 3 k p2) 4 k 20) 5 k 0) 6 k 0) 7 k 0) k))]) H := by rw [← qF_7]; exact hP
  have hD : va_D A ([(h, .inr (2, qF (up2 (up2 (up2 (up2 (up2 (up2 (up2 (up2 q 0 k p0) 1 k p1) 2 k 100) 3 k p2) 4 k 20) 5 k 0) 6 k 0) 7 k 0) k))]) := by rw [← qF_7]; exact hD
  exact zM_v hx hb hr hlocks hS dX2_makeNew_42 rfl hP
set_option maxHeartbeats 4000000 in
set_option maxRecDepth 100000 in
theorem c_X2_copyFrom (l : Launch) (D : va_G) (y : Nat → ClassId) (h h2 : Nat) (q q2 : Fld) (k k2 : Nat) (h01 : q2 6 k2 = 0 ∨ q2 6 k2 = 1)  (sz : Nat) : zM l yX2_copyFrom wsX2_copyFrom { frames := 0, cells := 0, slots := 0, locals := 0 } D y [.ref h, .ref h2] ([(h, .inr (2, qF q k)), (h2, .inr (2, qF q2 k2))]) sz (none) ([(h, .inr (2, qF (cpF q k q2 k2) k)), (h2, .inr (2, qF q2 k2))]) 0 0 := by
  refine zM.of (cc := cX2_copyFrom) (maxL := 2) (ret := none) (own := RX2) (by decide) rfl (Nat.le_of_ble_eq_true rfl) rfl ?_
  intro p e s m args below meth cd ls A hx hb hr hml hown hts hlocks hP hK hD hA hS hl hin
  have hS0 := hS
  have hl : lv_has ls 2 [(0, .ref h), (1, .ref h2)] := hl
  have hf9 : (Cond.fieldLink RX2 9 "StakeWeirs$Weir" "place" "I").before args s = true := hts _ (by decide +kernel)
  have hinX2 : ∀ w ∈ wsX20, w ∈ wsX2_copyFrom := by decide +kernel
  have hf15 : (Cond.fieldLink RX2 15 "StakeWeirs$Weir" "stakes" "I").before args s = true := hts _ (by decide +kernel)
  have hf18 : (Cond.fieldLink RX2 18 "StakeWeirs$Weir" "wattle" "I").before args s = true := hts _ (by decide +kernel)
  have hf21 : (Cond.fieldLink RX2 21 "StakeWeirs$Weir" "rent" "I").before args s = true := hts _ (by decide +kernel)
  have hf24 : (Cond.fieldLink RX2 24 "StakeWeirs$Weir" "coins" "I").before args s = true := hts _ (by decide +kernel)
  have hf27 : (Cond.fieldLink RX2 27 "StakeWeirs$Weir" "eels" "I").before args s = true := hts _ (by decide +kernel)
  have hf30 : (Cond.fieldLink RX2 30 "StakeWeirs$Weir" "open" "Z").before args s = true := hts _ (by decide +kernel)
  have hf34 : (Cond.fieldLink RX2 34 "StakeWeirs$Weir" "owed" "I").before args s = true := hts _ (by decide +kernel)
  refine lv_aload_n hx hb dX2_copyFrom_0 rfl (lv_at hl 0 rfl) ?_
  refine lv_aload_n hx hb dX2_copyFrom_1 rfl (lv_at hl 1 rfl) ?_
  refine va_get (D := D) (ci := 2) (v := .int ((q2 0 k2))) (C := RX2) (T := TX2) (N := 8) hx hb hts hinX2 hown hK hP (1) rfl rfl 0 (by decide) hf9 (fun _ h9 => h9) rfl dX2_copyFrom_2 ?_
  refine va_put (D := D) (ci := 2) (v := .int ((q2 0 k2))) (ty := .int) (C := RX2) (T := TX2) (N := 8) hx hb hts hinX2 tyX2 tyX2_ok nmX2 hown hK hP hD hS (0) rfl rfl 0 (by decide) hf9 (fun _ h9 => h9) rfl (by decide +kernel) rfl rfl (Nat.le_of_ble_eq_true rfl) dX2_copyFrom_5 (fun H locs hP hD hS => ?_)
  have hP : va_P D vwCl ([(h, .inr (2, qF (up2 q 0 k (q2 0 k2)) k)), (h2, .inr (2, qF q2 k2))]) H := by rw [← qF_0]; exact hP
  have hD : va_D A ([(h, .inr (2, qF (up2 q 0 k (q2 0 k2)) k)), (h2, .inr (2, qF q2 k2))]) := by rw [← qF_0]; exact hD
  refine lv_aload_n hx hb dX2_copyFrom_8 rfl (lv_at hl 0 rfl) ?_
  refine lv_aload_n hx hb dX2_copyFrom_9 rfl (lv_at hl 1 rfl) ?_
  refine va_get (D := D) (ci := 2) (v := .int ((q2 1 k2))) (C := RX2) (T := TX2) (N := 8) hx hb hts hinX2 hown hK hP (1) rfl rfl 1 (by decide) hf15 (fun _ h9 => h9) rfl dX2_copyFrom_10 ?_
  refine va_put (D := D) (ci := 2) (v := .int ((q2 1 k2))) (ty := .int) (C := RX2) (T := TX2) (N := 8) hx hb hts hinX2 tyX2 tyX2_ok nmX2 hown hK hP hD hS (0) rfl rfl 1 (by decide) hf15 (fun _ h9 => h9) rfl (by decide +kernel) rfl rfl (Nat.le_of_ble_eq_true rfl) dX2_copyFrom_13 (fun H locs hP hD hS => ?_)
  have hP : va_P D vwCl ([(h, .inr (2, qF (up2 (up2 q 0 k (q2 0 k2)) 1 k (q2 1 k2)) k)), (h2, .inr (2, qF q2 k2))]) H := by rw [← qF_1]; exact hP
  have hD : va_D A ([(h, .inr (2, qF (up2 (up2 q 0 k (q2 0 k2)) 1 k (q2 1 k2)) k)), (h2, .inr (2, qF q2 k2))]) := by rw [← qF_1]; exact hD
  refine lv_aload_n hx hb dX2_copyFrom_16 rfl (lv_at hl 0 rfl) ?_
  refine lv_aload_n hx hb dX2_copyFrom_17 rfl (lv_at hl 1 rfl) ?_
  refine va_get (D := D) (ci := 2) (v := .int ((q2 2 k2))) (C := RX2) (T := TX2) (N := 8) hx hb hts hinX2 hown hK hP (1) rfl rfl 2 (by decide) hf18 (fun _ h9 => h9) rfl dX2_copyFrom_18 ?_
  refine va_put (D := D) (ci := 2) (v := .int ((q2 2 k2))) (ty := .int) (C := RX2) (T := TX2) (N := 8) hx hb hts hinX2 tyX2 tyX2_ok nmX2 hown hK hP hD hS (0) rfl rfl 2 (by decide) hf18 (fun _ h9 => h9) rfl (by decide +kernel) rfl rfl (Nat.le_of_ble_eq_true rfl) dX2_copyFrom_21 (fun H locs hP hD hS => ?_)
  have hP : va_P D vwCl ([(h, .inr (2, qF (up2 (up2 (up2 q 0 k (q2 0 k2)) 1 k (q2 1 k2)) 2 k (q2 2 k2)) k)), (h2, .inr (2, qF q2 k2))]) H := by rw [← qF_2]; exact hP
  have hD : va_D A ([(h, .inr (2, qF (up2 (up2 (up2 q 0 k (q2 0 k2)) 1 k (q2 1 k2)) 2 k (q2 2 k2)) k)), (h2, .inr (2, qF q2 k2))]) := by rw [← qF_2]; exact hD
  refine lv_aload_n hx hb dX2_copyFrom_24 rfl (lv_at hl 0 rfl) ?_
  refine lv_aload_n hx hb dX2_copyFrom_25 rfl (lv_at hl 1 rfl) ?_
  refine va_get (D := D) (ci := 2) (v := .int ((q2 3 k2))) (C := RX2) (T := TX2) (N := 8) hx hb hts hinX2 hown hK hP (1) rfl rfl 3 (by decide) hf21 (fun _ h9 => h9) rfl dX2_copyFrom_26 ?_
  refine va_put (D := D) (ci := 2) (v := .int ((q2 3 k2))) (ty := .int) (C := RX2) (T := TX2) (N := 8) hx hb hts hinX2 tyX2 tyX2_ok nmX2 hown hK hP hD hS (0) rfl rfl 3 (by decide) hf21 (fun _ h9 => h9) rfl (by decide +kernel) rfl rfl (Nat.le_of_ble_eq_true rfl) dX2_copyFrom_29 (fun H locs hP hD hS => ?_)
  have hP : va_P D vwCl ([(h, .inr (2, qF (up2 (up2 (up2 (up2 q 0 k (q2 0 k2)) 1 k (q2 1 k2)) 2 k (q2 2 k2)) 3 k (q2 3 k2)) k)), (h2, .inr (2, qF q2 k2))]) H := by rw [← qF_3]; exact hP
  have hD : va_D A ([(h, .inr (2, qF (up2 (up2 (up2 (up2 q 0 k (q2 0 k2)) 1 k (q2 1 k2)) 2 k (q2 2 k2)) 3 k (q2 3 k2)) k)), (h2, .inr (2, qF q2 k2))]) := by rw [← qF_3]; exact hD
  refine lv_aload_n hx hb dX2_copyFrom_32 rfl (lv_at hl 0 rfl) ?_
  refine lv_aload_n hx hb dX2_copyFrom_33 rfl (lv_at hl 1 rfl) ?_
  refine va_get (D := D) (ci := 2) (v := .int ((q2 4 k2))) (C := RX2) (T := TX2) (N := 8) hx hb hts hinX2 hown hK hP (1) rfl rfl 4 (by decide) hf24 (fun _ h9 => h9) rfl dX2_copyFrom_34 ?_
  refine va_put (D := D) (ci := 2) (v := .int ((q2 4 k2))) (ty := .int) (C := RX2) (T := TX2) (N := 8) hx hb hts hinX2 tyX2 tyX2_ok nmX2 hown hK hP hD hS (0) rfl rfl 4 (by decide) hf24 (fun _ h9 => h9) rfl (by decide +kernel) rfl rfl (Nat.le_of_ble_eq_true rfl) dX2_copyFrom_37 (fun H locs hP hD hS => ?_)
  have hP : va_P D vwCl ([(h, .inr (2, qF (up2 (up2 (up2 (up2 (up2 q 0 k (q2 0 k2)) 1 k (q2 1 k2)) 2 k (q2 2 k2)) 3 k (q2 3 k2)) 4 k (q2 4 k2)) k)), (h2, .inr (2, qF q2 k2))]) H := by rw [← qF_4]; exact hP
  have hD : va_D A ([(h, .inr (2, qF (up2 (up2 (up2 (up2 (up2 q 0 k (q2 0 k2)) 1 k (q2 1 k2)) 2 k (q2 2 k2)) 3 k (q2 3 k2)) 4 k (q2 4 k2)) k)), (h2, .inr (2, qF q2 k2))]) := by rw [← qF_4]; exact hD
  refine lv_aload_n hx hb dX2_copyFrom_40 rfl (lv_at hl 0 rfl) ?_
  refine lv_aload_n hx hb dX2_copyFrom_41 rfl (lv_at hl 1 rfl) ?_
  refine va_get (D := D) (ci := 2) (v := .int ((q2 5 k2))) (C := RX2) (T := TX2) (N := 8) hx hb hts hinX2 hown hK hP (1) rfl rfl 5 (by decide) hf27 (fun _ h9 => h9) rfl dX2_copyFrom_42 ?_
  refine va_put (D := D) (ci := 2) (v := .int ((q2 5 k2))) (ty := .int) (C := RX2) (T := TX2) (N := 8) hx hb hts hinX2 tyX2 tyX2_ok nmX2 hown hK hP hD hS (0) rfl rfl 5 (by decide) hf27 (fun _ h9 => h9) rfl (by decide +kernel) rfl rfl (Nat.le_of_ble_eq_true rfl) dX2_copyFrom_45 (fun H locs hP hD hS => ?_)
  have hP : va_P D vwCl ([(h, .inr (2, qF (up2 (up2 (up2 (up2 (up2 (up2 q 0 k (q2 0 k2)) 1 k (q2 1 k2)) 2 k (q2 2 k2)) 3 k (q2 3 k2)) 4 k (q2 4 k2)) 5 k (q2 5 k2)) k)), (h2, .inr (2, qF q2 k2))]) H := by rw [← qF_5]; exact hP
  have hD : va_D A ([(h, .inr (2, qF (up2 (up2 (up2 (up2 (up2 (up2 q 0 k (q2 0 k2)) 1 k (q2 1 k2)) 2 k (q2 2 k2)) 3 k (q2 3 k2)) 4 k (q2 4 k2)) 5 k (q2 5 k2)) k)), (h2, .inr (2, qF q2 k2))]) := by rw [← qF_5]; exact hD
  refine lv_aload_n hx hb dX2_copyFrom_48 rfl (lv_at hl 0 rfl) ?_
  refine lv_aload_n hx hb dX2_copyFrom_49 rfl (lv_at hl 1 rfl) ?_
  refine va_get (D := D) (ci := 2) (v := .int ((q2 6 k2))) (C := RX2) (T := TX2) (N := 8) hx hb hts hinX2 hown hK hP (1) rfl rfl 6 (by decide) hf30 (fun _ h9 => h9) rfl dX2_copyFrom_50 ?_
  refine va_put (D := D) (ci := 2) (v := .int ((q2 6 k2))) (ty := .boolean) (C := RX2) (T := TX2) (N := 8) hx hb hts hinX2 tyX2 tyX2_ok nmX2 hown hK hP hD hS (0) rfl rfl 6 (by decide) hf30 (fun _ h9 => h9) rfl (by decide +kernel) (zb_nar h01) (zb_fit h01) (Nat.le_of_ble_eq_true rfl) dX2_copyFrom_53 (fun H locs hP hD hS => ?_)
  have hP : va_P D vwCl ([(h, .inr (2, qF (up2 (up2 (up2 (up2 (up2 (up2 (up2 q 0 k (q2 0 k2)) 1 k (q2 1 k2)) 2 k (q2 2 k2)) 3 k (q2 3 k2)) 4 k (q2 4 k2)) 5 k (q2 5 k2)) 6 k (q2 6 k2)) k)), (h2, .inr (2, qF q2 k2))]) H := by rw [← qF_6]; exact hP
  have hD : va_D A ([(h, .inr (2, qF (up2 (up2 (up2 (up2 (up2 (up2 (up2 q 0 k (q2 0 k2)) 1 k (q2 1 k2)) 2 k (q2 2 k2)) 3 k (q2 3 k2)) 4 k (q2 4 k2)) 5 k (q2 5 k2)) 6 k (q2 6 k2)) k)), (h2, .inr (2, qF q2 k2))]) := by rw [← qF_6]; exact hD
  refine lv_aload_n hx hb dX2_copyFrom_56 rfl (lv_at hl 0 rfl) ?_
  refine lv_aload_n hx hb dX2_copyFrom_57 rfl (lv_at hl 1 rfl) ?_
  refine va_get (D := D) (ci := 2) (v := .int ((q2 7 k2))) (C := RX2) (T := TX2) (N := 8) hx hb hts hinX2 hown hK hP (1) rfl rfl 7 (by decide) hf34 (fun _ h9 => h9) rfl dX2_copyFrom_58 ?_
  refine va_put (D := D) (ci := 2) (v := .int ((q2 7 k2))) (ty := .int) (C := RX2) (T := TX2) (N := 8) hx hb hts hinX2 tyX2 tyX2_ok nmX2 hown hK hP hD hS (0) rfl rfl 7 (by decide) hf34 (fun _ h9 => h9) rfl (by decide +kernel) rfl rfl (Nat.le_of_ble_eq_true rfl) dX2_copyFrom_61 (fun H locs hP hD hS => ?_)
  have hP : va_P D vwCl ([(h, .inr (2, qF (up2 (up2 (up2 (up2 (up2 (up2 (up2 (up2 q 0 k (q2 0 k2)) 1 k (q2 1 k2)) 2 k (q2 2 k2)) 3 k (q2 3 k2)) 4 k (q2 4 k2)) 5 k (q2 5 k2)) 6 k (q2 6 k2)) 7 k (q2 7 k2)) k)), (h2, .inr (2, qF q2 k2))]) H := by rw [← qF_7]; exact hP
  have hD : va_D A ([(h, .inr (2, qF (up2 (up2 (up2 (up2 (up2 (up2 (up2 (up2 q 0 k (q2 0 k2)) 1 k (q2 1 k2)) 2 k (q2 2 k2)) 3 k (q2 3 k2)) 4 k (q2 4 k2)) 5 k (q2 5 k2)) 6 k (q2 6 k2)) 7 k (q2 7 k2)) k)), (h2, .inr (2, qF q2 k2))]) := by rw [← qF_7]; exact hD
  exact zM_v hx hb hr hlocks hS dX2_copyFrom_64 rfl (by rw [show qF (cpF q k q2 k2) k = qF ((up2 (up2 (up2 (up2 (up2 (up2 (up2 (up2 q 0 k (q2 0 k2)) 1 k (q2 1 k2)) 2 k (q2 2 k2)) 3 k (q2 3 k2)) 4 k (q2 4 k2)) 5 k (q2 5 k2)) 6 k (q2 6 k2)) 7 k (q2 7 k2))) k from by simp [qF, cpF, up2, upd]]; exact hP)
