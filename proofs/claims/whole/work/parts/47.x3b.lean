set_option maxHeartbeats 4000000 in
set_option maxRecDepth 100000 in
theorem c_X3_richest (l : Launch) (D : va_G) (y : Nat → ClassId) (X0 : Nat) (E E2 : Nat → Nat) (t : Nat → Int32) (o : Nat → Nat) (q b : Fld) (c bc n : Nat) (ar fi re : Int32) (T : TS) (hc : c ≤ 6) : zR l yX3_richest wsX3_richest { frames := 2, cells := 0, slots := 0, locals := 46 } D y [.ref X0] (sW X0 E E2 y t o q b c bc n ar fi re T) (some (.int (richE q c).1)) := by
  refine zR.of (cc := cX3_richest) (maxL := 1) (ret := (some .int)) (own := RX3) (by decide) rfl (Nat.le_of_ble_eq_true rfl) rfl ?_
  intro p e s m args below meth cd ls hx hb hr hml hown hts hlocks hP hK hl
  have hl : lv_has ls 1 [(0, .ref X0)] := hl
  have hf12 : (Cond.fieldLink RX3 12 "StakeWeirs" "now" "LStakeWeirs$Estuary;").before args s = true := hts _ (by decide +kernel)
  have hinX3 : ∀ w ∈ wsX30, w ∈ wsX3_richest := by decide +kernel
  refine lv_aload_n hx hb dX3_richest_0 rfl (lv_at hl 0 rfl) ?_
  refine va_get (D := D) (ci := 3) (v := .ref (E 0)) (C := RX3) (T := TX3) (N := 2) hx hb hts hinX3 hown hK hP (0) rfl rfl 0 (by decide) hf12 (fun _ h9 => h9) rfl dX3_richest_1 ?_
  refine zcRV (As := []) (rest := []) (st1 := [.int ((richE q c).1)]) ⟨hx, hb, hml, hown, hts⟩ (c_X1_richestHeld l D y E t o q b c bc n ar fi re  (by omega)) (cwV 0 hts gX3_richest_X1_richestHeld rfl rfl rfl (by decide +kernel) ⟨Nat.le_of_ble_eq_true rfl, Nat.le_of_ble_eq_true rfl⟩) hK (z_sub_P hP (fun z h => List.mem_append_right _ (List.mem_append_left _ h))) (ci := 1) (q0 := 0) rfl rfl rfl rfl hl.1 rfl (lv_room (Nat.le_of_ble_eq_true rfl)) dX3_richest_4 ⟨Nat.le_of_ble_eq_true rfl, Nat.le_of_ble_eq_true rfl⟩ rfl ?_
  exact zR_i hx hb hr hlocks dX3_richest_7 rfl
set_option maxHeartbeats 4000000 in
set_option maxRecDepth 100000 in
theorem c_X3_hinders (l : Launch) (D : va_G) (y : Nat → ClassId) (X0 : Nat) (E E2 : Nat → Nat) (t : Nat → Int32) (o : Nat → Nat) (q b : Fld) (c bc n : Nat) (ar fi re : Int32) (T : TS) (x : Int32) (hw : inB 1 x 20 = true) (hc : c ≤ 6) : zR l yX3_hinders wsX3_hinders { frames := 3, cells := 0, slots := 0, locals := 65 } D y [.ref X0, .int x] (sW X0 E E2 y t o q b c bc n ar fi re T) (some (.int (wayN q c x))) := by
  refine zR.of (cc := cX3_hinders) (maxL := 2) (ret := (some .int)) (own := RX3) (by decide) rfl (Nat.le_of_ble_eq_true rfl) rfl ?_
  intro p e s m args below meth cd ls hx hb hr hml hown hts hlocks hP hK hl
  have hl : lv_has ls 2 [(0, .ref X0), (1, .int x)] := hl
  have hf12 : (Cond.fieldLink RX3 12 "StakeWeirs" "now" "LStakeWeirs$Estuary;").before args s = true := hts _ (by decide +kernel)
  have hinX3 : ∀ w ∈ wsX30, w ∈ wsX3_hinders := by decide +kernel
  refine lv_iload_n hx hb dX3_hinders_0 rfl (lv_at hl 1 rfl) ?_
  refine lv_iconst (v := 1) hx hb dX3_hinders_1 (by decide) ?_
  refine lv_bipush (v := 20) hx hb dX3_hinders_2 (by decide) ?_
  refine zcRS (As := [.int x, .int 1, .int 20]) (rest := []) (st1 := [.int (zb (inB 1 x 20))]) ⟨hx, hb, hml, hown, hts⟩ (c_X3_isWithin l D y x 1 20) (cwS 3 hts gX3_hinders_X3_isWithin rfl rfl rfl (by decide +kernel) ⟨Nat.le_of_ble_eq_true rfl, Nat.le_of_ble_eq_true rfl⟩) hK va_P_nil rfl hl.1 rfl (lv_room (Nat.le_of_ble_eq_true rfl)) dX3_hinders_4 ⟨Nat.le_of_ble_eq_true rfl, Nat.le_of_ble_eq_true rfl⟩ rfl ?_
  refine lv_if_ne (tgt := 20) hx hb dX3_hinders_7 (by decide) (fun c1 => ?_) (fun c1 => ?_)
  · have c1 := c1
    refine lv_aload_n hx hb dX3_hinders_20 rfl (lv_at hl 0 rfl) ?_
    refine va_get (D := D) (ci := 3) (v := .ref (E 0)) (C := RX3) (T := TX3) (N := 2) hx hb hts hinX3 hown hK hP (0) rfl rfl 0 (by decide) hf12 (fun _ h9 => h9) rfl dX3_hinders_21 ?_
    refine lv_iload_n hx hb dX3_hinders_24 rfl (lv_at hl 1 rfl) ?_
    refine zcRV (As := [.int x]) (rest := []) (st1 := [.int ((wayN q c x))]) ⟨hx, hb, hml, hown, hts⟩ (c_X1_weirsInWay l D y E t o q b c bc n ar fi re x (by omega)) (cwV 1 hts gX3_hinders_X1_weirsInWay rfl rfl rfl (by decide +kernel) ⟨Nat.le_of_ble_eq_true rfl, Nat.le_of_ble_eq_true rfl⟩) hK (z_sub_P hP (fun z h => List.mem_append_right _ (List.mem_append_left _ h))) (ci := 1) (q0 := 0) rfl rfl rfl rfl hl.1 rfl (lv_room (Nat.le_of_ble_eq_true rfl)) dX3_hinders_25 ⟨Nat.le_of_ble_eq_true rfl, Nat.le_of_ble_eq_true rfl⟩ rfl ?_
    exact zR_i hx hb hr hlocks dX3_hinders_28 rfl
  · exact absurd (zb_f c1) (by rw [hw]; decide)
set_option maxHeartbeats 4000000 in
set_option maxRecDepth 100000 in
theorem c_X3_hinders_T1 (l : Launch) (hl0 : l.stackTraces = false) (D : va_G) (y : Nat → ClassId) (X0 : Nat) (E E2 : Nat → Nat) (t : Nat → Int32) (o : Nat → Nat) (q b : Fld) (c bc n : Nat) (ar fi re : Int32) (T : TS) (x : Int32) (hw : inB 1 x 20 = false) : zT l yX3_hinders wsX3_hinders { frames := 6, cells := 1, slots := 6, locals := 90 } D y [.ref X0, .int x] (sW X0 E E2 y t o q b c bc n ar fi re T) "java/lang/IllegalArgumentException" := by
  refine zT.of (cc := cX3_hinders) (maxL := 2) (ret := (some .int)) (own := RX3) (by decide) rfl (Nat.le_of_ble_eq_true rfl) rfl ?_
  intro p e s m args below meth cd ls hx hb hr hml hown hts hlocks hP hK hT0 hout hl
  have hl : lv_has ls 2 [(0, .ref X0), (1, .int x)] := hl
  have hkl23 : (Cond.classLink RX3 23 "java/lang/IllegalArgumentException").before args s = true := hts _ (by decide +kernel)
  have hini23 : (Cond.initialized "java/lang/IllegalArgumentException").before args s = true := hts _ (by decide +kernel)
  refine lv_iload_n hx hb dX3_hinders_0 rfl (lv_at hl 1 rfl) ?_
  refine lv_iconst (v := 1) hx hb dX3_hinders_1 (by decide) ?_
  refine lv_bipush (v := 20) hx hb dX3_hinders_2 (by decide) ?_
  refine zcRS (As := [.int x, .int 1, .int 20]) (rest := []) (st1 := [.int (zb (inB 1 x 20))]) ⟨hx, hb, hml, hown, hts⟩ (c_X3_isWithin l D y x 1 20) (cwS 3 hts gX3_hinders_X3_isWithin rfl rfl rfl (by decide +kernel) ⟨Nat.le_of_ble_eq_true rfl, Nat.le_of_ble_eq_true rfl⟩) hK va_P_nil rfl hl.1 rfl (lv_room (Nat.le_of_ble_eq_true rfl)) dX3_hinders_4 ⟨Nat.le_of_ble_eq_true rfl, Nat.le_of_ble_eq_true rfl⟩ rfl ?_
  refine lv_if_ne (tgt := 20) hx hb dX3_hinders_7 (by decide) (fun c1 => ?_) (fun c1 => ?_)
  · exact absurd (zb_t c1) (by rw [hw]; decide)
  · have c1 := c1
    exact z_thr (cls := "java/lang/IllegalArgumentException") (text := "wide is not 1 to 20") (ik := 23) (is := 106) (ic := 27) hx hb hl0 hown (by decide +kernel) hkl23 hini23 hts (fun x h => List.mem_cons_of_mem _ (List.mem_append_right _ h)) zbad_27 (zgoodO_27 23) hT0 (by decide) hl.1 hml dX3_hinders_10 dX3_hinders_13 dX3_hinders_14 dX3_hinders_16 dX3_hinders_19 hout (Nat.le_of_ble_eq_true rfl) (Nat.le_of_ble_eq_true rfl) (Nat.le_of_ble_eq_true rfl) (Nat.le_of_ble_eq_true rfl) hlocks
set_option maxHeartbeats 4000000 in
set_option maxRecDepth 100000 in
theorem c_X3_count_0 (l : Launch) (D : va_G) (y : Nat → ClassId) (X0 : Nat) (E E2 : Nat → Nat) (t : Nat → Int32) (o : Nat → Nat) (q b : Fld) (c bc n : Nat) (ar fi re : Int32) (T : TS) (hc : c ≤ 6) (hn : n < 2147483648) : zR l yX3_count wsX3_count { frames := 1, cells := 0, slots := 0, locals := 22 } D y [.ref X0, .int 0] (sW X0 E E2 y t o q b c bc n ar fi re T) (some (.int (nI n))) := by
  refine zR.of (cc := cX3_count) (maxL := 2) (ret := (some .int)) (own := RX3) (by decide) rfl (Nat.le_of_ble_eq_true rfl) rfl ?_
  intro p e s m args below meth cd ls hx hb hr hml hown hts hlocks hP hK hl
  have hl : lv_has ls 2 [(0, .ref X0), (1, .int 0)] := hl
  have hf12 : (Cond.fieldLink RX3 12 "StakeWeirs" "now" "LStakeWeirs$Estuary;").before args s = true := hts _ (by decide +kernel)
  have hinX3 : ∀ w ∈ wsX30, w ∈ wsX3_count := by decide +kernel
  refine lv_iload_n hx hb dX3_count_0 rfl (lv_at hl 1 rfl) ?_
  refine lv_iconst (v := 0) hx hb dX3_count_1 (by decide) ?_
  refine lv_bipush (v := 9) hx hb dX3_count_2 (by decide) ?_
  refine zcRS (As := [.int 0, .int 0, .int 9]) (rest := []) (st1 := [.int (zb (inB 0 0 9))]) ⟨hx, hb, hml, hown, hts⟩ (c_X3_isWithin l D y 0 0 9) (cwS 3 hts gX3_count_X3_isWithin rfl rfl rfl (by decide +kernel) ⟨Nat.le_of_ble_eq_true rfl, Nat.le_of_ble_eq_true rfl⟩) hK va_P_nil rfl hl.1 rfl (lv_room (Nat.le_of_ble_eq_true rfl)) dX3_count_4 ⟨Nat.le_of_ble_eq_true rfl, Nat.le_of_ble_eq_true rfl⟩ rfl ?_
  refine lv_if_ne (tgt := 20) hx hb dX3_count_7 (by decide) (fun c1 => ?_) (fun c1 => ?_)
  · have c1 := c1
    refine lv_aload_n hx hb dX3_count_20 rfl (lv_at hl 0 rfl) ?_
    refine va_get (D := D) (ci := 3) (v := .ref (E 0)) (C := RX3) (T := TX3) (N := 2) hx hb hts hinX3 hown hK hP (0) rfl rfl 0 (by decide) hf12 (fun _ h9 => h9) rfl dX3_count_21 ?_
    refine lv_iload_n hx hb dX3_count_24 rfl (lv_at hl 1 rfl) ?_
    refine zcRV (As := [.int 0]) (rest := []) (st1 := [.int (nI n)]) ⟨hx, hb, hml, hown, hts⟩ (c_X1_fact_0 l D y E t o q b c bc n ar fi re  (by omega) (by omega)) (cwV 1 hts gX3_count_X1_fact rfl rfl rfl (by decide +kernel) ⟨Nat.le_of_ble_eq_true rfl, Nat.le_of_ble_eq_true rfl⟩) hK (z_sub_P hP (fun z h => List.mem_append_right _ (List.mem_append_left _ h))) (ci := 1) (q0 := 0) rfl rfl rfl rfl hl.1 rfl (lv_room (Nat.le_of_ble_eq_true rfl)) dX3_count_25 ⟨Nat.le_of_ble_eq_true rfl, Nat.le_of_ble_eq_true rfl⟩ rfl ?_
    exact zR_i hx hb hr hlocks dX3_count_28 rfl
  · exact absurd (zb_f c1) (by rw [(show inB 0 0 9 = true from by decide)]; decide)
set_option maxHeartbeats 4000000 in
set_option maxRecDepth 100000 in
theorem c_X3_count_1 (l : Launch) (D : va_G) (y : Nat → ClassId) (X0 : Nat) (E E2 : Nat → Nat) (t : Nat → Int32) (o : Nat → Nat) (q b : Fld) (c bc n : Nat) (ar fi re : Int32) (T : TS) (hc : c ≤ 6) (hn : n < 2147483648) : zR l yX3_count wsX3_count { frames := 3, cells := 0, slots := 0, locals := 64 } D y [.ref X0, .int 1] (sW X0 E E2 y t o q b c bc n ar fi re T) (some (.int ((moonI n)))) := by
  refine zR.of (cc := cX3_count) (maxL := 2) (ret := (some .int)) (own := RX3) (by decide) rfl (Nat.le_of_ble_eq_true rfl) rfl ?_
  intro p e s m args below meth cd ls hx hb hr hml hown hts hlocks hP hK hl
  have hl : lv_has ls 2 [(0, .ref X0), (1, .int 1)] := hl
  have hf12 : (Cond.fieldLink RX3 12 "StakeWeirs" "now" "LStakeWeirs$Estuary;").before args s = true := hts _ (by decide +kernel)
  have hinX3 : ∀ w ∈ wsX30, w ∈ wsX3_count := by decide +kernel
  refine lv_iload_n hx hb dX3_count_0 rfl (lv_at hl 1 rfl) ?_
  refine lv_iconst (v := 0) hx hb dX3_count_1 (by decide) ?_
  refine lv_bipush (v := 9) hx hb dX3_count_2 (by decide) ?_
  refine zcRS (As := [.int 1, .int 0, .int 9]) (rest := []) (st1 := [.int (zb (inB 0 1 9))]) ⟨hx, hb, hml, hown, hts⟩ (c_X3_isWithin l D y 1 0 9) (cwS 3 hts gX3_count_X3_isWithin rfl rfl rfl (by decide +kernel) ⟨Nat.le_of_ble_eq_true rfl, Nat.le_of_ble_eq_true rfl⟩) hK va_P_nil rfl hl.1 rfl (lv_room (Nat.le_of_ble_eq_true rfl)) dX3_count_4 ⟨Nat.le_of_ble_eq_true rfl, Nat.le_of_ble_eq_true rfl⟩ rfl ?_
  refine lv_if_ne (tgt := 20) hx hb dX3_count_7 (by decide) (fun c1 => ?_) (fun c1 => ?_)
  · have c1 := c1
    refine lv_aload_n hx hb dX3_count_20 rfl (lv_at hl 0 rfl) ?_
    refine va_get (D := D) (ci := 3) (v := .ref (E 0)) (C := RX3) (T := TX3) (N := 2) hx hb hts hinX3 hown hK hP (0) rfl rfl 0 (by decide) hf12 (fun _ h9 => h9) rfl dX3_count_21 ?_
    refine lv_iload_n hx hb dX3_count_24 rfl (lv_at hl 1 rfl) ?_
    refine zcRV (As := [.int 1]) (rest := []) (st1 := [.int ((moonI n))]) ⟨hx, hb, hml, hown, hts⟩ (c_X1_fact_1 l D y E t o q b c bc n ar fi re  (by omega) (by omega)) (cwV 1 hts gX3_count_X1_fact rfl rfl rfl (by decide +kernel) ⟨Nat.le_of_ble_eq_true rfl, Nat.le_of_ble_eq_true rfl⟩) hK (z_sub_P hP (fun z h => List.mem_append_right _ (List.mem_append_left _ h))) (ci := 1) (q0 := 0) rfl rfl rfl rfl hl.1 rfl (lv_room (Nat.le_of_ble_eq_true rfl)) dX3_count_25 ⟨Nat.le_of_ble_eq_true rfl, Nat.le_of_ble_eq_true rfl⟩ rfl ?_
    exact zR_i hx hb hr hlocks dX3_count_28 rfl
  · exact absurd (zb_f c1) (by rw [(show inB 0 1 9 = true from by decide)]; decide)
set_option maxHeartbeats 4000000 in
set_option maxRecDepth 100000 in
theorem c_X3_count_2 (l : Launch) (D : va_G) (y : Nat → ClassId) (X0 : Nat) (E E2 : Nat → Nat) (t : Nat → Int32) (o : Nat → Nat) (q b : Fld) (c bc n : Nat) (ar fi re : Int32) (T : TS) (hc : c ≤ 6) (hn : n < 2147483648) : zR l yX3_count wsX3_count { frames := 4, cells := 0, slots := 0, locals := 86 } D y [.ref X0, .int 2] (sW X0 E E2 y t o q b c bc n ar fi re T) (some (.int ((runI t n)))) := by
  refine zR.of (cc := cX3_count) (maxL := 2) (ret := (some .int)) (own := RX3) (by decide) rfl (Nat.le_of_ble_eq_true rfl) rfl ?_
  intro p e s m args below meth cd ls hx hb hr hml hown hts hlocks hP hK hl
  have hl : lv_has ls 2 [(0, .ref X0), (1, .int 2)] := hl
  have hf12 : (Cond.fieldLink RX3 12 "StakeWeirs" "now" "LStakeWeirs$Estuary;").before args s = true := hts _ (by decide +kernel)
  have hinX3 : ∀ w ∈ wsX30, w ∈ wsX3_count := by decide +kernel
  refine lv_iload_n hx hb dX3_count_0 rfl (lv_at hl 1 rfl) ?_
  refine lv_iconst (v := 0) hx hb dX3_count_1 (by decide) ?_
  refine lv_bipush (v := 9) hx hb dX3_count_2 (by decide) ?_
  refine zcRS (As := [.int 2, .int 0, .int 9]) (rest := []) (st1 := [.int (zb (inB 0 2 9))]) ⟨hx, hb, hml, hown, hts⟩ (c_X3_isWithin l D y 2 0 9) (cwS 3 hts gX3_count_X3_isWithin rfl rfl rfl (by decide +kernel) ⟨Nat.le_of_ble_eq_true rfl, Nat.le_of_ble_eq_true rfl⟩) hK va_P_nil rfl hl.1 rfl (lv_room (Nat.le_of_ble_eq_true rfl)) dX3_count_4 ⟨Nat.le_of_ble_eq_true rfl, Nat.le_of_ble_eq_true rfl⟩ rfl ?_
  refine lv_if_ne (tgt := 20) hx hb dX3_count_7 (by decide) (fun c1 => ?_) (fun c1 => ?_)
  · have c1 := c1
    refine lv_aload_n hx hb dX3_count_20 rfl (lv_at hl 0 rfl) ?_
    refine va_get (D := D) (ci := 3) (v := .ref (E 0)) (C := RX3) (T := TX3) (N := 2) hx hb hts hinX3 hown hK hP (0) rfl rfl 0 (by decide) hf12 (fun _ h9 => h9) rfl dX3_count_21 ?_
    refine lv_iload_n hx hb dX3_count_24 rfl (lv_at hl 1 rfl) ?_
    refine zcRV (As := [.int 2]) (rest := []) (st1 := [.int ((runI t n))]) ⟨hx, hb, hml, hown, hts⟩ (c_X1_fact_2 l D y E t o q b c bc n ar fi re  (by omega) (by omega)) (cwV 1 hts gX3_count_X1_fact rfl rfl rfl (by decide +kernel) ⟨Nat.le_of_ble_eq_true rfl, Nat.le_of_ble_eq_true rfl⟩) hK (z_sub_P hP (fun z h => List.mem_append_right _ (List.mem_append_left _ h))) (ci := 1) (q0 := 0) rfl rfl rfl rfl hl.1 rfl (lv_room (Nat.le_of_ble_eq_true rfl)) dX3_count_25 ⟨Nat.le_of_ble_eq_true rfl, Nat.le_of_ble_eq_true rfl⟩ rfl ?_
    exact zR_i hx hb hr hlocks dX3_count_28 rfl
  · exact absurd (zb_f c1) (by rw [(show inB 0 2 9 = true from by decide)]; decide)
set_option maxHeartbeats 4000000 in
set_option maxRecDepth 100000 in
theorem c_X3_count_3 (l : Launch) (D : va_G) (y : Nat → ClassId) (X0 : Nat) (E E2 : Nat → Nat) (t : Nat → Int32) (o : Nat → Nat) (q b : Fld) (c bc n : Nat) (ar fi re : Int32) (T : TS) (hc : c ≤ 6) (hn : n < 2147483648) : zR l yX3_count wsX3_count { frames := 1, cells := 0, slots := 0, locals := 22 } D y [.ref X0, .int 3] (sW X0 E E2 y t o q b c bc n ar fi re T) (some (.int (nI c))) := by
  refine zR.of (cc := cX3_count) (maxL := 2) (ret := (some .int)) (own := RX3) (by decide) rfl (Nat.le_of_ble_eq_true rfl) rfl ?_
  intro p e s m args below meth cd ls hx hb hr hml hown hts hlocks hP hK hl
  have hl : lv_has ls 2 [(0, .ref X0), (1, .int 3)] := hl
  have hf12 : (Cond.fieldLink RX3 12 "StakeWeirs" "now" "LStakeWeirs$Estuary;").before args s = true := hts _ (by decide +kernel)
  have hinX3 : ∀ w ∈ wsX30, w ∈ wsX3_count := by decide +kernel
  refine lv_iload_n hx hb dX3_count_0 rfl (lv_at hl 1 rfl) ?_
  refine lv_iconst (v := 0) hx hb dX3_count_1 (by decide) ?_
  refine lv_bipush (v := 9) hx hb dX3_count_2 (by decide) ?_
  refine zcRS (As := [.int 3, .int 0, .int 9]) (rest := []) (st1 := [.int (zb (inB 0 3 9))]) ⟨hx, hb, hml, hown, hts⟩ (c_X3_isWithin l D y 3 0 9) (cwS 3 hts gX3_count_X3_isWithin rfl rfl rfl (by decide +kernel) ⟨Nat.le_of_ble_eq_true rfl, Nat.le_of_ble_eq_true rfl⟩) hK va_P_nil rfl hl.1 rfl (lv_room (Nat.le_of_ble_eq_true rfl)) dX3_count_4 ⟨Nat.le_of_ble_eq_true rfl, Nat.le_of_ble_eq_true rfl⟩ rfl ?_
  refine lv_if_ne (tgt := 20) hx hb dX3_count_7 (by decide) (fun c1 => ?_) (fun c1 => ?_)
  · have c1 := c1
    refine lv_aload_n hx hb dX3_count_20 rfl (lv_at hl 0 rfl) ?_
    refine va_get (D := D) (ci := 3) (v := .ref (E 0)) (C := RX3) (T := TX3) (N := 2) hx hb hts hinX3 hown hK hP (0) rfl rfl 0 (by decide) hf12 (fun _ h9 => h9) rfl dX3_count_21 ?_
    refine lv_iload_n hx hb dX3_count_24 rfl (lv_at hl 1 rfl) ?_
    refine zcRV (As := [.int 3]) (rest := []) (st1 := [.int (nI c)]) ⟨hx, hb, hml, hown, hts⟩ (c_X1_fact_3 l D y E t o q b c bc n ar fi re  (by omega) (by omega)) (cwV 1 hts gX3_count_X1_fact rfl rfl rfl (by decide +kernel) ⟨Nat.le_of_ble_eq_true rfl, Nat.le_of_ble_eq_true rfl⟩) hK (z_sub_P hP (fun z h => List.mem_append_right _ (List.mem_append_left _ h))) (ci := 1) (q0 := 0) rfl rfl rfl rfl hl.1 rfl (lv_room (Nat.le_of_ble_eq_true rfl)) dX3_count_25 ⟨Nat.le_of_ble_eq_true rfl, Nat.le_of_ble_eq_true rfl⟩ rfl ?_
    exact zR_i hx hb hr hlocks dX3_count_28 rfl
  · exact absurd (zb_f c1) (by rw [(show inB 0 3 9 = true from by decide)]; decide)
set_option maxHeartbeats 4000000 in
set_option maxRecDepth 100000 in
theorem c_X3_count_4 (l : Launch) (D : va_G) (y : Nat → ClassId) (X0 : Nat) (E E2 : Nat → Nat) (t : Nat → Int32) (o : Nat → Nat) (q b : Fld) (c bc n : Nat) (ar fi re : Int32) (T : TS) (hc : c ≤ 6) (hn : n < 2147483648) : zR l yX3_count wsX3_count { frames := 3, cells := 0, slots := 0, locals := 66 } D y [.ref X0, .int 4] (sW X0 E E2 y t o q b c bc n ar fi re T) (some (.int ((heldN q c)))) := by
  refine zR.of (cc := cX3_count) (maxL := 2) (ret := (some .int)) (own := RX3) (by decide) rfl (Nat.le_of_ble_eq_true rfl) rfl ?_
  intro p e s m args below meth cd ls hx hb hr hml hown hts hlocks hP hK hl
  have hl : lv_has ls 2 [(0, .ref X0), (1, .int 4)] := hl
  have hf12 : (Cond.fieldLink RX3 12 "StakeWeirs" "now" "LStakeWeirs$Estuary;").before args s = true := hts _ (by decide +kernel)
  have hinX3 : ∀ w ∈ wsX30, w ∈ wsX3_count := by decide +kernel
  refine lv_iload_n hx hb dX3_count_0 rfl (lv_at hl 1 rfl) ?_
  refine lv_iconst (v := 0) hx hb dX3_count_1 (by decide) ?_
  refine lv_bipush (v := 9) hx hb dX3_count_2 (by decide) ?_
  refine zcRS (As := [.int 4, .int 0, .int 9]) (rest := []) (st1 := [.int (zb (inB 0 4 9))]) ⟨hx, hb, hml, hown, hts⟩ (c_X3_isWithin l D y 4 0 9) (cwS 3 hts gX3_count_X3_isWithin rfl rfl rfl (by decide +kernel) ⟨Nat.le_of_ble_eq_true rfl, Nat.le_of_ble_eq_true rfl⟩) hK va_P_nil rfl hl.1 rfl (lv_room (Nat.le_of_ble_eq_true rfl)) dX3_count_4 ⟨Nat.le_of_ble_eq_true rfl, Nat.le_of_ble_eq_true rfl⟩ rfl ?_
  refine lv_if_ne (tgt := 20) hx hb dX3_count_7 (by decide) (fun c1 => ?_) (fun c1 => ?_)
  · have c1 := c1
    refine lv_aload_n hx hb dX3_count_20 rfl (lv_at hl 0 rfl) ?_
    refine va_get (D := D) (ci := 3) (v := .ref (E 0)) (C := RX3) (T := TX3) (N := 2) hx hb hts hinX3 hown hK hP (0) rfl rfl 0 (by decide) hf12 (fun _ h9 => h9) rfl dX3_count_21 ?_
    refine lv_iload_n hx hb dX3_count_24 rfl (lv_at hl 1 rfl) ?_
    refine zcRV (As := [.int 4]) (rest := []) (st1 := [.int ((heldN q c))]) ⟨hx, hb, hml, hown, hts⟩ (c_X1_fact_4 l D y E t o q b c bc n ar fi re  (by omega) (by omega)) (cwV 1 hts gX3_count_X1_fact rfl rfl rfl (by decide +kernel) ⟨Nat.le_of_ble_eq_true rfl, Nat.le_of_ble_eq_true rfl⟩) hK (z_sub_P hP (fun z h => List.mem_append_right _ (List.mem_append_left _ h))) (ci := 1) (q0 := 0) rfl rfl rfl rfl hl.1 rfl (lv_room (Nat.le_of_ble_eq_true rfl)) dX3_count_25 ⟨Nat.le_of_ble_eq_true rfl, Nat.le_of_ble_eq_true rfl⟩ rfl ?_
    exact zR_i hx hb hr hlocks dX3_count_28 rfl
  · exact absurd (zb_f c1) (by rw [(show inB 0 4 9 = true from by decide)]; decide)
set_option maxHeartbeats 4000000 in
set_option maxRecDepth 100000 in
theorem c_X3_count_5 (l : Launch) (D : va_G) (y : Nat → ClassId) (X0 : Nat) (E E2 : Nat → Nat) (t : Nat → Int32) (o : Nat → Nat) (q b : Fld) (c bc n : Nat) (ar fi re : Int32) (T : TS) (hc : c ≤ 6) (hn : n < 2147483648) : zR l yX3_count wsX3_count { frames := 1, cells := 0, slots := 0, locals := 22 } D y [.ref X0, .int 5] (sW X0 E E2 y t o q b c bc n ar fi re T) (some (.int (nI bc))) := by
  refine zR.of (cc := cX3_count) (maxL := 2) (ret := (some .int)) (own := RX3) (by decide) rfl (Nat.le_of_ble_eq_true rfl) rfl ?_
  intro p e s m args below meth cd ls hx hb hr hml hown hts hlocks hP hK hl
  have hl : lv_has ls 2 [(0, .ref X0), (1, .int 5)] := hl
  have hf12 : (Cond.fieldLink RX3 12 "StakeWeirs" "now" "LStakeWeirs$Estuary;").before args s = true := hts _ (by decide +kernel)
  have hinX3 : ∀ w ∈ wsX30, w ∈ wsX3_count := by decide +kernel
  refine lv_iload_n hx hb dX3_count_0 rfl (lv_at hl 1 rfl) ?_
  refine lv_iconst (v := 0) hx hb dX3_count_1 (by decide) ?_
  refine lv_bipush (v := 9) hx hb dX3_count_2 (by decide) ?_
  refine zcRS (As := [.int 5, .int 0, .int 9]) (rest := []) (st1 := [.int (zb (inB 0 5 9))]) ⟨hx, hb, hml, hown, hts⟩ (c_X3_isWithin l D y 5 0 9) (cwS 3 hts gX3_count_X3_isWithin rfl rfl rfl (by decide +kernel) ⟨Nat.le_of_ble_eq_true rfl, Nat.le_of_ble_eq_true rfl⟩) hK va_P_nil rfl hl.1 rfl (lv_room (Nat.le_of_ble_eq_true rfl)) dX3_count_4 ⟨Nat.le_of_ble_eq_true rfl, Nat.le_of_ble_eq_true rfl⟩ rfl ?_
  refine lv_if_ne (tgt := 20) hx hb dX3_count_7 (by decide) (fun c1 => ?_) (fun c1 => ?_)
  · have c1 := c1
    refine lv_aload_n hx hb dX3_count_20 rfl (lv_at hl 0 rfl) ?_
    refine va_get (D := D) (ci := 3) (v := .ref (E 0)) (C := RX3) (T := TX3) (N := 2) hx hb hts hinX3 hown hK hP (0) rfl rfl 0 (by decide) hf12 (fun _ h9 => h9) rfl dX3_count_21 ?_
    refine lv_iload_n hx hb dX3_count_24 rfl (lv_at hl 1 rfl) ?_
    refine zcRV (As := [.int 5]) (rest := []) (st1 := [.int (nI bc)]) ⟨hx, hb, hml, hown, hts⟩ (c_X1_fact_5 l D y E t o q b c bc n ar fi re  (by omega) (by omega)) (cwV 1 hts gX3_count_X1_fact rfl rfl rfl (by decide +kernel) ⟨Nat.le_of_ble_eq_true rfl, Nat.le_of_ble_eq_true rfl⟩) hK (z_sub_P hP (fun z h => List.mem_append_right _ (List.mem_append_left _ h))) (ci := 1) (q0 := 0) rfl rfl rfl rfl hl.1 rfl (lv_room (Nat.le_of_ble_eq_true rfl)) dX3_count_25 ⟨Nat.le_of_ble_eq_true rfl, Nat.le_of_ble_eq_true rfl⟩ rfl ?_
    exact zR_i hx hb hr hlocks dX3_count_28 rfl
  · exact absurd (zb_f c1) (by rw [(show inB 0 5 9 = true from by decide)]; decide)
set_option maxHeartbeats 4000000 in
set_option maxRecDepth 100000 in
theorem c_X3_count_6 (l : Launch) (D : va_G) (y : Nat → ClassId) (X0 : Nat) (E E2 : Nat → Nat) (t : Nat → Int32) (o : Nat → Nat) (q b : Fld) (c bc n : Nat) (ar fi re : Int32) (T : TS) (hc : c ≤ 6) (hn : n < 2147483648) : zR l yX3_count wsX3_count { frames := 1, cells := 0, slots := 0, locals := 22 } D y [.ref X0, .int 6] (sW X0 E E2 y t o q b c bc n ar fi re T) (some (.int (ar))) := by
  refine zR.of (cc := cX3_count) (maxL := 2) (ret := (some .int)) (own := RX3) (by decide) rfl (Nat.le_of_ble_eq_true rfl) rfl ?_
  intro p e s m args below meth cd ls hx hb hr hml hown hts hlocks hP hK hl
  have hl : lv_has ls 2 [(0, .ref X0), (1, .int 6)] := hl
  have hf12 : (Cond.fieldLink RX3 12 "StakeWeirs" "now" "LStakeWeirs$Estuary;").before args s = true := hts _ (by decide +kernel)
  have hinX3 : ∀ w ∈ wsX30, w ∈ wsX3_count := by decide +kernel
  refine lv_iload_n hx hb dX3_count_0 rfl (lv_at hl 1 rfl) ?_
  refine lv_iconst (v := 0) hx hb dX3_count_1 (by decide) ?_
  refine lv_bipush (v := 9) hx hb dX3_count_2 (by decide) ?_
  refine zcRS (As := [.int 6, .int 0, .int 9]) (rest := []) (st1 := [.int (zb (inB 0 6 9))]) ⟨hx, hb, hml, hown, hts⟩ (c_X3_isWithin l D y 6 0 9) (cwS 3 hts gX3_count_X3_isWithin rfl rfl rfl (by decide +kernel) ⟨Nat.le_of_ble_eq_true rfl, Nat.le_of_ble_eq_true rfl⟩) hK va_P_nil rfl hl.1 rfl (lv_room (Nat.le_of_ble_eq_true rfl)) dX3_count_4 ⟨Nat.le_of_ble_eq_true rfl, Nat.le_of_ble_eq_true rfl⟩ rfl ?_
  refine lv_if_ne (tgt := 20) hx hb dX3_count_7 (by decide) (fun c1 => ?_) (fun c1 => ?_)
  · have c1 := c1
    refine lv_aload_n hx hb dX3_count_20 rfl (lv_at hl 0 rfl) ?_
    refine va_get (D := D) (ci := 3) (v := .ref (E 0)) (C := RX3) (T := TX3) (N := 2) hx hb hts hinX3 hown hK hP (0) rfl rfl 0 (by decide) hf12 (fun _ h9 => h9) rfl dX3_count_21 ?_
    refine lv_iload_n hx hb dX3_count_24 rfl (lv_at hl 1 rfl) ?_
    refine zcRV (As := [.int 6]) (rest := []) (st1 := [.int ar]) ⟨hx, hb, hml, hown, hts⟩ (c_X1_fact_6 l D y E t o q b c bc n ar fi re  (by omega) (by omega)) (cwV 1 hts gX3_count_X1_fact rfl rfl rfl (by decide +kernel) ⟨Nat.le_of_ble_eq_true rfl, Nat.le_of_ble_eq_true rfl⟩) hK (z_sub_P hP (fun z h => List.mem_append_right _ (List.mem_append_left _ h))) (ci := 1) (q0 := 0) rfl rfl rfl rfl hl.1 rfl (lv_room (Nat.le_of_ble_eq_true rfl)) dX3_count_25 ⟨Nat.le_of_ble_eq_true rfl, Nat.le_of_ble_eq_true rfl⟩ rfl ?_
    exact zR_i hx hb hr hlocks dX3_count_28 rfl
  · exact absurd (zb_f c1) (by rw [(show inB 0 6 9 = true from by decide)]; decide)
set_option maxHeartbeats 4000000 in
set_option maxRecDepth 100000 in
theorem c_X3_count_7 (l : Launch) (D : va_G) (y : Nat → ClassId) (X0 : Nat) (E E2 : Nat → Nat) (t : Nat → Int32) (o : Nat → Nat) (q b : Fld) (c bc n : Nat) (ar fi re : Int32) (T : TS) (hc : c ≤ 6) (hn : n < 2147483648) : zR l yX3_count wsX3_count { frames := 1, cells := 0, slots := 0, locals := 22 } D y [.ref X0, .int 7] (sW X0 E E2 y t o q b c bc n ar fi re T) (some (.int (fi))) := by
  refine zR.of (cc := cX3_count) (maxL := 2) (ret := (some .int)) (own := RX3) (by decide) rfl (Nat.le_of_ble_eq_true rfl) rfl ?_
  intro p e s m args below meth cd ls hx hb hr hml hown hts hlocks hP hK hl
  have hl : lv_has ls 2 [(0, .ref X0), (1, .int 7)] := hl
  have hf12 : (Cond.fieldLink RX3 12 "StakeWeirs" "now" "LStakeWeirs$Estuary;").before args s = true := hts _ (by decide +kernel)
  have hinX3 : ∀ w ∈ wsX30, w ∈ wsX3_count := by decide +kernel
  refine lv_iload_n hx hb dX3_count_0 rfl (lv_at hl 1 rfl) ?_
  refine lv_iconst (v := 0) hx hb dX3_count_1 (by decide) ?_
  refine lv_bipush (v := 9) hx hb dX3_count_2 (by decide) ?_
  refine zcRS (As := [.int 7, .int 0, .int 9]) (rest := []) (st1 := [.int (zb (inB 0 7 9))]) ⟨hx, hb, hml, hown, hts⟩ (c_X3_isWithin l D y 7 0 9) (cwS 3 hts gX3_count_X3_isWithin rfl rfl rfl (by decide +kernel) ⟨Nat.le_of_ble_eq_true rfl, Nat.le_of_ble_eq_true rfl⟩) hK va_P_nil rfl hl.1 rfl (lv_room (Nat.le_of_ble_eq_true rfl)) dX3_count_4 ⟨Nat.le_of_ble_eq_true rfl, Nat.le_of_ble_eq_true rfl⟩ rfl ?_
  refine lv_if_ne (tgt := 20) hx hb dX3_count_7 (by decide) (fun c1 => ?_) (fun c1 => ?_)
  · have c1 := c1
    refine lv_aload_n hx hb dX3_count_20 rfl (lv_at hl 0 rfl) ?_
    refine va_get (D := D) (ci := 3) (v := .ref (E 0)) (C := RX3) (T := TX3) (N := 2) hx hb hts hinX3 hown hK hP (0) rfl rfl 0 (by decide) hf12 (fun _ h9 => h9) rfl dX3_count_21 ?_
    refine lv_iload_n hx hb dX3_count_24 rfl (lv_at hl 1 rfl) ?_
    refine zcRV (As := [.int 7]) (rest := []) (st1 := [.int fi]) ⟨hx, hb, hml, hown, hts⟩ (c_X1_fact_7 l D y E t o q b c bc n ar fi re  (by omega) (by omega)) (cwV 1 hts gX3_count_X1_fact rfl rfl rfl (by decide +kernel) ⟨Nat.le_of_ble_eq_true rfl, Nat.le_of_ble_eq_true rfl⟩) hK (z_sub_P hP (fun z h => List.mem_append_right _ (List.mem_append_left _ h))) (ci := 1) (q0 := 0) rfl rfl rfl rfl hl.1 rfl (lv_room (Nat.le_of_ble_eq_true rfl)) dX3_count_25 ⟨Nat.le_of_ble_eq_true rfl, Nat.le_of_ble_eq_true rfl⟩ rfl ?_
    exact zR_i hx hb hr hlocks dX3_count_28 rfl
  · exact absurd (zb_f c1) (by rw [(show inB 0 7 9 = true from by decide)]; decide)
set_option maxHeartbeats 4000000 in
set_option maxRecDepth 100000 in
theorem c_X3_count_8 (l : Launch) (D : va_G) (y : Nat → ClassId) (X0 : Nat) (E E2 : Nat → Nat) (t : Nat → Int32) (o : Nat → Nat) (q b : Fld) (c bc n : Nat) (ar fi re : Int32) (T : TS) (hc : c ≤ 6) (hn : n < 2147483648) : zR l yX3_count wsX3_count { frames := 1, cells := 0, slots := 0, locals := 22 } D y [.ref X0, .int 8] (sW X0 E E2 y t o q b c bc n ar fi re T) (some (.int (re))) := by
  refine zR.of (cc := cX3_count) (maxL := 2) (ret := (some .int)) (own := RX3) (by decide) rfl (Nat.le_of_ble_eq_true rfl) rfl ?_
  intro p e s m args below meth cd ls hx hb hr hml hown hts hlocks hP hK hl
  have hl : lv_has ls 2 [(0, .ref X0), (1, .int 8)] := hl
  have hf12 : (Cond.fieldLink RX3 12 "StakeWeirs" "now" "LStakeWeirs$Estuary;").before args s = true := hts _ (by decide +kernel)
  have hinX3 : ∀ w ∈ wsX30, w ∈ wsX3_count := by decide +kernel
  refine lv_iload_n hx hb dX3_count_0 rfl (lv_at hl 1 rfl) ?_
  refine lv_iconst (v := 0) hx hb dX3_count_1 (by decide) ?_
  refine lv_bipush (v := 9) hx hb dX3_count_2 (by decide) ?_
  refine zcRS (As := [.int 8, .int 0, .int 9]) (rest := []) (st1 := [.int (zb (inB 0 8 9))]) ⟨hx, hb, hml, hown, hts⟩ (c_X3_isWithin l D y 8 0 9) (cwS 3 hts gX3_count_X3_isWithin rfl rfl rfl (by decide +kernel) ⟨Nat.le_of_ble_eq_true rfl, Nat.le_of_ble_eq_true rfl⟩) hK va_P_nil rfl hl.1 rfl (lv_room (Nat.le_of_ble_eq_true rfl)) dX3_count_4 ⟨Nat.le_of_ble_eq_true rfl, Nat.le_of_ble_eq_true rfl⟩ rfl ?_
  refine lv_if_ne (tgt := 20) hx hb dX3_count_7 (by decide) (fun c1 => ?_) (fun c1 => ?_)
  · have c1 := c1
    refine lv_aload_n hx hb dX3_count_20 rfl (lv_at hl 0 rfl) ?_
    refine va_get (D := D) (ci := 3) (v := .ref (E 0)) (C := RX3) (T := TX3) (N := 2) hx hb hts hinX3 hown hK hP (0) rfl rfl 0 (by decide) hf12 (fun _ h9 => h9) rfl dX3_count_21 ?_
    refine lv_iload_n hx hb dX3_count_24 rfl (lv_at hl 1 rfl) ?_
    refine zcRV (As := [.int 8]) (rest := []) (st1 := [.int re]) ⟨hx, hb, hml, hown, hts⟩ (c_X1_fact_8 l D y E t o q b c bc n ar fi re  (by omega) (by omega)) (cwV 1 hts gX3_count_X1_fact rfl rfl rfl (by decide +kernel) ⟨Nat.le_of_ble_eq_true rfl, Nat.le_of_ble_eq_true rfl⟩) hK (z_sub_P hP (fun z h => List.mem_append_right _ (List.mem_append_left _ h))) (ci := 1) (q0 := 0) rfl rfl rfl rfl hl.1 rfl (lv_room (Nat.le_of_ble_eq_true rfl)) dX3_count_25 ⟨Nat.le_of_ble_eq_true rfl, Nat.le_of_ble_eq_true rfl⟩ rfl ?_
    exact zR_i hx hb hr hlocks dX3_count_28 rfl
  · exact absurd (zb_f c1) (by rw [(show inB 0 8 9 = true from by decide)]; decide)
set_option maxHeartbeats 4000000 in
set_option maxRecDepth 100000 in
theorem c_X3_count_9 (l : Launch) (D : va_G) (y : Nat → ClassId) (X0 : Nat) (E E2 : Nat → Nat) (t : Nat → Int32) (o : Nat → Nat) (q b : Fld) (c bc n : Nat) (ar fi re : Int32) (T : TS) (hc : c ≤ 6) (hn : n < 2147483648) : zR l yX3_count wsX3_count { frames := 3, cells := 0, slots := 0, locals := 66 } D y [.ref X0, .int 9] (sW X0 E E2 y t o q b c bc n ar fi re T) (some (.int ((eelsN q c)))) := by
  refine zR.of (cc := cX3_count) (maxL := 2) (ret := (some .int)) (own := RX3) (by decide) rfl (Nat.le_of_ble_eq_true rfl) rfl ?_
  intro p e s m args below meth cd ls hx hb hr hml hown hts hlocks hP hK hl
  have hl : lv_has ls 2 [(0, .ref X0), (1, .int 9)] := hl
  have hf12 : (Cond.fieldLink RX3 12 "StakeWeirs" "now" "LStakeWeirs$Estuary;").before args s = true := hts _ (by decide +kernel)
  have hinX3 : ∀ w ∈ wsX30, w ∈ wsX3_count := by decide +kernel
  refine lv_iload_n hx hb dX3_count_0 rfl (lv_at hl 1 rfl) ?_
  refine lv_iconst (v := 0) hx hb dX3_count_1 (by decide) ?_
  refine lv_bipush (v := 9) hx hb dX3_count_2 (by decide) ?_
  refine zcRS (As := [.int 9, .int 0, .int 9]) (rest := []) (st1 := [.int (zb (inB 0 9 9))]) ⟨hx, hb, hml, hown, hts⟩ (c_X3_isWithin l D y 9 0 9) (cwS 3 hts gX3_count_X3_isWithin rfl rfl rfl (by decide +kernel) ⟨Nat.le_of_ble_eq_true rfl, Nat.le_of_ble_eq_true rfl⟩) hK va_P_nil rfl hl.1 rfl (lv_room (Nat.le_of_ble_eq_true rfl)) dX3_count_4 ⟨Nat.le_of_ble_eq_true rfl, Nat.le_of_ble_eq_true rfl⟩ rfl ?_
  refine lv_if_ne (tgt := 20) hx hb dX3_count_7 (by decide) (fun c1 => ?_) (fun c1 => ?_)
  · have c1 := c1
    refine lv_aload_n hx hb dX3_count_20 rfl (lv_at hl 0 rfl) ?_
    refine va_get (D := D) (ci := 3) (v := .ref (E 0)) (C := RX3) (T := TX3) (N := 2) hx hb hts hinX3 hown hK hP (0) rfl rfl 0 (by decide) hf12 (fun _ h9 => h9) rfl dX3_count_21 ?_
    refine lv_iload_n hx hb dX3_count_24 rfl (lv_at hl 1 rfl) ?_
    refine zcRV (As := [.int 9]) (rest := []) (st1 := [.int ((eelsN q c))]) ⟨hx, hb, hml, hown, hts⟩ (c_X1_fact_9 l D y E t o q b c bc n ar fi re  (by omega) (by omega)) (cwV 1 hts gX3_count_X1_fact rfl rfl rfl (by decide +kernel) ⟨Nat.le_of_ble_eq_true rfl, Nat.le_of_ble_eq_true rfl⟩) hK (z_sub_P hP (fun z h => List.mem_append_right _ (List.mem_append_left _ h))) (ci := 1) (q0 := 0) rfl rfl rfl rfl hl.1 rfl (lv_room (Nat.le_of_ble_eq_true rfl)) dX3_count_25 ⟨Nat.le_of_ble_eq_true rfl, Nat.le_of_ble_eq_true rfl⟩ rfl ?_
    exact zR_i hx hb hr hlocks dX3_count_28 rfl
  · exact absurd (zb_f c1) (by rw [(show inB 0 9 9 = true from by decide)]; decide)
set_option maxHeartbeats 4000000 in
set_option maxRecDepth 100000 in
theorem c_X3_count_T1 (l : Launch) (hl0 : l.stackTraces = false) (D : va_G) (y : Nat → ClassId) (X0 : Nat) (E E2 : Nat → Nat) (t : Nat → Int32) (o : Nat → Nat) (q b : Fld) (c bc n : Nat) (ar fi re : Int32) (T : TS) (x : Int32) (hw : inB 0 x 9 = false) : zT l yX3_count wsX3_count { frames := 6, cells := 1, slots := 6, locals := 90 } D y [.ref X0, .int x] (sW X0 E E2 y t o q b c bc n ar fi re T) "java/lang/IndexOutOfBoundsException" := by
  refine zT.of (cc := cX3_count) (maxL := 2) (ret := (some .int)) (own := RX3) (by decide) rfl (Nat.le_of_ble_eq_true rfl) rfl ?_
  intro p e s m args below meth cd ls hx hb hr hml hown hts hlocks hP hK hT0 hout hl
  have hl : lv_has ls 2 [(0, .ref X0), (1, .int x)] := hl
  have hkl47 : (Cond.classLink RX3 47 "java/lang/IndexOutOfBoundsException").before args s = true := hts _ (by decide +kernel)
  have hini47 : (Cond.initialized "java/lang/IndexOutOfBoundsException").before args s = true := hts _ (by decide +kernel)
  refine lv_iload_n hx hb dX3_count_0 rfl (lv_at hl 1 rfl) ?_
  refine lv_iconst (v := 0) hx hb dX3_count_1 (by decide) ?_
  refine lv_bipush (v := 9) hx hb dX3_count_2 (by decide) ?_
  refine zcRS (As := [.int x, .int 0, .int 9]) (rest := []) (st1 := [.int (zb (inB 0 x 9))]) ⟨hx, hb, hml, hown, hts⟩ (c_X3_isWithin l D y x 0 9) (cwS 3 hts gX3_count_X3_isWithin rfl rfl rfl (by decide +kernel) ⟨Nat.le_of_ble_eq_true rfl, Nat.le_of_ble_eq_true rfl⟩) hK va_P_nil rfl hl.1 rfl (lv_room (Nat.le_of_ble_eq_true rfl)) dX3_count_4 ⟨Nat.le_of_ble_eq_true rfl, Nat.le_of_ble_eq_true rfl⟩ rfl ?_
  refine lv_if_ne (tgt := 20) hx hb dX3_count_7 (by decide) (fun c1 => ?_) (fun c1 => ?_)
  · exact absurd (zb_t c1) (by rw [hw]; decide)
  · have c1 := c1
    exact z_thr (cls := "java/lang/IndexOutOfBoundsException") (text := "what is not 0 to 9") (ik := 47) (is := 131) (ic := 51) hx hb hl0 hown (by decide +kernel) hkl47 hini47 hts (fun x h => List.mem_cons_of_mem _ (List.mem_append_right _ h)) zbad_51 (zgoodO_51 47) hT0 (by decide) hl.1 hml dX3_count_10 dX3_count_13 dX3_count_14 dX3_count_16 dX3_count_19 hout (Nat.le_of_ble_eq_true rfl) (Nat.le_of_ble_eq_true rfl) (Nat.le_of_ble_eq_true rfl) (Nat.le_of_ble_eq_true rfl) hlocks
set_option maxHeartbeats 4000000 in
set_option maxRecDepth 100000 in
theorem c_X3_about_0 (l : Launch) (D : va_G) (y : Nat → ClassId) (X0 : Nat) (E E2 : Nat → Nat) (t : Nat → Int32) (o : Nat → Nat) (q b : Fld) (c bc n : Nat) (ar fi re : Int32) (T : TS) (k : Nat) (hk : k < c) (hc : c ≤ 6) : zR l yX3_about wsX3_about { frames := 1, cells := 0, slots := 0, locals := 22 } D y [.ref X0, .int (nI k), .int 0] (sW X0 E E2 y t o q b c bc n ar fi re T) (some (.int (factW q k 0))) := by
  refine zR.of (cc := cX3_about) (maxL := 4) (ret := (some .int)) (own := RX3) (by decide) rfl (Nat.le_of_ble_eq_true rfl) rfl ?_
  intro p e s m args below meth cd ls hx hb hr hml hown hts hlocks hP hK hl
  have hl : lv_has ls 4 [(0, .ref X0), (1, .int (nI k)), (2, .int 0)] := hl
  have hf12 : (Cond.fieldLink RX3 12 "StakeWeirs" "now" "LStakeWeirs$Estuary;").before args s = true := hts _ (by decide +kernel)
  have hinX3 : ∀ w ∈ wsX30, w ∈ wsX3_about := by decide +kernel
  refine lv_aload_n hx hb dX3_about_0 rfl (lv_at hl 0 rfl) ?_
  refine va_get (D := D) (ci := 3) (v := .ref (E 0)) (C := RX3) (T := TX3) (N := 2) hx hb hts hinX3 hown hK hP (0) rfl rfl 0 (by decide) hf12 (fun _ h9 => h9) rfl dX3_about_1 ?_
  refine lv_iload_n hx hb dX3_about_4 rfl (lv_at hl 1 rfl) ?_
  refine zcRV (As := [.int (nI k)]) (rest := []) (st1 := [.ref (E (5 + k))]) ⟨hx, hb, hml, hown, hts⟩ (c_X1_weirAt l D y E t o q b c bc n ar fi re k (by omega) (by omega)) (cwV 1 hts gX3_about_X1_weirAt rfl rfl rfl (by decide +kernel) ⟨Nat.le_of_ble_eq_true rfl, Nat.le_of_ble_eq_true rfl⟩) hK (z_sub_P hP (fun z h => List.mem_append_right _ (List.mem_append_left _ h))) (ci := 1) (q0 := 0) rfl rfl rfl rfl hl.1 rfl (lv_room (Nat.le_of_ble_eq_true rfl)) dX3_about_5 ⟨Nat.le_of_ble_eq_true rfl, Nat.le_of_ble_eq_true rfl⟩ rfl ?_
  refine lv_astore_n (lv' := [(3, .ref (E (5 + k))), (0, .ref X0), (1, .int (nI k)), (2, .int 0)]) hx hb dX3_about_8 rfl hl (by decide) rfl (fun ls hl => ?_)
  refine lv_aload_n hx hb dX3_about_9 rfl (lv_at hl 0 rfl) ?_
  refine lv_ifnull hx hb dX3_about_10 ?_
  refine lv_iload_n hx hb dX3_about_13 rfl (lv_at hl 3 rfl) ?_
  refine lv_iconst (v := 0) hx hb dX3_about_14 (by decide) ?_
  refine lv_bipush (v := 7) hx hb dX3_about_15 (by decide) ?_
  refine zcRS (As := [.int 0, .int 0, .int 7]) (rest := []) (st1 := [.int (zb (inB 0 0 7))]) ⟨hx, hb, hml, hown, hts⟩ (c_X3_isWithin l D y 0 0 7) (cwS 3 hts gX3_about_X3_isWithin rfl rfl rfl (by decide +kernel) ⟨Nat.le_of_ble_eq_true rfl, Nat.le_of_ble_eq_true rfl⟩) hK va_P_nil rfl hl.1 rfl (lv_room (Nat.le_of_ble_eq_true rfl)) dX3_about_17 ⟨Nat.le_of_ble_eq_true rfl, Nat.le_of_ble_eq_true rfl⟩ rfl ?_
  refine lv_if_ne (tgt := 33) hx hb dX3_about_20 (by decide) (fun c1 => ?_) (fun c1 => ?_)
  · have c1 := c1
    refine lv_aload_n hx hb dX3_about_33 rfl (lv_at hl 0 rfl) ?_
    refine lv_iload_n hx hb dX3_about_34 rfl (lv_at hl 3 rfl) ?_
    refine zcRV (As := [.int 0]) (rest := []) (st1 := [.int ((factW q k 0))]) ⟨hx, hb, hml, hown, hts⟩ (c_X2_fact_0 l D y (E (5 + k)) q k) (cwV 1 hts gX3_about_X2_fact rfl rfl rfl (by decide +kernel) ⟨Nat.le_of_ble_eq_true rfl, Nat.le_of_ble_eq_true rfl⟩) hK (z_sub_P hP (z_in_1 (k := 1 + (5 + k)) (z_apr (n := 1) rfl (z_apl (eW_w (by omega)))))) (ci := 2) (q0 := 0) rfl rfl rfl rfl hl.1 rfl (lv_room (Nat.le_of_ble_eq_true rfl)) dX3_about_35 ⟨Nat.le_of_ble_eq_true rfl, Nat.le_of_ble_eq_true rfl⟩ rfl ?_
    exact zR_i hx hb hr hlocks dX3_about_38 rfl
  · exact absurd (zb_f c1) (by rw [(show inB 0 0 7 = true from by decide)]; decide)
set_option maxHeartbeats 4000000 in
set_option maxRecDepth 100000 in
theorem c_X3_about_1 (l : Launch) (D : va_G) (y : Nat → ClassId) (X0 : Nat) (E E2 : Nat → Nat) (t : Nat → Int32) (o : Nat → Nat) (q b : Fld) (c bc n : Nat) (ar fi re : Int32) (T : TS) (k : Nat) (hk : k < c) (hc : c ≤ 6) : zR l yX3_about wsX3_about { frames := 1, cells := 0, slots := 0, locals := 22 } D y [.ref X0, .int (nI k), .int 1] (sW X0 E E2 y t o q b c bc n ar fi re T) (some (.int (factW q k 1))) := by
  refine zR.of (cc := cX3_about) (maxL := 4) (ret := (some .int)) (own := RX3) (by decide) rfl (Nat.le_of_ble_eq_true rfl) rfl ?_
  intro p e s m args below meth cd ls hx hb hr hml hown hts hlocks hP hK hl
  have hl : lv_has ls 4 [(0, .ref X0), (1, .int (nI k)), (2, .int 1)] := hl
  have hf12 : (Cond.fieldLink RX3 12 "StakeWeirs" "now" "LStakeWeirs$Estuary;").before args s = true := hts _ (by decide +kernel)
  have hinX3 : ∀ w ∈ wsX30, w ∈ wsX3_about := by decide +kernel
  refine lv_aload_n hx hb dX3_about_0 rfl (lv_at hl 0 rfl) ?_
  refine va_get (D := D) (ci := 3) (v := .ref (E 0)) (C := RX3) (T := TX3) (N := 2) hx hb hts hinX3 hown hK hP (0) rfl rfl 0 (by decide) hf12 (fun _ h9 => h9) rfl dX3_about_1 ?_
  refine lv_iload_n hx hb dX3_about_4 rfl (lv_at hl 1 rfl) ?_
  refine zcRV (As := [.int (nI k)]) (rest := []) (st1 := [.ref (E (5 + k))]) ⟨hx, hb, hml, hown, hts⟩ (c_X1_weirAt l D y E t o q b c bc n ar fi re k (by omega) (by omega)) (cwV 1 hts gX3_about_X1_weirAt rfl rfl rfl (by decide +kernel) ⟨Nat.le_of_ble_eq_true rfl, Nat.le_of_ble_eq_true rfl⟩) hK (z_sub_P hP (fun z h => List.mem_append_right _ (List.mem_append_left _ h))) (ci := 1) (q0 := 0) rfl rfl rfl rfl hl.1 rfl (lv_room (Nat.le_of_ble_eq_true rfl)) dX3_about_5 ⟨Nat.le_of_ble_eq_true rfl, Nat.le_of_ble_eq_true rfl⟩ rfl ?_
  refine lv_astore_n (lv' := [(3, .ref (E (5 + k))), (0, .ref X0), (1, .int (nI k)), (2, .int 1)]) hx hb dX3_about_8 rfl hl (by decide) rfl (fun ls hl => ?_)
  refine lv_aload_n hx hb dX3_about_9 rfl (lv_at hl 0 rfl) ?_
  refine lv_ifnull hx hb dX3_about_10 ?_
  refine lv_iload_n hx hb dX3_about_13 rfl (lv_at hl 3 rfl) ?_
  refine lv_iconst (v := 0) hx hb dX3_about_14 (by decide) ?_
  refine lv_bipush (v := 7) hx hb dX3_about_15 (by decide) ?_
  refine zcRS (As := [.int 1, .int 0, .int 7]) (rest := []) (st1 := [.int (zb (inB 0 1 7))]) ⟨hx, hb, hml, hown, hts⟩ (c_X3_isWithin l D y 1 0 7) (cwS 3 hts gX3_about_X3_isWithin rfl rfl rfl (by decide +kernel) ⟨Nat.le_of_ble_eq_true rfl, Nat.le_of_ble_eq_true rfl⟩) hK va_P_nil rfl hl.1 rfl (lv_room (Nat.le_of_ble_eq_true rfl)) dX3_about_17 ⟨Nat.le_of_ble_eq_true rfl, Nat.le_of_ble_eq_true rfl⟩ rfl ?_
  refine lv_if_ne (tgt := 33) hx hb dX3_about_20 (by decide) (fun c1 => ?_) (fun c1 => ?_)
  · have c1 := c1
    refine lv_aload_n hx hb dX3_about_33 rfl (lv_at hl 0 rfl) ?_
    refine lv_iload_n hx hb dX3_about_34 rfl (lv_at hl 3 rfl) ?_
    refine zcRV (As := [.int 1]) (rest := []) (st1 := [.int ((factW q k 1))]) ⟨hx, hb, hml, hown, hts⟩ (c_X2_fact_1 l D y (E (5 + k)) q k) (cwV 1 hts gX3_about_X2_fact rfl rfl rfl (by decide +kernel) ⟨Nat.le_of_ble_eq_true rfl, Nat.le_of_ble_eq_true rfl⟩) hK (z_sub_P hP (z_in_1 (k := 1 + (5 + k)) (z_apr (n := 1) rfl (z_apl (eW_w (by omega)))))) (ci := 2) (q0 := 0) rfl rfl rfl rfl hl.1 rfl (lv_room (Nat.le_of_ble_eq_true rfl)) dX3_about_35 ⟨Nat.le_of_ble_eq_true rfl, Nat.le_of_ble_eq_true rfl⟩ rfl ?_
    exact zR_i hx hb hr hlocks dX3_about_38 rfl
  · exact absurd (zb_f c1) (by rw [(show inB 0 1 7 = true from by decide)]; decide)
set_option maxHeartbeats 4000000 in
set_option maxRecDepth 100000 in
theorem c_X3_about_2 (l : Launch) (D : va_G) (y : Nat → ClassId) (X0 : Nat) (E E2 : Nat → Nat) (t : Nat → Int32) (o : Nat → Nat) (q b : Fld) (c bc n : Nat) (ar fi re : Int32) (T : TS) (k : Nat) (hk : k < c) (hc : c ≤ 6) : zR l yX3_about wsX3_about { frames := 1, cells := 0, slots := 0, locals := 22 } D y [.ref X0, .int (nI k), .int 2] (sW X0 E E2 y t o q b c bc n ar fi re T) (some (.int (factW q k 2))) := by
  refine zR.of (cc := cX3_about) (maxL := 4) (ret := (some .int)) (own := RX3) (by decide) rfl (Nat.le_of_ble_eq_true rfl) rfl ?_
  intro p e s m args below meth cd ls hx hb hr hml hown hts hlocks hP hK hl
  have hl : lv_has ls 4 [(0, .ref X0), (1, .int (nI k)), (2, .int 2)] := hl
  have hf12 : (Cond.fieldLink RX3 12 "StakeWeirs" "now" "LStakeWeirs$Estuary;").before args s = true := hts _ (by decide +kernel)
  have hinX3 : ∀ w ∈ wsX30, w ∈ wsX3_about := by decide +kernel
  refine lv_aload_n hx hb dX3_about_0 rfl (lv_at hl 0 rfl) ?_
  refine va_get (D := D) (ci := 3) (v := .ref (E 0)) (C := RX3) (T := TX3) (N := 2) hx hb hts hinX3 hown hK hP (0) rfl rfl 0 (by decide) hf12 (fun _ h9 => h9) rfl dX3_about_1 ?_
  refine lv_iload_n hx hb dX3_about_4 rfl (lv_at hl 1 rfl) ?_
  refine zcRV (As := [.int (nI k)]) (rest := []) (st1 := [.ref (E (5 + k))]) ⟨hx, hb, hml, hown, hts⟩ (c_X1_weirAt l D y E t o q b c bc n ar fi re k (by omega) (by omega)) (cwV 1 hts gX3_about_X1_weirAt rfl rfl rfl (by decide +kernel) ⟨Nat.le_of_ble_eq_true rfl, Nat.le_of_ble_eq_true rfl⟩) hK (z_sub_P hP (fun z h => List.mem_append_right _ (List.mem_append_left _ h))) (ci := 1) (q0 := 0) rfl rfl rfl rfl hl.1 rfl (lv_room (Nat.le_of_ble_eq_true rfl)) dX3_about_5 ⟨Nat.le_of_ble_eq_true rfl, Nat.le_of_ble_eq_true rfl⟩ rfl ?_
  refine lv_astore_n (lv' := [(3, .ref (E (5 + k))), (0, .ref X0), (1, .int (nI k)), (2, .int 2)]) hx hb dX3_about_8 rfl hl (by decide) rfl (fun ls hl => ?_)
  refine lv_aload_n hx hb dX3_about_9 rfl (lv_at hl 0 rfl) ?_
  refine lv_ifnull hx hb dX3_about_10 ?_
  refine lv_iload_n hx hb dX3_about_13 rfl (lv_at hl 3 rfl) ?_
  refine lv_iconst (v := 0) hx hb dX3_about_14 (by decide) ?_
  refine lv_bipush (v := 7) hx hb dX3_about_15 (by decide) ?_
  refine zcRS (As := [.int 2, .int 0, .int 7]) (rest := []) (st1 := [.int (zb (inB 0 2 7))]) ⟨hx, hb, hml, hown, hts⟩ (c_X3_isWithin l D y 2 0 7) (cwS 3 hts gX3_about_X3_isWithin rfl rfl rfl (by decide +kernel) ⟨Nat.le_of_ble_eq_true rfl, Nat.le_of_ble_eq_true rfl⟩) hK va_P_nil rfl hl.1 rfl (lv_room (Nat.le_of_ble_eq_true rfl)) dX3_about_17 ⟨Nat.le_of_ble_eq_true rfl, Nat.le_of_ble_eq_true rfl⟩ rfl ?_
  refine lv_if_ne (tgt := 33) hx hb dX3_about_20 (by decide) (fun c1 => ?_) (fun c1 => ?_)
  · have c1 := c1
    refine lv_aload_n hx hb dX3_about_33 rfl (lv_at hl 0 rfl) ?_
    refine lv_iload_n hx hb dX3_about_34 rfl (lv_at hl 3 rfl) ?_
    refine zcRV (As := [.int 2]) (rest := []) (st1 := [.int ((factW q k 2))]) ⟨hx, hb, hml, hown, hts⟩ (c_X2_fact_2 l D y (E (5 + k)) q k) (cwV 1 hts gX3_about_X2_fact rfl rfl rfl (by decide +kernel) ⟨Nat.le_of_ble_eq_true rfl, Nat.le_of_ble_eq_true rfl⟩) hK (z_sub_P hP (z_in_1 (k := 1 + (5 + k)) (z_apr (n := 1) rfl (z_apl (eW_w (by omega)))))) (ci := 2) (q0 := 0) rfl rfl rfl rfl hl.1 rfl (lv_room (Nat.le_of_ble_eq_true rfl)) dX3_about_35 ⟨Nat.le_of_ble_eq_true rfl, Nat.le_of_ble_eq_true rfl⟩ rfl ?_
    exact zR_i hx hb hr hlocks dX3_about_38 rfl
  · exact absurd (zb_f c1) (by rw [(show inB 0 2 7 = true from by decide)]; decide)
set_option maxHeartbeats 4000000 in
set_option maxRecDepth 100000 in
theorem c_X3_about_3 (l : Launch) (D : va_G) (y : Nat → ClassId) (X0 : Nat) (E E2 : Nat → Nat) (t : Nat → Int32) (o : Nat → Nat) (q b : Fld) (c bc n : Nat) (ar fi re : Int32) (T : TS) (k : Nat) (hk : k < c) (hc : c ≤ 6) : zR l yX3_about wsX3_about { frames := 1, cells := 0, slots := 0, locals := 22 } D y [.ref X0, .int (nI k), .int 3] (sW X0 E E2 y t o q b c bc n ar fi re T) (some (.int (factW q k 3))) := by
  refine zR.of (cc := cX3_about) (maxL := 4) (ret := (some .int)) (own := RX3) (by decide) rfl (Nat.le_of_ble_eq_true rfl) rfl ?_
  intro p e s m args below meth cd ls hx hb hr hml hown hts hlocks hP hK hl
  have hl : lv_has ls 4 [(0, .ref X0), (1, .int (nI k)), (2, .int 3)] := hl
  have hf12 : (Cond.fieldLink RX3 12 "StakeWeirs" "now" "LStakeWeirs$Estuary;").before args s = true := hts _ (by decide +kernel)
  have hinX3 : ∀ w ∈ wsX30, w ∈ wsX3_about := by decide +kernel
  refine lv_aload_n hx hb dX3_about_0 rfl (lv_at hl 0 rfl) ?_
  refine va_get (D := D) (ci := 3) (v := .ref (E 0)) (C := RX3) (T := TX3) (N := 2) hx hb hts hinX3 hown hK hP (0) rfl rfl 0 (by decide) hf12 (fun _ h9 => h9) rfl dX3_about_1 ?_
  refine lv_iload_n hx hb dX3_about_4 rfl (lv_at hl 1 rfl) ?_
  refine zcRV (As := [.int (nI k)]) (rest := []) (st1 := [.ref (E (5 + k))]) ⟨hx, hb, hml, hown, hts⟩ (c_X1_weirAt l D y E t o q b c bc n ar fi re k (by omega) (by omega)) (cwV 1 hts gX3_about_X1_weirAt rfl rfl rfl (by decide +kernel) ⟨Nat.le_of_ble_eq_true rfl, Nat.le_of_ble_eq_true rfl⟩) hK (z_sub_P hP (fun z h => List.mem_append_right _ (List.mem_append_left _ h))) (ci := 1) (q0 := 0) rfl rfl rfl rfl hl.1 rfl (lv_room (Nat.le_of_ble_eq_true rfl)) dX3_about_5 ⟨Nat.le_of_ble_eq_true rfl, Nat.le_of_ble_eq_true rfl⟩ rfl ?_
  refine lv_astore_n (lv' := [(3, .ref (E (5 + k))), (0, .ref X0), (1, .int (nI k)), (2, .int 3)]) hx hb dX3_about_8 rfl hl (by decide) rfl (fun ls hl => ?_)
  refine lv_aload_n hx hb dX3_about_9 rfl (lv_at hl 0 rfl) ?_
  refine lv_ifnull hx hb dX3_about_10 ?_
  refine lv_iload_n hx hb dX3_about_13 rfl (lv_at hl 3 rfl) ?_
  refine lv_iconst (v := 0) hx hb dX3_about_14 (by decide) ?_
  refine lv_bipush (v := 7) hx hb dX3_about_15 (by decide) ?_
  refine zcRS (As := [.int 3, .int 0, .int 7]) (rest := []) (st1 := [.int (zb (inB 0 3 7))]) ⟨hx, hb, hml, hown, hts⟩ (c_X3_isWithin l D y 3 0 7) (cwS 3 hts gX3_about_X3_isWithin rfl rfl rfl (by decide +kernel) ⟨Nat.le_of_ble_eq_true rfl, Nat.le_of_ble_eq_true rfl⟩) hK va_P_nil rfl hl.1 rfl (lv_room (Nat.le_of_ble_eq_true rfl)) dX3_about_17 ⟨Nat.le_of_ble_eq_true rfl, Nat.le_of_ble_eq_true rfl⟩ rfl ?_
  refine lv_if_ne (tgt := 33) hx hb dX3_about_20 (by decide) (fun c1 => ?_) (fun c1 => ?_)
  · have c1 := c1
    refine lv_aload_n hx hb dX3_about_33 rfl (lv_at hl 0 rfl) ?_
    refine lv_iload_n hx hb dX3_about_34 rfl (lv_at hl 3 rfl) ?_
    refine zcRV (As := [.int 3]) (rest := []) (st1 := [.int ((factW q k 3))]) ⟨hx, hb, hml, hown, hts⟩ (c_X2_fact_3 l D y (E (5 + k)) q k) (cwV 1 hts gX3_about_X2_fact rfl rfl rfl (by decide +kernel) ⟨Nat.le_of_ble_eq_true rfl, Nat.le_of_ble_eq_true rfl⟩) hK (z_sub_P hP (z_in_1 (k := 1 + (5 + k)) (z_apr (n := 1) rfl (z_apl (eW_w (by omega)))))) (ci := 2) (q0 := 0) rfl rfl rfl rfl hl.1 rfl (lv_room (Nat.le_of_ble_eq_true rfl)) dX3_about_35 ⟨Nat.le_of_ble_eq_true rfl, Nat.le_of_ble_eq_true rfl⟩ rfl ?_
    exact zR_i hx hb hr hlocks dX3_about_38 rfl
  · exact absurd (zb_f c1) (by rw [(show inB 0 3 7 = true from by decide)]; decide)
set_option maxHeartbeats 4000000 in
set_option maxRecDepth 100000 in
theorem c_X3_about_4 (l : Launch) (D : va_G) (y : Nat → ClassId) (X0 : Nat) (E E2 : Nat → Nat) (t : Nat → Int32) (o : Nat → Nat) (q b : Fld) (c bc n : Nat) (ar fi re : Int32) (T : TS) (k : Nat) (hk : k < c) (hc : c ≤ 6) : zR l yX3_about wsX3_about { frames := 1, cells := 0, slots := 0, locals := 22 } D y [.ref X0, .int (nI k), .int 4] (sW X0 E E2 y t o q b c bc n ar fi re T) (some (.int (factW q k 4))) := by
  refine zR.of (cc := cX3_about) (maxL := 4) (ret := (some .int)) (own := RX3) (by decide) rfl (Nat.le_of_ble_eq_true rfl) rfl ?_
  intro p e s m args below meth cd ls hx hb hr hml hown hts hlocks hP hK hl
  have hl : lv_has ls 4 [(0, .ref X0), (1, .int (nI k)), (2, .int 4)] := hl
  have hf12 : (Cond.fieldLink RX3 12 "StakeWeirs" "now" "LStakeWeirs$Estuary;").before args s = true := hts _ (by decide +kernel)
  have hinX3 : ∀ w ∈ wsX30, w ∈ wsX3_about := by decide +kernel
  refine lv_aload_n hx hb dX3_about_0 rfl (lv_at hl 0 rfl) ?_
  refine va_get (D := D) (ci := 3) (v := .ref (E 0)) (C := RX3) (T := TX3) (N := 2) hx hb hts hinX3 hown hK hP (0) rfl rfl 0 (by decide) hf12 (fun _ h9 => h9) rfl dX3_about_1 ?_
  refine lv_iload_n hx hb dX3_about_4 rfl (lv_at hl 1 rfl) ?_
  refine zcRV (As := [.int (nI k)]) (rest := []) (st1 := [.ref (E (5 + k))]) ⟨hx, hb, hml, hown, hts⟩ (c_X1_weirAt l D y E t o q b c bc n ar fi re k (by omega) (by omega)) (cwV 1 hts gX3_about_X1_weirAt rfl rfl rfl (by decide +kernel) ⟨Nat.le_of_ble_eq_true rfl, Nat.le_of_ble_eq_true rfl⟩) hK (z_sub_P hP (fun z h => List.mem_append_right _ (List.mem_append_left _ h))) (ci := 1) (q0 := 0) rfl rfl rfl rfl hl.1 rfl (lv_room (Nat.le_of_ble_eq_true rfl)) dX3_about_5 ⟨Nat.le_of_ble_eq_true rfl, Nat.le_of_ble_eq_true rfl⟩ rfl ?_
  refine lv_astore_n (lv' := [(3, .ref (E (5 + k))), (0, .ref X0), (1, .int (nI k)), (2, .int 4)]) hx hb dX3_about_8 rfl hl (by decide) rfl (fun ls hl => ?_)
  refine lv_aload_n hx hb dX3_about_9 rfl (lv_at hl 0 rfl) ?_
  refine lv_ifnull hx hb dX3_about_10 ?_
  refine lv_iload_n hx hb dX3_about_13 rfl (lv_at hl 3 rfl) ?_
  refine lv_iconst (v := 0) hx hb dX3_about_14 (by decide) ?_
  refine lv_bipush (v := 7) hx hb dX3_about_15 (by decide) ?_
  refine zcRS (As := [.int 4, .int 0, .int 7]) (rest := []) (st1 := [.int (zb (inB 0 4 7))]) ⟨hx, hb, hml, hown, hts⟩ (c_X3_isWithin l D y 4 0 7) (cwS 3 hts gX3_about_X3_isWithin rfl rfl rfl (by decide +kernel) ⟨Nat.le_of_ble_eq_true rfl, Nat.le_of_ble_eq_true rfl⟩) hK va_P_nil rfl hl.1 rfl (lv_room (Nat.le_of_ble_eq_true rfl)) dX3_about_17 ⟨Nat.le_of_ble_eq_true rfl, Nat.le_of_ble_eq_true rfl⟩ rfl ?_
  refine lv_if_ne (tgt := 33) hx hb dX3_about_20 (by decide) (fun c1 => ?_) (fun c1 => ?_)
  · have c1 := c1
    refine lv_aload_n hx hb dX3_about_33 rfl (lv_at hl 0 rfl) ?_
    refine lv_iload_n hx hb dX3_about_34 rfl (lv_at hl 3 rfl) ?_
    refine zcRV (As := [.int 4]) (rest := []) (st1 := [.int ((factW q k 4))]) ⟨hx, hb, hml, hown, hts⟩ (c_X2_fact_4 l D y (E (5 + k)) q k) (cwV 1 hts gX3_about_X2_fact rfl rfl rfl (by decide +kernel) ⟨Nat.le_of_ble_eq_true rfl, Nat.le_of_ble_eq_true rfl⟩) hK (z_sub_P hP (z_in_1 (k := 1 + (5 + k)) (z_apr (n := 1) rfl (z_apl (eW_w (by omega)))))) (ci := 2) (q0 := 0) rfl rfl rfl rfl hl.1 rfl (lv_room (Nat.le_of_ble_eq_true rfl)) dX3_about_35 ⟨Nat.le_of_ble_eq_true rfl, Nat.le_of_ble_eq_true rfl⟩ rfl ?_
    exact zR_i hx hb hr hlocks dX3_about_38 rfl
  · exact absurd (zb_f c1) (by rw [(show inB 0 4 7 = true from by decide)]; decide)
set_option maxHeartbeats 4000000 in
set_option maxRecDepth 100000 in
theorem c_X3_about_5 (l : Launch) (D : va_G) (y : Nat → ClassId) (X0 : Nat) (E E2 : Nat → Nat) (t : Nat → Int32) (o : Nat → Nat) (q b : Fld) (c bc n : Nat) (ar fi re : Int32) (T : TS) (k : Nat) (hk : k < c) (hc : c ≤ 6) : zR l yX3_about wsX3_about { frames := 1, cells := 0, slots := 0, locals := 22 } D y [.ref X0, .int (nI k), .int 5] (sW X0 E E2 y t o q b c bc n ar fi re T) (some (.int (factW q k 5))) := by
  refine zR.of (cc := cX3_about) (maxL := 4) (ret := (some .int)) (own := RX3) (by decide) rfl (Nat.le_of_ble_eq_true rfl) rfl ?_
  intro p e s m args below meth cd ls hx hb hr hml hown hts hlocks hP hK hl
  have hl : lv_has ls 4 [(0, .ref X0), (1, .int (nI k)), (2, .int 5)] := hl
  have hf12 : (Cond.fieldLink RX3 12 "StakeWeirs" "now" "LStakeWeirs$Estuary;").before args s = true := hts _ (by decide +kernel)
  have hinX3 : ∀ w ∈ wsX30, w ∈ wsX3_about := by decide +kernel
  refine lv_aload_n hx hb dX3_about_0 rfl (lv_at hl 0 rfl) ?_
  refine va_get (D := D) (ci := 3) (v := .ref (E 0)) (C := RX3) (T := TX3) (N := 2) hx hb hts hinX3 hown hK hP (0) rfl rfl 0 (by decide) hf12 (fun _ h9 => h9) rfl dX3_about_1 ?_
  refine lv_iload_n hx hb dX3_about_4 rfl (lv_at hl 1 rfl) ?_
  refine zcRV (As := [.int (nI k)]) (rest := []) (st1 := [.ref (E (5 + k))]) ⟨hx, hb, hml, hown, hts⟩ (c_X1_weirAt l D y E t o q b c bc n ar fi re k (by omega) (by omega)) (cwV 1 hts gX3_about_X1_weirAt rfl rfl rfl (by decide +kernel) ⟨Nat.le_of_ble_eq_true rfl, Nat.le_of_ble_eq_true rfl⟩) hK (z_sub_P hP (fun z h => List.mem_append_right _ (List.mem_append_left _ h))) (ci := 1) (q0 := 0) rfl rfl rfl rfl hl.1 rfl (lv_room (Nat.le_of_ble_eq_true rfl)) dX3_about_5 ⟨Nat.le_of_ble_eq_true rfl, Nat.le_of_ble_eq_true rfl⟩ rfl ?_
  refine lv_astore_n (lv' := [(3, .ref (E (5 + k))), (0, .ref X0), (1, .int (nI k)), (2, .int 5)]) hx hb dX3_about_8 rfl hl (by decide) rfl (fun ls hl => ?_)
  refine lv_aload_n hx hb dX3_about_9 rfl (lv_at hl 0 rfl) ?_
  refine lv_ifnull hx hb dX3_about_10 ?_
  refine lv_iload_n hx hb dX3_about_13 rfl (lv_at hl 3 rfl) ?_
  refine lv_iconst (v := 0) hx hb dX3_about_14 (by decide) ?_
  refine lv_bipush (v := 7) hx hb dX3_about_15 (by decide) ?_
  refine zcRS (As := [.int 5, .int 0, .int 7]) (rest := []) (st1 := [.int (zb (inB 0 5 7))]) ⟨hx, hb, hml, hown, hts⟩ (c_X3_isWithin l D y 5 0 7) (cwS 3 hts gX3_about_X3_isWithin rfl rfl rfl (by decide +kernel) ⟨Nat.le_of_ble_eq_true rfl, Nat.le_of_ble_eq_true rfl⟩) hK va_P_nil rfl hl.1 rfl (lv_room (Nat.le_of_ble_eq_true rfl)) dX3_about_17 ⟨Nat.le_of_ble_eq_true rfl, Nat.le_of_ble_eq_true rfl⟩ rfl ?_
  refine lv_if_ne (tgt := 33) hx hb dX3_about_20 (by decide) (fun c1 => ?_) (fun c1 => ?_)
  · have c1 := c1
    refine lv_aload_n hx hb dX3_about_33 rfl (lv_at hl 0 rfl) ?_
    refine lv_iload_n hx hb dX3_about_34 rfl (lv_at hl 3 rfl) ?_
    refine zcRV (As := [.int 5]) (rest := []) (st1 := [.int ((factW q k 5))]) ⟨hx, hb, hml, hown, hts⟩ (c_X2_fact_5 l D y (E (5 + k)) q k) (cwV 1 hts gX3_about_X2_fact rfl rfl rfl (by decide +kernel) ⟨Nat.le_of_ble_eq_true rfl, Nat.le_of_ble_eq_true rfl⟩) hK (z_sub_P hP (z_in_1 (k := 1 + (5 + k)) (z_apr (n := 1) rfl (z_apl (eW_w (by omega)))))) (ci := 2) (q0 := 0) rfl rfl rfl rfl hl.1 rfl (lv_room (Nat.le_of_ble_eq_true rfl)) dX3_about_35 ⟨Nat.le_of_ble_eq_true rfl, Nat.le_of_ble_eq_true rfl⟩ rfl ?_
    exact zR_i hx hb hr hlocks dX3_about_38 rfl
  · exact absurd (zb_f c1) (by rw [(show inB 0 5 7 = true from by decide)]; decide)
set_option maxHeartbeats 4000000 in
set_option maxRecDepth 100000 in
theorem c_X3_about_6 (l : Launch) (D : va_G) (y : Nat → ClassId) (X0 : Nat) (E E2 : Nat → Nat) (t : Nat → Int32) (o : Nat → Nat) (q b : Fld) (c bc n : Nat) (ar fi re : Int32) (T : TS) (k : Nat) (hk : k < c) (hc : c ≤ 6) : zR l yX3_about wsX3_about { frames := 1, cells := 0, slots := 0, locals := 22 } D y [.ref X0, .int (nI k), .int 6] (sW X0 E E2 y t o q b c bc n ar fi re T) (some (.int (factW q k 6))) := by
  refine zR.of (cc := cX3_about) (maxL := 4) (ret := (some .int)) (own := RX3) (by decide) rfl (Nat.le_of_ble_eq_true rfl) rfl ?_
  intro p e s m args below meth cd ls hx hb hr hml hown hts hlocks hP hK hl
  have hl : lv_has ls 4 [(0, .ref X0), (1, .int (nI k)), (2, .int 6)] := hl
  have hf12 : (Cond.fieldLink RX3 12 "StakeWeirs" "now" "LStakeWeirs$Estuary;").before args s = true := hts _ (by decide +kernel)
  have hinX3 : ∀ w ∈ wsX30, w ∈ wsX3_about := by decide +kernel
  refine lv_aload_n hx hb dX3_about_0 rfl (lv_at hl 0 rfl) ?_
  refine va_get (D := D) (ci := 3) (v := .ref (E 0)) (C := RX3) (T := TX3) (N := 2) hx hb hts hinX3 hown hK hP (0) rfl rfl 0 (by decide) hf12 (fun _ h9 => h9) rfl dX3_about_1 ?_
  refine lv_iload_n hx hb dX3_about_4 rfl (lv_at hl 1 rfl) ?_
  refine zcRV (As := [.int (nI k)]) (rest := []) (st1 := [.ref (E (5 + k))]) ⟨hx, hb, hml, hown, hts⟩ (c_X1_weirAt l D y E t o q b c bc n ar fi re k (by omega) (by omega)) (cwV 1 hts gX3_about_X1_weirAt rfl rfl rfl (by decide +kernel) ⟨Nat.le_of_ble_eq_true rfl, Nat.le_of_ble_eq_true rfl⟩) hK (z_sub_P hP (fun z h => List.mem_append_right _ (List.mem_append_left _ h))) (ci := 1) (q0 := 0) rfl rfl rfl rfl hl.1 rfl (lv_room (Nat.le_of_ble_eq_true rfl)) dX3_about_5 ⟨Nat.le_of_ble_eq_true rfl, Nat.le_of_ble_eq_true rfl⟩ rfl ?_
  refine lv_astore_n (lv' := [(3, .ref (E (5 + k))), (0, .ref X0), (1, .int (nI k)), (2, .int 6)]) hx hb dX3_about_8 rfl hl (by decide) rfl (fun ls hl => ?_)
  refine lv_aload_n hx hb dX3_about_9 rfl (lv_at hl 0 rfl) ?_
  refine lv_ifnull hx hb dX3_about_10 ?_
  refine lv_iload_n hx hb dX3_about_13 rfl (lv_at hl 3 rfl) ?_
  refine lv_iconst (v := 0) hx hb dX3_about_14 (by decide) ?_
  refine lv_bipush (v := 7) hx hb dX3_about_15 (by decide) ?_
  refine zcRS (As := [.int 6, .int 0, .int 7]) (rest := []) (st1 := [.int (zb (inB 0 6 7))]) ⟨hx, hb, hml, hown, hts⟩ (c_X3_isWithin l D y 6 0 7) (cwS 3 hts gX3_about_X3_isWithin rfl rfl rfl (by decide +kernel) ⟨Nat.le_of_ble_eq_true rfl, Nat.le_of_ble_eq_true rfl⟩) hK va_P_nil rfl hl.1 rfl (lv_room (Nat.le_of_ble_eq_true rfl)) dX3_about_17 ⟨Nat.le_of_ble_eq_true rfl, Nat.le_of_ble_eq_true rfl⟩ rfl ?_
  refine lv_if_ne (tgt := 33) hx hb dX3_about_20 (by decide) (fun c1 => ?_) (fun c1 => ?_)
  · have c1 := c1
    refine lv_aload_n hx hb dX3_about_33 rfl (lv_at hl 0 rfl) ?_
    refine lv_iload_n hx hb dX3_about_34 rfl (lv_at hl 3 rfl) ?_
    refine zcRV (As := [.int 6]) (rest := []) (st1 := [.int ((factW q k 6))]) ⟨hx, hb, hml, hown, hts⟩ (c_X2_fact_6 l D y (E (5 + k)) q k) (cwV 1 hts gX3_about_X2_fact rfl rfl rfl (by decide +kernel) ⟨Nat.le_of_ble_eq_true rfl, Nat.le_of_ble_eq_true rfl⟩) hK (z_sub_P hP (z_in_1 (k := 1 + (5 + k)) (z_apr (n := 1) rfl (z_apl (eW_w (by omega)))))) (ci := 2) (q0 := 0) rfl rfl rfl rfl hl.1 rfl (lv_room (Nat.le_of_ble_eq_true rfl)) dX3_about_35 ⟨Nat.le_of_ble_eq_true rfl, Nat.le_of_ble_eq_true rfl⟩ rfl ?_
    exact zR_i hx hb hr hlocks dX3_about_38 rfl
  · exact absurd (zb_f c1) (by rw [(show inB 0 6 7 = true from by decide)]; decide)
set_option maxHeartbeats 4000000 in
set_option maxRecDepth 100000 in
theorem c_X3_about_7 (l : Launch) (D : va_G) (y : Nat → ClassId) (X0 : Nat) (E E2 : Nat → Nat) (t : Nat → Int32) (o : Nat → Nat) (q b : Fld) (c bc n : Nat) (ar fi re : Int32) (T : TS) (k : Nat) (hk : k < c) (hc : c ≤ 6) : zR l yX3_about wsX3_about { frames := 1, cells := 0, slots := 0, locals := 22 } D y [.ref X0, .int (nI k), .int 7] (sW X0 E E2 y t o q b c bc n ar fi re T) (some (.int (factW q k 7))) := by
  refine zR.of (cc := cX3_about) (maxL := 4) (ret := (some .int)) (own := RX3) (by decide) rfl (Nat.le_of_ble_eq_true rfl) rfl ?_
  intro p e s m args below meth cd ls hx hb hr hml hown hts hlocks hP hK hl
  have hl : lv_has ls 4 [(0, .ref X0), (1, .int (nI k)), (2, .int 7)] := hl
  have hf12 : (Cond.fieldLink RX3 12 "StakeWeirs" "now" "LStakeWeirs$Estuary;").before args s = true := hts _ (by decide +kernel)
  have hinX3 : ∀ w ∈ wsX30, w ∈ wsX3_about := by decide +kernel
  refine lv_aload_n hx hb dX3_about_0 rfl (lv_at hl 0 rfl) ?_
  refine va_get (D := D) (ci := 3) (v := .ref (E 0)) (C := RX3) (T := TX3) (N := 2) hx hb hts hinX3 hown hK hP (0) rfl rfl 0 (by decide) hf12 (fun _ h9 => h9) rfl dX3_about_1 ?_
  refine lv_iload_n hx hb dX3_about_4 rfl (lv_at hl 1 rfl) ?_
  refine zcRV (As := [.int (nI k)]) (rest := []) (st1 := [.ref (E (5 + k))]) ⟨hx, hb, hml, hown, hts⟩ (c_X1_weirAt l D y E t o q b c bc n ar fi re k (by omega) (by omega)) (cwV 1 hts gX3_about_X1_weirAt rfl rfl rfl (by decide +kernel) ⟨Nat.le_of_ble_eq_true rfl, Nat.le_of_ble_eq_true rfl⟩) hK (z_sub_P hP (fun z h => List.mem_append_right _ (List.mem_append_left _ h))) (ci := 1) (q0 := 0) rfl rfl rfl rfl hl.1 rfl (lv_room (Nat.le_of_ble_eq_true rfl)) dX3_about_5 ⟨Nat.le_of_ble_eq_true rfl, Nat.le_of_ble_eq_true rfl⟩ rfl ?_
  refine lv_astore_n (lv' := [(3, .ref (E (5 + k))), (0, .ref X0), (1, .int (nI k)), (2, .int 7)]) hx hb dX3_about_8 rfl hl (by decide) rfl (fun ls hl => ?_)
  refine lv_aload_n hx hb dX3_about_9 rfl (lv_at hl 0 rfl) ?_
  refine lv_ifnull hx hb dX3_about_10 ?_
  refine lv_iload_n hx hb dX3_about_13 rfl (lv_at hl 3 rfl) ?_
  refine lv_iconst (v := 0) hx hb dX3_about_14 (by decide) ?_
  refine lv_bipush (v := 7) hx hb dX3_about_15 (by decide) ?_
  refine zcRS (As := [.int 7, .int 0, .int 7]) (rest := []) (st1 := [.int (zb (inB 0 7 7))]) ⟨hx, hb, hml, hown, hts⟩ (c_X3_isWithin l D y 7 0 7) (cwS 3 hts gX3_about_X3_isWithin rfl rfl rfl (by decide +kernel) ⟨Nat.le_of_ble_eq_true rfl, Nat.le_of_ble_eq_true rfl⟩) hK va_P_nil rfl hl.1 rfl (lv_room (Nat.le_of_ble_eq_true rfl)) dX3_about_17 ⟨Nat.le_of_ble_eq_true rfl, Nat.le_of_ble_eq_true rfl⟩ rfl ?_
  refine lv_if_ne (tgt := 33) hx hb dX3_about_20 (by decide) (fun c1 => ?_) (fun c1 => ?_)
  · have c1 := c1
    refine lv_aload_n hx hb dX3_about_33 rfl (lv_at hl 0 rfl) ?_
    refine lv_iload_n hx hb dX3_about_34 rfl (lv_at hl 3 rfl) ?_
    refine zcRV (As := [.int 7]) (rest := []) (st1 := [.int ((factW q k 7))]) ⟨hx, hb, hml, hown, hts⟩ (c_X2_fact_7 l D y (E (5 + k)) q k) (cwV 1 hts gX3_about_X2_fact rfl rfl rfl (by decide +kernel) ⟨Nat.le_of_ble_eq_true rfl, Nat.le_of_ble_eq_true rfl⟩) hK (z_sub_P hP (z_in_1 (k := 1 + (5 + k)) (z_apr (n := 1) rfl (z_apl (eW_w (by omega)))))) (ci := 2) (q0 := 0) rfl rfl rfl rfl hl.1 rfl (lv_room (Nat.le_of_ble_eq_true rfl)) dX3_about_35 ⟨Nat.le_of_ble_eq_true rfl, Nat.le_of_ble_eq_true rfl⟩ rfl ?_
    exact zR_i hx hb hr hlocks dX3_about_38 rfl
  · exact absurd (zb_f c1) (by rw [(show inB 0 7 7 = true from by decide)]; decide)
set_option maxHeartbeats 4000000 in
set_option maxRecDepth 100000 in
theorem c_X3_about_T1 (l : Launch) (hl0 : l.stackTraces = false) (D : va_G) (y : Nat → ClassId) (X0 : Nat) (E E2 : Nat → Nat) (t : Nat → Int32) (o : Nat → Nat) (q b : Fld) (c bc n : Nat) (ar fi re : Int32) (T : TS) (x : Int32) (hx0 : x < 0 ∨ nI c ≤ x) (z : Int32) (hc : c ≤ 6) : zT l yX3_about wsX3_about { frames := 6, cells := 1, slots := 6, locals := 90 } D y [.ref X0, .int x, .int z] (sW X0 E E2 y t o q b c bc n ar fi re T) "java/lang/IndexOutOfBoundsException" := by
  refine zT.of (cc := cX3_about) (maxL := 4) (ret := (some .int)) (own := RX3) (by decide) rfl (Nat.le_of_ble_eq_true rfl) rfl ?_
  intro p e s m args below meth cd ls hx hb hr hml hown hts hlocks hP hK hT0 hout hl
  have hl : lv_has ls 4 [(0, .ref X0), (1, .int x), (2, .int z)] := hl
  have hf12 : (Cond.fieldLink RX3 12 "StakeWeirs" "now" "LStakeWeirs$Estuary;").before args s = true := hts _ (by decide +kernel)
  have hinX3 : ∀ w ∈ wsX30, w ∈ wsX3_about := by decide +kernel
  have hkl47 : (Cond.classLink RX3 47 "java/lang/IndexOutOfBoundsException").before args s = true := hts _ (by decide +kernel)
  have hini47 : (Cond.initialized "java/lang/IndexOutOfBoundsException").before args s = true := hts _ (by decide +kernel)
  refine lv_aload_n hx hb dX3_about_0 rfl (lv_at hl 0 rfl) ?_
  refine va_get (D := D) (ci := 3) (v := .ref (E 0)) (C := RX3) (T := TX3) (N := 2) hx hb hts hinX3 hown hK hP (0) rfl rfl 0 (by decide) hf12 (fun _ h9 => h9) rfl dX3_about_1 ?_
  refine lv_iload_n hx hb dX3_about_4 rfl (lv_at hl 1 rfl) ?_
  refine zcRV (As := [.int x]) (rest := []) (st1 := [.null]) ⟨hx, hb, hml, hown, hts⟩ (c_X1_weirAt_no l D y E t o q b c bc n ar fi re x hx0 (by omega)) (cwV 1 hts gX3_about_X1_weirAt rfl rfl rfl (by decide +kernel) ⟨Nat.le_of_ble_eq_true rfl, Nat.le_of_ble_eq_true rfl⟩) hK (z_sub_P hP (fun z h => List.mem_append_right _ (List.mem_append_left _ h))) (ci := 1) (q0 := 0) rfl rfl rfl rfl hl.1 rfl (lv_room (Nat.le_of_ble_eq_true rfl)) dX3_about_5 ⟨Nat.le_of_ble_eq_true rfl, Nat.le_of_ble_eq_true rfl⟩ rfl ?_
  refine lv_astore_nN (lv' := [(3, .null), (0, .ref X0), (1, .int x), (2, .int z)]) hx hb dX3_about_8 rfl hl (by decide) rfl (fun ls hl => ?_)
  refine lv_aload_nN hx hb dX3_about_9 rfl (lv_at hl 0 rfl) ?_
  refine lv_ifnullN (tgt := 23) hx hb dX3_about_10 (by decide) ?_
  exact z_thr (cls := "java/lang/IndexOutOfBoundsException") (text := "no such weir, or what is not 0 to 7") (ik := 47) (is := 116) (ic := 51) hx hb hl0 hown (by decide +kernel) hkl47 hini47 hts (fun x h => List.mem_cons_of_mem _ (List.mem_append_right _ h)) zbad_51 (zgoodO_51 47) hT0 (by decide) hl.1 hml dX3_about_23 dX3_about_26 dX3_about_27 dX3_about_29 dX3_about_32 hout (Nat.le_of_ble_eq_true rfl) (Nat.le_of_ble_eq_true rfl) (Nat.le_of_ble_eq_true rfl) (Nat.le_of_ble_eq_true rfl) hlocks
set_option maxHeartbeats 4000000 in
set_option maxRecDepth 100000 in
theorem c_X3_about_T2 (l : Launch) (hl0 : l.stackTraces = false) (D : va_G) (y : Nat → ClassId) (X0 : Nat) (E E2 : Nat → Nat) (t : Nat → Int32) (o : Nat → Nat) (q b : Fld) (c bc n : Nat) (ar fi re : Int32) (T : TS) (k : Nat) (hk : k < c) (z : Int32) (hw : inB 0 z 7 = false) (hc : c ≤ 6) : zT l yX3_about wsX3_about { frames := 6, cells := 1, slots := 6, locals := 90 } D y [.ref X0, .int (nI k), .int z] (sW X0 E E2 y t o q b c bc n ar fi re T) "java/lang/IndexOutOfBoundsException" := by
  refine zT.of (cc := cX3_about) (maxL := 4) (ret := (some .int)) (own := RX3) (by decide) rfl (Nat.le_of_ble_eq_true rfl) rfl ?_
  intro p e s m args below meth cd ls hx hb hr hml hown hts hlocks hP hK hT0 hout hl
  have hl : lv_has ls 4 [(0, .ref X0), (1, .int (nI k)), (2, .int z)] := hl
  have hf12 : (Cond.fieldLink RX3 12 "StakeWeirs" "now" "LStakeWeirs$Estuary;").before args s = true := hts _ (by decide +kernel)
  have hinX3 : ∀ w ∈ wsX30, w ∈ wsX3_about := by decide +kernel
  have hkl47 : (Cond.classLink RX3 47 "java/lang/IndexOutOfBoundsException").before args s = true := hts _ (by decide +kernel)
  have hini47 : (Cond.initialized "java/lang/IndexOutOfBoundsException").before args s = true := hts _ (by decide +kernel)
  refine lv_aload_n hx hb dX3_about_0 rfl (lv_at hl 0 rfl) ?_
  refine va_get (D := D) (ci := 3) (v := .ref (E 0)) (C := RX3) (T := TX3) (N := 2) hx hb hts hinX3 hown hK hP (0) rfl rfl 0 (by decide) hf12 (fun _ h9 => h9) rfl dX3_about_1 ?_
  refine lv_iload_n hx hb dX3_about_4 rfl (lv_at hl 1 rfl) ?_
  refine zcRV (As := [.int (nI k)]) (rest := []) (st1 := [.ref (E (5 + k))]) ⟨hx, hb, hml, hown, hts⟩ (c_X1_weirAt l D y E t o q b c bc n ar fi re k (by omega) (by omega)) (cwV 1 hts gX3_about_X1_weirAt rfl rfl rfl (by decide +kernel) ⟨Nat.le_of_ble_eq_true rfl, Nat.le_of_ble_eq_true rfl⟩) hK (z_sub_P hP (fun z h => List.mem_append_right _ (List.mem_append_left _ h))) (ci := 1) (q0 := 0) rfl rfl rfl rfl hl.1 rfl (lv_room (Nat.le_of_ble_eq_true rfl)) dX3_about_5 ⟨Nat.le_of_ble_eq_true rfl, Nat.le_of_ble_eq_true rfl⟩ rfl ?_
  refine lv_astore_n (lv' := [(3, .ref (E (5 + k))), (0, .ref X0), (1, .int (nI k)), (2, .int z)]) hx hb dX3_about_8 rfl hl (by decide) rfl (fun ls hl => ?_)
  refine lv_aload_n hx hb dX3_about_9 rfl (lv_at hl 0 rfl) ?_
  refine lv_ifnull hx hb dX3_about_10 ?_
  refine lv_iload_n hx hb dX3_about_13 rfl (lv_at hl 3 rfl) ?_
  refine lv_iconst (v := 0) hx hb dX3_about_14 (by decide) ?_
  refine lv_bipush (v := 7) hx hb dX3_about_15 (by decide) ?_
  refine zcRS (As := [.int z, .int 0, .int 7]) (rest := []) (st1 := [.int (zb (inB 0 z 7))]) ⟨hx, hb, hml, hown, hts⟩ (c_X3_isWithin l D y z 0 7) (cwS 3 hts gX3_about_X3_isWithin rfl rfl rfl (by decide +kernel) ⟨Nat.le_of_ble_eq_true rfl, Nat.le_of_ble_eq_true rfl⟩) hK va_P_nil rfl hl.1 rfl (lv_room (Nat.le_of_ble_eq_true rfl)) dX3_about_17 ⟨Nat.le_of_ble_eq_true rfl, Nat.le_of_ble_eq_true rfl⟩ rfl ?_
  refine lv_if_ne (tgt := 33) hx hb dX3_about_20 (by decide) (fun c1 => ?_) (fun c1 => ?_)
  · exact absurd (zb_t c1) (by rw [hw]; decide)
  · have c1 := c1
    exact z_thr (cls := "java/lang/IndexOutOfBoundsException") (text := "no such weir, or what is not 0 to 7") (ik := 47) (is := 116) (ic := 51) hx hb hl0 hown (by decide +kernel) hkl47 hini47 hts (fun x h => List.mem_cons_of_mem _ (List.mem_append_right _ h)) zbad_51 (zgoodO_51 47) hT0 (by decide) hl.1 hml dX3_about_23 dX3_about_26 dX3_about_27 dX3_about_29 dX3_about_32 hout (Nat.le_of_ble_eq_true rfl) (Nat.le_of_ble_eq_true rfl) (Nat.le_of_ble_eq_true rfl) (Nat.le_of_ble_eq_true rfl) hlocks
set_option maxHeartbeats 4000000 in
set_option maxRecDepth 100000 in
theorem c_X3_told_0 (l : Launch) (D : va_G) (y : Nat → ClassId) (X0 : Nat) (E E2 : Nat → Nat) (t : Nat → Int32) (o : Nat → Nat) (q b : Fld) (c bc n : Nat) (ar fi re : Int32) (T : TS) (k : Nat) (hk : k < bc) (hc : c ≤ 6) (hbc : bc ≤ 5) : zR l yX3_told wsX3_told { frames := 1, cells := 0, slots := 0, locals := 22 } D y [.ref X0, .int (nI k), .int 0] (sW X0 E E2 y t o q b c bc n ar fi re T) (some (.int (b 1 k))) := by
  refine zR.of (cc := cX3_told) (maxL := 4) (ret := (some .int)) (own := RX3) (by decide) rfl (Nat.le_of_ble_eq_true rfl) rfl ?_
  intro p e s m args below meth cd ls hx hb hr hml hown hts hlocks hP hK hl
  have hl : lv_has ls 4 [(0, .ref X0), (1, .int (nI k)), (2, .int 0)] := hl
  have hf12 : (Cond.fieldLink RX3 12 "StakeWeirs" "now" "LStakeWeirs$Estuary;").before args s = true := hts _ (by decide +kernel)
  have hinX3 : ∀ w ∈ wsX30, w ∈ wsX3_told := by decide +kernel
  refine lv_aload_n hx hb dX3_told_0 rfl (lv_at hl 0 rfl) ?_
  refine va_get (D := D) (ci := 3) (v := .ref (E 0)) (C := RX3) (T := TX3) (N := 2) hx hb hts hinX3 hown hK hP (0) rfl rfl 0 (by decide) hf12 (fun _ h9 => h9) rfl dX3_told_1 ?_
  refine lv_iload_n hx hb dX3_told_4 rfl (lv_at hl 1 rfl) ?_
  refine zcRV (As := [.int (nI k)]) (rest := []) (st1 := [.ref (E (11 + k))]) ⟨hx, hb, hml, hown, hts⟩ (c_X1_bargeAt l D y E t o q b c bc n ar fi re k (by omega) (by omega)) (cwV 1 hts gX3_told_X1_bargeAt rfl rfl rfl (by decide +kernel) ⟨Nat.le_of_ble_eq_true rfl, Nat.le_of_ble_eq_true rfl⟩) hK (z_sub_P hP (fun z h => List.mem_append_right _ (List.mem_append_left _ h))) (ci := 1) (q0 := 0) rfl rfl rfl rfl hl.1 rfl (lv_room (Nat.le_of_ble_eq_true rfl)) dX3_told_5 ⟨Nat.le_of_ble_eq_true rfl, Nat.le_of_ble_eq_true rfl⟩ rfl ?_
  refine lv_astore_n (lv' := [(3, .ref (E (11 + k))), (0, .ref X0), (1, .int (nI k)), (2, .int 0)]) hx hb dX3_told_8 rfl hl (by decide) rfl (fun ls hl => ?_)
  refine lv_aload_n hx hb dX3_told_9 rfl (lv_at hl 0 rfl) ?_
  refine lv_ifnull hx hb dX3_told_10 ?_
  refine lv_iload_n hx hb dX3_told_13 rfl (lv_at hl 3 rfl) ?_
  refine lv_iconst (v := 0) hx hb dX3_told_14 (by decide) ?_
  refine lv_iconst (v := 3) hx hb dX3_told_15 (by decide) ?_
  refine zcRS (As := [.int 0, .int 0, .int 3]) (rest := []) (st1 := [.int (zb (inB 0 0 3))]) ⟨hx, hb, hml, hown, hts⟩ (c_X3_isWithin l D y 0 0 3) (cwS 3 hts gX3_told_X3_isWithin rfl rfl rfl (by decide +kernel) ⟨Nat.le_of_ble_eq_true rfl, Nat.le_of_ble_eq_true rfl⟩) hK va_P_nil rfl hl.1 rfl (lv_room (Nat.le_of_ble_eq_true rfl)) dX3_told_16 ⟨Nat.le_of_ble_eq_true rfl, Nat.le_of_ble_eq_true rfl⟩ rfl ?_
  refine lv_if_ne (tgt := 32) hx hb dX3_told_19 (by decide) (fun c1 => ?_) (fun c1 => ?_)
  · have c1 := c1
    refine lv_aload_n hx hb dX3_told_32 rfl (lv_at hl 1 rfl) ?_
    refine va_get (D := D) (ci := 3) (v := .ref (E 0)) (C := RX3) (T := TX3) (N := 2) hx hb hts hinX3 hown hK hP (0) rfl rfl 0 (by decide) hf12 (fun _ h9 => h9) rfl dX3_told_33 ?_
    refine lv_aload_n hx hb dX3_told_36 rfl (lv_at hl 0 rfl) ?_
    refine lv_iload_n hx hb dX3_told_37 rfl (lv_at hl 3 rfl) ?_
    refine zcRV (As := [.ref (E (11 + k)), .int 0]) (rest := []) (st1 := [.int ((b 1 k))]) ⟨hx, hb, hml, hown, hts⟩ (c_X1_bargeFact_0 l D y E t o q b c bc n ar fi re k (by omega) (by omega)) (cwV 2 hts gX3_told_X1_bargeFact rfl rfl rfl (by decide +kernel) ⟨Nat.le_of_ble_eq_true rfl, Nat.le_of_ble_eq_true rfl⟩) hK (z_sub_P hP (fun z h => List.mem_append_right _ (List.mem_append_left _ h))) (ci := 1) (q0 := 0) rfl rfl rfl rfl hl.1 rfl (lv_room (Nat.le_of_ble_eq_true rfl)) dX3_told_38 ⟨Nat.le_of_ble_eq_true rfl, Nat.le_of_ble_eq_true rfl⟩ rfl ?_
    exact zR_i hx hb hr hlocks dX3_told_41 rfl
  · exact absurd (zb_f c1) (by rw [(show inB 0 0 3 = true from by decide)]; decide)
set_option maxHeartbeats 4000000 in
set_option maxRecDepth 100000 in
theorem c_X3_told_1 (l : Launch) (D : va_G) (y : Nat → ClassId) (X0 : Nat) (E E2 : Nat → Nat) (t : Nat → Int32) (o : Nat → Nat) (q b : Fld) (c bc n : Nat) (ar fi re : Int32) (T : TS) (k : Nat) (hk : k < bc) (hc : c ≤ 6) (hbc : bc ≤ 5) : zR l yX3_told wsX3_told { frames := 1, cells := 0, slots := 0, locals := 22 } D y [.ref X0, .int (nI k), .int 1] (sW X0 E E2 y t o q b c bc n ar fi re T) (some (.int (b 2 k))) := by
  refine zR.of (cc := cX3_told) (maxL := 4) (ret := (some .int)) (own := RX3) (by decide) rfl (Nat.le_of_ble_eq_true rfl) rfl ?_
  intro p e s m args below meth cd ls hx hb hr hml hown hts hlocks hP hK hl
  have hl : lv_has ls 4 [(0, .ref X0), (1, .int (nI k)), (2, .int 1)] := hl
  have hf12 : (Cond.fieldLink RX3 12 "StakeWeirs" "now" "LStakeWeirs$Estuary;").before args s = true := hts _ (by decide +kernel)
  have hinX3 : ∀ w ∈ wsX30, w ∈ wsX3_told := by decide +kernel
  refine lv_aload_n hx hb dX3_told_0 rfl (lv_at hl 0 rfl) ?_
  refine va_get (D := D) (ci := 3) (v := .ref (E 0)) (C := RX3) (T := TX3) (N := 2) hx hb hts hinX3 hown hK hP (0) rfl rfl 0 (by decide) hf12 (fun _ h9 => h9) rfl dX3_told_1 ?_
  refine lv_iload_n hx hb dX3_told_4 rfl (lv_at hl 1 rfl) ?_
  refine zcRV (As := [.int (nI k)]) (rest := []) (st1 := [.ref (E (11 + k))]) ⟨hx, hb, hml, hown, hts⟩ (c_X1_bargeAt l D y E t o q b c bc n ar fi re k (by omega) (by omega)) (cwV 1 hts gX3_told_X1_bargeAt rfl rfl rfl (by decide +kernel) ⟨Nat.le_of_ble_eq_true rfl, Nat.le_of_ble_eq_true rfl⟩) hK (z_sub_P hP (fun z h => List.mem_append_right _ (List.mem_append_left _ h))) (ci := 1) (q0 := 0) rfl rfl rfl rfl hl.1 rfl (lv_room (Nat.le_of_ble_eq_true rfl)) dX3_told_5 ⟨Nat.le_of_ble_eq_true rfl, Nat.le_of_ble_eq_true rfl⟩ rfl ?_
  refine lv_astore_n (lv' := [(3, .ref (E (11 + k))), (0, .ref X0), (1, .int (nI k)), (2, .int 1)]) hx hb dX3_told_8 rfl hl (by decide) rfl (fun ls hl => ?_)
  refine lv_aload_n hx hb dX3_told_9 rfl (lv_at hl 0 rfl) ?_
  refine lv_ifnull hx hb dX3_told_10 ?_
  refine lv_iload_n hx hb dX3_told_13 rfl (lv_at hl 3 rfl) ?_
  refine lv_iconst (v := 0) hx hb dX3_told_14 (by decide) ?_
  refine lv_iconst (v := 3) hx hb dX3_told_15 (by decide) ?_
  refine zcRS (As := [.int 1, .int 0, .int 3]) (rest := []) (st1 := [.int (zb (inB 0 1 3))]) ⟨hx, hb, hml, hown, hts⟩ (c_X3_isWithin l D y 1 0 3) (cwS 3 hts gX3_told_X3_isWithin rfl rfl rfl (by decide +kernel) ⟨Nat.le_of_ble_eq_true rfl, Nat.le_of_ble_eq_true rfl⟩) hK va_P_nil rfl hl.1 rfl (lv_room (Nat.le_of_ble_eq_true rfl)) dX3_told_16 ⟨Nat.le_of_ble_eq_true rfl, Nat.le_of_ble_eq_true rfl⟩ rfl ?_
  refine lv_if_ne (tgt := 32) hx hb dX3_told_19 (by decide) (fun c1 => ?_) (fun c1 => ?_)
  · have c1 := c1
    refine lv_aload_n hx hb dX3_told_32 rfl (lv_at hl 1 rfl) ?_
    refine va_get (D := D) (ci := 3) (v := .ref (E 0)) (C := RX3) (T := TX3) (N := 2) hx hb hts hinX3 hown hK hP (0) rfl rfl 0 (by decide) hf12 (fun _ h9 => h9) rfl dX3_told_33 ?_
    refine lv_aload_n hx hb dX3_told_36 rfl (lv_at hl 0 rfl) ?_
    refine lv_iload_n hx hb dX3_told_37 rfl (lv_at hl 3 rfl) ?_
    refine zcRV (As := [.ref (E (11 + k)), .int 1]) (rest := []) (st1 := [.int ((b 2 k))]) ⟨hx, hb, hml, hown, hts⟩ (c_X1_bargeFact_1 l D y E t o q b c bc n ar fi re k (by omega) (by omega)) (cwV 2 hts gX3_told_X1_bargeFact rfl rfl rfl (by decide +kernel) ⟨Nat.le_of_ble_eq_true rfl, Nat.le_of_ble_eq_true rfl⟩) hK (z_sub_P hP (fun z h => List.mem_append_right _ (List.mem_append_left _ h))) (ci := 1) (q0 := 0) rfl rfl rfl rfl hl.1 rfl (lv_room (Nat.le_of_ble_eq_true rfl)) dX3_told_38 ⟨Nat.le_of_ble_eq_true rfl, Nat.le_of_ble_eq_true rfl⟩ rfl ?_
    exact zR_i hx hb hr hlocks dX3_told_41 rfl
  · exact absurd (zb_f c1) (by rw [(show inB 0 1 3 = true from by decide)]; decide)
set_option maxHeartbeats 4000000 in
set_option maxRecDepth 100000 in
theorem c_X3_told_2 (l : Launch) (D : va_G) (y : Nat → ClassId) (X0 : Nat) (E E2 : Nat → Nat) (t : Nat → Int32) (o : Nat → Nat) (q b : Fld) (c bc n : Nat) (ar fi re : Int32) (T : TS) (k : Nat) (hk : k < bc) (hc : c ≤ 6) (hbc : bc ≤ 5) : zR l yX3_told wsX3_told { frames := 1, cells := 0, slots := 0, locals := 22 } D y [.ref X0, .int (nI k), .int 2] (sW X0 E E2 y t o q b c bc n ar fi re T) (some (.int (b 3 k))) := by
  refine zR.of (cc := cX3_told) (maxL := 4) (ret := (some .int)) (own := RX3) (by decide) rfl (Nat.le_of_ble_eq_true rfl) rfl ?_
  intro p e s m args below meth cd ls hx hb hr hml hown hts hlocks hP hK hl
  have hl : lv_has ls 4 [(0, .ref X0), (1, .int (nI k)), (2, .int 2)] := hl
  have hf12 : (Cond.fieldLink RX3 12 "StakeWeirs" "now" "LStakeWeirs$Estuary;").before args s = true := hts _ (by decide +kernel)
  have hinX3 : ∀ w ∈ wsX30, w ∈ wsX3_told := by decide +kernel
  refine lv_aload_n hx hb dX3_told_0 rfl (lv_at hl 0 rfl) ?_
  refine va_get (D := D) (ci := 3) (v := .ref (E 0)) (C := RX3) (T := TX3) (N := 2) hx hb hts hinX3 hown hK hP (0) rfl rfl 0 (by decide) hf12 (fun _ h9 => h9) rfl dX3_told_1 ?_
  refine lv_iload_n hx hb dX3_told_4 rfl (lv_at hl 1 rfl) ?_
  refine zcRV (As := [.int (nI k)]) (rest := []) (st1 := [.ref (E (11 + k))]) ⟨hx, hb, hml, hown, hts⟩ (c_X1_bargeAt l D y E t o q b c bc n ar fi re k (by omega) (by omega)) (cwV 1 hts gX3_told_X1_bargeAt rfl rfl rfl (by decide +kernel) ⟨Nat.le_of_ble_eq_true rfl, Nat.le_of_ble_eq_true rfl⟩) hK (z_sub_P hP (fun z h => List.mem_append_right _ (List.mem_append_left _ h))) (ci := 1) (q0 := 0) rfl rfl rfl rfl hl.1 rfl (lv_room (Nat.le_of_ble_eq_true rfl)) dX3_told_5 ⟨Nat.le_of_ble_eq_true rfl, Nat.le_of_ble_eq_true rfl⟩ rfl ?_
  refine lv_astore_n (lv' := [(3, .ref (E (11 + k))), (0, .ref X0), (1, .int (nI k)), (2, .int 2)]) hx hb dX3_told_8 rfl hl (by decide) rfl (fun ls hl => ?_)
  refine lv_aload_n hx hb dX3_told_9 rfl (lv_at hl 0 rfl) ?_
  refine lv_ifnull hx hb dX3_told_10 ?_
  refine lv_iload_n hx hb dX3_told_13 rfl (lv_at hl 3 rfl) ?_
  refine lv_iconst (v := 0) hx hb dX3_told_14 (by decide) ?_
  refine lv_iconst (v := 3) hx hb dX3_told_15 (by decide) ?_
  refine zcRS (As := [.int 2, .int 0, .int 3]) (rest := []) (st1 := [.int (zb (inB 0 2 3))]) ⟨hx, hb, hml, hown, hts⟩ (c_X3_isWithin l D y 2 0 3) (cwS 3 hts gX3_told_X3_isWithin rfl rfl rfl (by decide +kernel) ⟨Nat.le_of_ble_eq_true rfl, Nat.le_of_ble_eq_true rfl⟩) hK va_P_nil rfl hl.1 rfl (lv_room (Nat.le_of_ble_eq_true rfl)) dX3_told_16 ⟨Nat.le_of_ble_eq_true rfl, Nat.le_of_ble_eq_true rfl⟩ rfl ?_
  refine lv_if_ne (tgt := 32) hx hb dX3_told_19 (by decide) (fun c1 => ?_) (fun c1 => ?_)
  · have c1 := c1
    refine lv_aload_n hx hb dX3_told_32 rfl (lv_at hl 1 rfl) ?_
    refine va_get (D := D) (ci := 3) (v := .ref (E 0)) (C := RX3) (T := TX3) (N := 2) hx hb hts hinX3 hown hK hP (0) rfl rfl 0 (by decide) hf12 (fun _ h9 => h9) rfl dX3_told_33 ?_
    refine lv_aload_n hx hb dX3_told_36 rfl (lv_at hl 0 rfl) ?_
    refine lv_iload_n hx hb dX3_told_37 rfl (lv_at hl 3 rfl) ?_
    refine zcRV (As := [.ref (E (11 + k)), .int 2]) (rest := []) (st1 := [.int ((b 3 k))]) ⟨hx, hb, hml, hown, hts⟩ (c_X1_bargeFact_2 l D y E t o q b c bc n ar fi re k (by omega) (by omega)) (cwV 2 hts gX3_told_X1_bargeFact rfl rfl rfl (by decide +kernel) ⟨Nat.le_of_ble_eq_true rfl, Nat.le_of_ble_eq_true rfl⟩) hK (z_sub_P hP (fun z h => List.mem_append_right _ (List.mem_append_left _ h))) (ci := 1) (q0 := 0) rfl rfl rfl rfl hl.1 rfl (lv_room (Nat.le_of_ble_eq_true rfl)) dX3_told_38 ⟨Nat.le_of_ble_eq_true rfl, Nat.le_of_ble_eq_true rfl⟩ rfl ?_
    exact zR_i hx hb hr hlocks dX3_told_41 rfl
  · exact absurd (zb_f c1) (by rw [(show inB 0 2 3 = true from by decide)]; decide)
set_option maxHeartbeats 4000000 in
set_option maxRecDepth 100000 in
theorem c_X3_told_3 (l : Launch) (D : va_G) (y : Nat → ClassId) (X0 : Nat) (E E2 : Nat → Nat) (t : Nat → Int32) (o : Nat → Nat) (q b : Fld) (c bc n : Nat) (ar fi re : Int32) (T : TS) (k : Nat) (hk : k < bc) (hc : c ≤ 6) (hbc : bc ≤ 5) : zR l yX3_told wsX3_told { frames := 4, cells := 0, slots := 0, locals := 88 } D y [.ref X0, .int (nI k), .int 3] (sW X0 E E2 y t o q b c bc n ar fi re T) (some (.int ((nextE q c (b 2 k) (b 1 k)).1))) := by
  refine zR.of (cc := cX3_told) (maxL := 4) (ret := (some .int)) (own := RX3) (by decide) rfl (Nat.le_of_ble_eq_true rfl) rfl ?_
  intro p e s m args below meth cd ls hx hb hr hml hown hts hlocks hP hK hl
  have hl : lv_has ls 4 [(0, .ref X0), (1, .int (nI k)), (2, .int 3)] := hl
  have hf12 : (Cond.fieldLink RX3 12 "StakeWeirs" "now" "LStakeWeirs$Estuary;").before args s = true := hts _ (by decide +kernel)
  have hinX3 : ∀ w ∈ wsX30, w ∈ wsX3_told := by decide +kernel
  refine lv_aload_n hx hb dX3_told_0 rfl (lv_at hl 0 rfl) ?_
  refine va_get (D := D) (ci := 3) (v := .ref (E 0)) (C := RX3) (T := TX3) (N := 2) hx hb hts hinX3 hown hK hP (0) rfl rfl 0 (by decide) hf12 (fun _ h9 => h9) rfl dX3_told_1 ?_
  refine lv_iload_n hx hb dX3_told_4 rfl (lv_at hl 1 rfl) ?_
  refine zcRV (As := [.int (nI k)]) (rest := []) (st1 := [.ref (E (11 + k))]) ⟨hx, hb, hml, hown, hts⟩ (c_X1_bargeAt l D y E t o q b c bc n ar fi re k (by omega) (by omega)) (cwV 1 hts gX3_told_X1_bargeAt rfl rfl rfl (by decide +kernel) ⟨Nat.le_of_ble_eq_true rfl, Nat.le_of_ble_eq_true rfl⟩) hK (z_sub_P hP (fun z h => List.mem_append_right _ (List.mem_append_left _ h))) (ci := 1) (q0 := 0) rfl rfl rfl rfl hl.1 rfl (lv_room (Nat.le_of_ble_eq_true rfl)) dX3_told_5 ⟨Nat.le_of_ble_eq_true rfl, Nat.le_of_ble_eq_true rfl⟩ rfl ?_
  refine lv_astore_n (lv' := [(3, .ref (E (11 + k))), (0, .ref X0), (1, .int (nI k)), (2, .int 3)]) hx hb dX3_told_8 rfl hl (by decide) rfl (fun ls hl => ?_)
  refine lv_aload_n hx hb dX3_told_9 rfl (lv_at hl 0 rfl) ?_
  refine lv_ifnull hx hb dX3_told_10 ?_
  refine lv_iload_n hx hb dX3_told_13 rfl (lv_at hl 3 rfl) ?_
  refine lv_iconst (v := 0) hx hb dX3_told_14 (by decide) ?_
  refine lv_iconst (v := 3) hx hb dX3_told_15 (by decide) ?_
  refine zcRS (As := [.int 3, .int 0, .int 3]) (rest := []) (st1 := [.int (zb (inB 0 3 3))]) ⟨hx, hb, hml, hown, hts⟩ (c_X3_isWithin l D y 3 0 3) (cwS 3 hts gX3_told_X3_isWithin rfl rfl rfl (by decide +kernel) ⟨Nat.le_of_ble_eq_true rfl, Nat.le_of_ble_eq_true rfl⟩) hK va_P_nil rfl hl.1 rfl (lv_room (Nat.le_of_ble_eq_true rfl)) dX3_told_16 ⟨Nat.le_of_ble_eq_true rfl, Nat.le_of_ble_eq_true rfl⟩ rfl ?_
  refine lv_if_ne (tgt := 32) hx hb dX3_told_19 (by decide) (fun c1 => ?_) (fun c1 => ?_)
  · have c1 := c1
    refine lv_aload_n hx hb dX3_told_32 rfl (lv_at hl 1 rfl) ?_
    refine va_get (D := D) (ci := 3) (v := .ref (E 0)) (C := RX3) (T := TX3) (N := 2) hx hb hts hinX3 hown hK hP (0) rfl rfl 0 (by decide) hf12 (fun _ h9 => h9) rfl dX3_told_33 ?_
    refine lv_aload_n hx hb dX3_told_36 rfl (lv_at hl 0 rfl) ?_
    refine lv_iload_n hx hb dX3_told_37 rfl (lv_at hl 3 rfl) ?_
    refine zcRV (As := [.ref (E (11 + k)), .int 3]) (rest := []) (st1 := [.int ((nextE q c (b 2 k) (b 1 k)).1)]) ⟨hx, hb, hml, hown, hts⟩ (c_X1_bargeFact_3 l D y E t o q b c bc n ar fi re k (by omega) (by omega)) (cwV 2 hts gX3_told_X1_bargeFact rfl rfl rfl (by decide +kernel) ⟨Nat.le_of_ble_eq_true rfl, Nat.le_of_ble_eq_true rfl⟩) hK (z_sub_P hP (fun z h => List.mem_append_right _ (List.mem_append_left _ h))) (ci := 1) (q0 := 0) rfl rfl rfl rfl hl.1 rfl (lv_room (Nat.le_of_ble_eq_true rfl)) dX3_told_38 ⟨Nat.le_of_ble_eq_true rfl, Nat.le_of_ble_eq_true rfl⟩ rfl ?_
    exact zR_i hx hb hr hlocks dX3_told_41 rfl
  · exact absurd (zb_f c1) (by rw [(show inB 0 3 3 = true from by decide)]; decide)
set_option maxHeartbeats 4000000 in
set_option maxRecDepth 100000 in
theorem c_X3_told_T1 (l : Launch) (hl0 : l.stackTraces = false) (D : va_G) (y : Nat → ClassId) (X0 : Nat) (E E2 : Nat → Nat) (t : Nat → Int32) (o : Nat → Nat) (q b : Fld) (c bc n : Nat) (ar fi re : Int32) (T : TS) (x : Int32) (hx0 : x < 0 ∨ nI bc ≤ x) (z : Int32) (hbc : bc ≤ 5) : zT l yX3_told wsX3_told { frames := 6, cells := 1, slots := 6, locals := 90 } D y [.ref X0, .int x, .int z] (sW X0 E E2 y t o q b c bc n ar fi re T) "java/lang/IndexOutOfBoundsException" := by
  refine zT.of (cc := cX3_told) (maxL := 4) (ret := (some .int)) (own := RX3) (by decide) rfl (Nat.le_of_ble_eq_true rfl) rfl ?_
  intro p e s m args below meth cd ls hx hb hr hml hown hts hlocks hP hK hT0 hout hl
  have hl : lv_has ls 4 [(0, .ref X0), (1, .int x), (2, .int z)] := hl
  have hf12 : (Cond.fieldLink RX3 12 "StakeWeirs" "now" "LStakeWeirs$Estuary;").before args s = true := hts _ (by decide +kernel)
  have hinX3 : ∀ w ∈ wsX30, w ∈ wsX3_told := by decide +kernel
  have hkl47 : (Cond.classLink RX3 47 "java/lang/IndexOutOfBoundsException").before args s = true := hts _ (by decide +kernel)
  have hini47 : (Cond.initialized "java/lang/IndexOutOfBoundsException").before args s = true := hts _ (by decide +kernel)
  refine lv_aload_n hx hb dX3_told_0 rfl (lv_at hl 0 rfl) ?_
  refine va_get (D := D) (ci := 3) (v := .ref (E 0)) (C := RX3) (T := TX3) (N := 2) hx hb hts hinX3 hown hK hP (0) rfl rfl 0 (by decide) hf12 (fun _ h9 => h9) rfl dX3_told_1 ?_
  refine lv_iload_n hx hb dX3_told_4 rfl (lv_at hl 1 rfl) ?_
  refine zcRV (As := [.int x]) (rest := []) (st1 := [.null]) ⟨hx, hb, hml, hown, hts⟩ (c_X1_bargeAt_no l D y E t o q b c bc n ar fi re x hx0 (by omega)) (cwV 1 hts gX3_told_X1_bargeAt rfl rfl rfl (by decide +kernel) ⟨Nat.le_of_ble_eq_true rfl, Nat.le_of_ble_eq_true rfl⟩) hK (z_sub_P hP (fun z h => List.mem_append_right _ (List.mem_append_left _ h))) (ci := 1) (q0 := 0) rfl rfl rfl rfl hl.1 rfl (lv_room (Nat.le_of_ble_eq_true rfl)) dX3_told_5 ⟨Nat.le_of_ble_eq_true rfl, Nat.le_of_ble_eq_true rfl⟩ rfl ?_
  refine lv_astore_nN (lv' := [(3, .null), (0, .ref X0), (1, .int x), (2, .int z)]) hx hb dX3_told_8 rfl hl (by decide) rfl (fun ls hl => ?_)
  refine lv_aload_nN hx hb dX3_told_9 rfl (lv_at hl 0 rfl) ?_
  refine lv_ifnullN (tgt := 22) hx hb dX3_told_10 (by decide) ?_
  exact z_thr (cls := "java/lang/IndexOutOfBoundsException") (text := "no such barge, or what is not 0 to 3") (ik := 47) (is := 125) (ic := 51) hx hb hl0 hown (by decide +kernel) hkl47 hini47 hts (fun x h => List.mem_cons_of_mem _ (List.mem_append_right _ h)) zbad_51 (zgoodO_51 47) hT0 (by decide) hl.1 hml dX3_told_22 dX3_told_25 dX3_told_26 dX3_told_28 dX3_told_31 hout (Nat.le_of_ble_eq_true rfl) (Nat.le_of_ble_eq_true rfl) (Nat.le_of_ble_eq_true rfl) (Nat.le_of_ble_eq_true rfl) hlocks
set_option maxHeartbeats 4000000 in
set_option maxRecDepth 100000 in
theorem c_X3_told_T2 (l : Launch) (hl0 : l.stackTraces = false) (D : va_G) (y : Nat → ClassId) (X0 : Nat) (E E2 : Nat → Nat) (t : Nat → Int32) (o : Nat → Nat) (q b : Fld) (c bc n : Nat) (ar fi re : Int32) (T : TS) (k : Nat) (hk : k < bc) (z : Int32) (hw : inB 0 z 3 = false) (hbc : bc ≤ 5) : zT l yX3_told wsX3_told { frames := 6, cells := 1, slots := 6, locals := 90 } D y [.ref X0, .int (nI k), .int z] (sW X0 E E2 y t o q b c bc n ar fi re T) "java/lang/IndexOutOfBoundsException" := by
  refine zT.of (cc := cX3_told) (maxL := 4) (ret := (some .int)) (own := RX3) (by decide) rfl (Nat.le_of_ble_eq_true rfl) rfl ?_
  intro p e s m args below meth cd ls hx hb hr hml hown hts hlocks hP hK hT0 hout hl
  have hl : lv_has ls 4 [(0, .ref X0), (1, .int (nI k)), (2, .int z)] := hl
  have hf12 : (Cond.fieldLink RX3 12 "StakeWeirs" "now" "LStakeWeirs$Estuary;").before args s = true := hts _ (by decide +kernel)
  have hinX3 : ∀ w ∈ wsX30, w ∈ wsX3_told := by decide +kernel
  have hkl47 : (Cond.classLink RX3 47 "java/lang/IndexOutOfBoundsException").before args s = true := hts _ (by decide +kernel)
  have hini47 : (Cond.initialized "java/lang/IndexOutOfBoundsException").before args s = true := hts _ (by decide +kernel)
  refine lv_aload_n hx hb dX3_told_0 rfl (lv_at hl 0 rfl) ?_
  refine va_get (D := D) (ci := 3) (v := .ref (E 0)) (C := RX3) (T := TX3) (N := 2) hx hb hts hinX3 hown hK hP (0) rfl rfl 0 (by decide) hf12 (fun _ h9 => h9) rfl dX3_told_1 ?_
  refine lv_iload_n hx hb dX3_told_4 rfl (lv_at hl 1 rfl) ?_
  refine zcRV (As := [.int (nI k)]) (rest := []) (st1 := [.ref (E (11 + k))]) ⟨hx, hb, hml, hown, hts⟩ (c_X1_bargeAt l D y E t o q b c bc n ar fi re k (by omega) (by omega)) (cwV 1 hts gX3_told_X1_bargeAt rfl rfl rfl (by decide +kernel) ⟨Nat.le_of_ble_eq_true rfl, Nat.le_of_ble_eq_true rfl⟩) hK (z_sub_P hP (fun z h => List.mem_append_right _ (List.mem_append_left _ h))) (ci := 1) (q0 := 0) rfl rfl rfl rfl hl.1 rfl (lv_room (Nat.le_of_ble_eq_true rfl)) dX3_told_5 ⟨Nat.le_of_ble_eq_true rfl, Nat.le_of_ble_eq_true rfl⟩ rfl ?_
  refine lv_astore_n (lv' := [(3, .ref (E (11 + k))), (0, .ref X0), (1, .int (nI k)), (2, .int z)]) hx hb dX3_told_8 rfl hl (by decide) rfl (fun ls hl => ?_)
  refine lv_aload_n hx hb dX3_told_9 rfl (lv_at hl 0 rfl) ?_
  refine lv_ifnull hx hb dX3_told_10 ?_
  refine lv_iload_n hx hb dX3_told_13 rfl (lv_at hl 3 rfl) ?_
  refine lv_iconst (v := 0) hx hb dX3_told_14 (by decide) ?_
  refine lv_iconst (v := 3) hx hb dX3_told_15 (by decide) ?_
  refine zcRS (As := [.int z, .int 0, .int 3]) (rest := []) (st1 := [.int (zb (inB 0 z 3))]) ⟨hx, hb, hml, hown, hts⟩ (c_X3_isWithin l D y z 0 3) (cwS 3 hts gX3_told_X3_isWithin rfl rfl rfl (by decide +kernel) ⟨Nat.le_of_ble_eq_true rfl, Nat.le_of_ble_eq_true rfl⟩) hK va_P_nil rfl hl.1 rfl (lv_room (Nat.le_of_ble_eq_true rfl)) dX3_told_16 ⟨Nat.le_of_ble_eq_true rfl, Nat.le_of_ble_eq_true rfl⟩ rfl ?_
  refine lv_if_ne (tgt := 32) hx hb dX3_told_19 (by decide) (fun c1 => ?_) (fun c1 => ?_)
  · exact absurd (zb_t c1) (by rw [hw]; decide)
  · have c1 := c1
    exact z_thr (cls := "java/lang/IndexOutOfBoundsException") (text := "no such barge, or what is not 0 to 3") (ik := 47) (is := 125) (ic := 51) hx hb hl0 hown (by decide +kernel) hkl47 hini47 hts (fun x h => List.mem_cons_of_mem _ (List.mem_append_right _ h)) zbad_51 (zgoodO_51 47) hT0 (by decide) hl.1 hml dX3_told_22 dX3_told_25 dX3_told_26 dX3_told_28 dX3_told_31 hout (Nat.le_of_ble_eq_true rfl) (Nat.le_of_ble_eq_true rfl) (Nat.le_of_ble_eq_true rfl) (Nat.le_of_ble_eq_true rfl) hlocks
def gateZ (q : Fld) (k : Nat) : Int32 := if q 6 k = 0 then 1 else 0
set_option maxHeartbeats 4000000 in
set_option maxRecDepth 100000 in
theorem c_X3_gate (l : Launch) (D : va_G) (y : Nat → ClassId) (X0 : Nat) (E E2 : Nat → Nat) (t : Nat → Int32) (o : Nat → Nat) (q b : Fld) (c bc n : Nat) (ar fi re : Int32) (T : TS) (k : Nat) (hk : k < c) (hh : heldB q k = true) (hc : c ≤ 6) (sz : Nat) : zM l yX3_gate wsX3_gate { frames := 1, cells := 0, slots := 0, locals := 22 } D y [.ref X0, .int (nI k)] (sW X0 E E2 y t o q b c bc n ar fi re T) sz (some (.int (gateZ q k))) (sW X0 E E2 y t o (up2 q 6 k (gateZ q k)) b c bc n ar fi re T) 0 0 := by
  refine zM.ofH (cc := cX3_gate) (maxL := 3) (ret := (some .boolean)) (own := RX3) (by decide) rfl (Nat.le_of_ble_eq_true rfl) rfl ?_
  intro p e s m args below meth cd ls A H locs hx hb hr hml hown hts hlocks hP hK hD hA hS hl hin
  have hS0 := hS
  have hl : lv_has ls 3 [(0, .ref X0), (1, .int (nI k))] := hl
  have hf12 : (Cond.fieldLink RX3 12 "StakeWeirs" "now" "LStakeWeirs$Estuary;").before args s = true := hts _ (by decide +kernel)
  have hinX3 : ∀ w ∈ wsX30, w ∈ wsX3_gate := by decide +kernel
  have hf60 : (Cond.fieldLink RX3 60 "StakeWeirs$Weir" "open" "Z").before args s = true := hts _ (by decide +kernel)
  have hinX2 : ∀ w ∈ wsX20, w ∈ wsX3_gate := by decide +kernel
  refine lv_aload_n hx hb dX3_gate_0 rfl (lv_at hl 0 rfl) ?_
  refine va_get (D := D) (ci := 3) (v := .ref (E 0)) (C := RX3) (T := TX3) (N := 2) hx hb hts hinX3 hown hK hP (0) rfl rfl 0 (by decide) hf12 (fun _ h9 => h9) rfl dX3_gate_1 ?_
  refine lv_iload_n hx hb dX3_gate_4 rfl (lv_at hl 1 rfl) ?_
  refine zcRV (As := [.int (nI k)]) (rest := []) (st1 := [.ref (E (5 + k))]) ⟨hx, hb, hml, hown, hts⟩ (c_X1_weirAt l D y E t o q b c bc n ar fi re k (by omega) (by omega)) (cwV 1 hts gX3_gate_X1_weirAt rfl rfl rfl (by decide +kernel) ⟨Nat.le_of_ble_eq_true rfl, Nat.le_of_ble_eq_true rfl⟩) hK (z_sub_P hP (fun z h => List.mem_append_right _ (List.mem_append_left _ h))) (ci := 1) (q0 := 0) rfl rfl rfl rfl hl.1 rfl (lv_room (Nat.le_of_ble_eq_true rfl)) dX3_gate_5 ⟨Nat.le_of_ble_eq_true rfl, Nat.le_of_ble_eq_true rfl⟩ rfl ?_
  refine lv_astore_n (lv' := [(2, .ref (E (5 + k))), (0, .ref X0), (1, .int (nI k))]) hx hb dX3_gate_8 rfl hl (by decide) rfl (fun ls hl => ?_)
  refine lv_aload_n hx hb dX3_gate_9 rfl (lv_at hl 0 rfl) ?_
  refine lv_ifnonnull (tgt := 23) hx hb dX3_gate_10 (by decide) ?_
  refine lv_aload_n hx hb dX3_gate_23 rfl (lv_at hl 0 rfl) ?_
  refine zcRV (As := []) (rest := []) (st1 := [.int (zb (heldB q k))]) ⟨hx, hb, hml, hown, hts⟩ (c_X2_isHeld l D y (E (5 + k)) q k) (cwV 0 hts gX3_gate_X2_isHeld rfl rfl rfl (by decide +kernel) ⟨Nat.le_of_ble_eq_true rfl, Nat.le_of_ble_eq_true rfl⟩) hK (z_sub_P hP (z_in_1 (k := 1 + (5 + k)) (z_apr (n := 1) rfl (z_apl (eW_w (by omega)))))) (ci := 2) (q0 := 0) rfl rfl rfl rfl hl.1 rfl (lv_room (Nat.le_of_ble_eq_true rfl)) dX3_gate_24 ⟨Nat.le_of_ble_eq_true rfl, Nat.le_of_ble_eq_true rfl⟩ rfl ?_
  refine lv_if_ne (tgt := 40) hx hb dX3_gate_27 (by decide) (fun c1 => ?_) (fun c1 => ?_)
  · have c1 := c1
    refine lv_aload_n hx hb dX3_gate_40 rfl (lv_at hl 0 rfl) ?_
    refine lv_aload_n hx hb dX3_gate_41 rfl (lv_at hl 0 rfl) ?_
    refine va_get (D := D) (ci := 2) (v := .int ((q 6 k))) (C := RX2) (T := TX2) (N := 8) hx hb hts hinX2 hown hK hP (1 + (5 + k)) (z_apr (n := 1) rfl (z_apl (eW_w (by omega)))) rfl 6 (by decide) hf60 (fun _ h9 => h9) rfl dX3_gate_42 ?_
    refine lv_if_ne (tgt := 52) hx hb dX3_gate_45 (by decide) (fun c2 => ?_) (fun c2 => ?_)
    · have d2 := c2
      refine lv_iconst (v := 0) hx hb dX3_gate_52 (by decide) ?_
      refine va_put (D := D) (ci := 2) (v := .int 0) (ty := .boolean) (C := RX2) (T := TX2) (N := 8) hx hb hts hinX2 tyX2 tyX2_ok nmX2 hown hK hP hD hS (1 + (5 + k)) (z_apr (n := 1) rfl (z_apl (eW_w (by omega)))) rfl 6 (by decide) hf60 (fun _ h9 => h9) rfl (by decide +kernel) (zb_nar (Or.inl rfl)) (zb_fit (Or.inl rfl)) (Nat.le_of_ble_eq_true rfl) dX3_gate_53 (fun H locs hP hD hS => ?_)
      have hP : va_P D vwCl (sW X0 E E2 y t o (up2 q 6 k 0) b c bc n ar fi re T) H := by rw [← sW_putN (by omega) (fun j i h => up2_k _ _ _ _ _ _ h), ← qF_6]; exact hP
      have hD : va_D A (sW X0 E E2 y t o (up2 q 6 k 0) b c bc n ar fi re T)  := by rw [← sW_putN (by omega) (fun j i h => up2_k _ _ _ _ _ _ h), ← qF_6]; exact hD
      refine lv_aload_n hx hb dX3_gate_56 rfl (lv_at hl 0 rfl) ?_
      refine va_get (D := D) (ci := 2) (v := .int (((up2 q 6 k 0) 6 k))) (C := RX2) (T := TX2) (N := 8) hx hb hts hinX2 hown hK hP (1 + (5 + k)) (z_apr (n := 1) rfl (z_apl (eW_w (by omega)))) rfl 6 (by decide) hf60 (fun _ h9 => h9) rfl dX3_gate_57 ?_
      refine zt_i (x' := 0) (up2_s _ _ _ _) ?_
      exact zM_z hx hb hr hlocks hS dX3_gate_60 (Or.inl rfl) (by simp [gateZ, zb, c2, d2]) (by rw [show gateZ q k = 0 from by simp [gateZ, c2, d2]]; exact hP)
    · have d2 := c2
      refine lv_iconst (v := 1) hx hb dX3_gate_48 (by decide) ?_
      refine lv_goto (tgt := 53) hx hb dX3_gate_49 (by decide) ?_
      refine va_put (D := D) (ci := 2) (v := .int 1) (ty := .boolean) (C := RX2) (T := TX2) (N := 8) hx hb hts hinX2 tyX2 tyX2_ok nmX2 hown hK hP hD hS (1 + (5 + k)) (z_apr (n := 1) rfl (z_apl (eW_w (by omega)))) rfl 6 (by decide) hf60 (fun _ h9 => h9) rfl (by decide +kernel) (zb_nar (Or.inr rfl)) (zb_fit (Or.inr rfl)) (Nat.le_of_ble_eq_true rfl) dX3_gate_53 (fun H locs hP hD hS => ?_)
      have hP : va_P D vwCl (sW X0 E E2 y t o (up2 q 6 k 1) b c bc n ar fi re T) H := by rw [← sW_putN (by omega) (fun j i h => up2_k _ _ _ _ _ _ h), ← qF_6]; exact hP
      have hD : va_D A (sW X0 E E2 y t o (up2 q 6 k 1) b c bc n ar fi re T)  := by rw [← sW_putN (by omega) (fun j i h => up2_k _ _ _ _ _ _ h), ← qF_6]; exact hD
      refine lv_aload_n hx hb dX3_gate_56 rfl (lv_at hl 0 rfl) ?_
      refine va_get (D := D) (ci := 2) (v := .int (((up2 q 6 k 1) 6 k))) (C := RX2) (T := TX2) (N := 8) hx hb hts hinX2 hown hK hP (1 + (5 + k)) (z_apr (n := 1) rfl (z_apl (eW_w (by omega)))) rfl 6 (by decide) hf60 (fun _ h9 => h9) rfl dX3_gate_57 ?_
      refine zt_i (x' := 1) (up2_s _ _ _ _) ?_
      exact zM_z hx hb hr hlocks hS dX3_gate_60 (Or.inr rfl) (by simp [gateZ, zb, c2, d2]) (by rw [show gateZ q k = 1 from by simp [gateZ, c2, d2]]; exact hP)
  · exact absurd (zb_f c1) (by rw [hh]; decide)
set_option maxHeartbeats 4000000 in
set_option maxRecDepth 100000 in
theorem c_X3_gate_T1 (l : Launch) (hl0 : l.stackTraces = false) (D : va_G) (y : Nat → ClassId) (X0 : Nat) (E E2 : Nat → Nat) (t : Nat → Int32) (o : Nat → Nat) (q b : Fld) (c bc n : Nat) (ar fi re : Int32) (T : TS) (x : Int32) (hx0 : x < 0 ∨ nI c ≤ x) (hc : c ≤ 6) : zT l yX3_gate wsX3_gate { frames := 6, cells := 1, slots := 6, locals := 90 } D y [.ref X0, .int x] (sW X0 E E2 y t o q b c bc n ar fi re T) "java/lang/IndexOutOfBoundsException" := by
  refine zT.of (cc := cX3_gate) (maxL := 3) (ret := (some .boolean)) (own := RX3) (by decide) rfl (Nat.le_of_ble_eq_true rfl) rfl ?_
  intro p e s m args below meth cd ls hx hb hr hml hown hts hlocks hP hK hT0 hout hl
  have hl : lv_has ls 3 [(0, .ref X0), (1, .int x)] := hl
  have hf12 : (Cond.fieldLink RX3 12 "StakeWeirs" "now" "LStakeWeirs$Estuary;").before args s = true := hts _ (by decide +kernel)
  have hinX3 : ∀ w ∈ wsX30, w ∈ wsX3_gate := by decide +kernel
  have hkl47 : (Cond.classLink RX3 47 "java/lang/IndexOutOfBoundsException").before args s = true := hts _ (by decide +kernel)
  have hini47 : (Cond.initialized "java/lang/IndexOutOfBoundsException").before args s = true := hts _ (by decide +kernel)
  refine lv_aload_n hx hb dX3_gate_0 rfl (lv_at hl 0 rfl) ?_
  refine va_get (D := D) (ci := 3) (v := .ref (E 0)) (C := RX3) (T := TX3) (N := 2) hx hb hts hinX3 hown hK hP (0) rfl rfl 0 (by decide) hf12 (fun _ h9 => h9) rfl dX3_gate_1 ?_
  refine lv_iload_n hx hb dX3_gate_4 rfl (lv_at hl 1 rfl) ?_
  refine zcRV (As := [.int x]) (rest := []) (st1 := [.null]) ⟨hx, hb, hml, hown, hts⟩ (c_X1_weirAt_no l D y E t o q b c bc n ar fi re x hx0 (by omega)) (cwV 1 hts gX3_gate_X1_weirAt rfl rfl rfl (by decide +kernel) ⟨Nat.le_of_ble_eq_true rfl, Nat.le_of_ble_eq_true rfl⟩) hK (z_sub_P hP (fun z h => List.mem_append_right _ (List.mem_append_left _ h))) (ci := 1) (q0 := 0) rfl rfl rfl rfl hl.1 rfl (lv_room (Nat.le_of_ble_eq_true rfl)) dX3_gate_5 ⟨Nat.le_of_ble_eq_true rfl, Nat.le_of_ble_eq_true rfl⟩ rfl ?_
  refine lv_astore_nN (lv' := [(2, .null), (0, .ref X0), (1, .int x)]) hx hb dX3_gate_8 rfl hl (by decide) rfl (fun ls hl => ?_)
  refine lv_aload_nN hx hb dX3_gate_9 rfl (lv_at hl 0 rfl) ?_
  refine lv_ifnonnullN hx hb dX3_gate_10 ?_
  exact z_thr (cls := "java/lang/IndexOutOfBoundsException") (text := "no such weir") (ik := 47) (is := 49) (ic := 51) hx hb hl0 hown (by decide +kernel) hkl47 hini47 hts (fun x h => List.mem_cons_of_mem _ (List.mem_append_left _ (List.mem_append_right _ h))) zbad_51 (zgoodO_51 47) hT0 (by decide) hl.1 hml dX3_gate_13 dX3_gate_16 dX3_gate_17 dX3_gate_19 dX3_gate_22 hout (Nat.le_of_ble_eq_true rfl) (Nat.le_of_ble_eq_true rfl) (Nat.le_of_ble_eq_true rfl) (Nat.le_of_ble_eq_true rfl) hlocks
set_option maxHeartbeats 4000000 in
set_option maxRecDepth 100000 in
theorem c_X3_gate_T2 (l : Launch) (hl0 : l.stackTraces = false) (D : va_G) (y : Nat → ClassId) (X0 : Nat) (E E2 : Nat → Nat) (t : Nat → Int32) (o : Nat → Nat) (q b : Fld) (c bc n : Nat) (ar fi re : Int32) (T : TS) (k : Nat) (hk : k < c) (hh : heldB q k = false) (hc : c ≤ 6) : zT l yX3_gate wsX3_gate { frames := 6, cells := 1, slots := 6, locals := 90 } D y [.ref X0, .int (nI k)] (sW X0 E E2 y t o q b c bc n ar fi re T) "java/lang/IllegalStateException" := by
  refine zT.of (cc := cX3_gate) (maxL := 3) (ret := (some .boolean)) (own := RX3) (by decide) rfl (Nat.le_of_ble_eq_true rfl) rfl ?_
  intro p e s m args below meth cd ls hx hb hr hml hown hts hlocks hP hK hT0 hout hl
  have hl : lv_has ls 3 [(0, .ref X0), (1, .int (nI k))] := hl
  have hf12 : (Cond.fieldLink RX3 12 "StakeWeirs" "now" "LStakeWeirs$Estuary;").before args s = true := hts _ (by decide +kernel)
  have hinX3 : ∀ w ∈ wsX30, w ∈ wsX3_gate := by decide +kernel
  have hkl34 : (Cond.classLink RX3 34 "java/lang/IllegalStateException").before args s = true := hts _ (by decide +kernel)
  have hini34 : (Cond.initialized "java/lang/IllegalStateException").before args s = true := hts _ (by decide +kernel)
  refine lv_aload_n hx hb dX3_gate_0 rfl (lv_at hl 0 rfl) ?_
  refine va_get (D := D) (ci := 3) (v := .ref (E 0)) (C := RX3) (T := TX3) (N := 2) hx hb hts hinX3 hown hK hP (0) rfl rfl 0 (by decide) hf12 (fun _ h9 => h9) rfl dX3_gate_1 ?_
  refine lv_iload_n hx hb dX3_gate_4 rfl (lv_at hl 1 rfl) ?_
  refine zcRV (As := [.int (nI k)]) (rest := []) (st1 := [.ref (E (5 + k))]) ⟨hx, hb, hml, hown, hts⟩ (c_X1_weirAt l D y E t o q b c bc n ar fi re k (by omega) (by omega)) (cwV 1 hts gX3_gate_X1_weirAt rfl rfl rfl (by decide +kernel) ⟨Nat.le_of_ble_eq_true rfl, Nat.le_of_ble_eq_true rfl⟩) hK (z_sub_P hP (fun z h => List.mem_append_right _ (List.mem_append_left _ h))) (ci := 1) (q0 := 0) rfl rfl rfl rfl hl.1 rfl (lv_room (Nat.le_of_ble_eq_true rfl)) dX3_gate_5 ⟨Nat.le_of_ble_eq_true rfl, Nat.le_of_ble_eq_true rfl⟩ rfl ?_
  refine lv_astore_n (lv' := [(2, .ref (E (5 + k))), (0, .ref X0), (1, .int (nI k))]) hx hb dX3_gate_8 rfl hl (by decide) rfl (fun ls hl => ?_)
  refine lv_aload_n hx hb dX3_gate_9 rfl (lv_at hl 0 rfl) ?_
  refine lv_ifnonnull (tgt := 23) hx hb dX3_gate_10 (by decide) ?_
  refine lv_aload_n hx hb dX3_gate_23 rfl (lv_at hl 0 rfl) ?_
  refine zcRV (As := []) (rest := []) (st1 := [.int (zb (heldB q k))]) ⟨hx, hb, hml, hown, hts⟩ (c_X2_isHeld l D y (E (5 + k)) q k) (cwV 0 hts gX3_gate_X2_isHeld rfl rfl rfl (by decide +kernel) ⟨Nat.le_of_ble_eq_true rfl, Nat.le_of_ble_eq_true rfl⟩) hK (z_sub_P hP (z_in_1 (k := 1 + (5 + k)) (z_apr (n := 1) rfl (z_apl (eW_w (by omega)))))) (ci := 2) (q0 := 0) rfl rfl rfl rfl hl.1 rfl (lv_room (Nat.le_of_ble_eq_true rfl)) dX3_gate_24 ⟨Nat.le_of_ble_eq_true rfl, Nat.le_of_ble_eq_true rfl⟩ rfl ?_
  refine lv_if_ne (tgt := 40) hx hb dX3_gate_27 (by decide) (fun c1 => ?_) (fun c1 => ?_)
  · exact absurd (zb_t c1) (by rw [hh]; decide)
  · have c1 := c1
    exact z_thr (cls := "java/lang/IllegalStateException") (text := "the weir is forfeit") (ik := 34) (is := 58) (ic := 38) hx hb hl0 hown (by decide +kernel) hkl34 hini34 hts (fun x h => List.mem_cons_of_mem _ (List.mem_append_right _ h)) zbad_38 (zgoodO_38 34) hT0 (by decide) hl.1 hml dX3_gate_30 dX3_gate_33 dX3_gate_34 dX3_gate_36 dX3_gate_39 hout (Nat.le_of_ble_eq_true rfl) (Nat.le_of_ble_eq_true rfl) (Nat.le_of_ble_eq_true rfl) (Nat.le_of_ble_eq_true rfl) hlocks
set_option maxHeartbeats 4000000 in
set_option maxRecDepth 100000 in
theorem c_X3_mend (l : Launch) (D : va_G) (y : Nat → ClassId) (X0 : Nat) (E E2 : Nat → Nat) (t : Nat → Int32) (o : Nat → Nat) (q b : Fld) (c bc n : Nat) (ar fi re : Int32) (T : TS) (k : Nat) (hk : k < c) (x : Int32) (hw : inB 1 x 100 = true) (hh : heldB q k = true) (h1 : ¬ 100 < q 2 k + x) (h2 : ¬ q 4 k < (((x + 5) - 1) / 5)) (hc : c ≤ 6) (sz : Nat) : zM l yX3_mend wsX3_mend { frames := 1, cells := 0, slots := 0, locals := 22 } D y [.ref X0, .int (nI k), .int x] (sW X0 E E2 y t o q b c bc n ar fi re T) sz (some (.int (q 2 k + x))) (sW X0 E E2 y t o (up2 (up2 q 4 k (q 4 k - (((x + 5) - 1) / 5))) 2 k (q 2 k + x)) b c bc n ar fi re T) 0 0 := by
  refine zM.ofH (cc := cX3_mend) (maxL := 5) (ret := (some .int)) (own := RX3) (by decide) rfl (Nat.le_of_ble_eq_true rfl) rfl ?_
  intro p e s m args below meth cd ls A H locs hx hb hr hml hown hts hlocks hP hK hD hA hS hl hin
  have hS0 := hS
  have hl : lv_has ls 5 [(0, .ref X0), (1, .int (nI k)), (2, .int x)] := hl
  have hf12 : (Cond.fieldLink RX3 12 "StakeWeirs" "now" "LStakeWeirs$Estuary;").before args s = true := hts _ (by decide +kernel)
  have hinX3 : ∀ w ∈ wsX30, w ∈ wsX3_mend := by decide +kernel
  have hf66 : (Cond.fieldLink RX3 66 "StakeWeirs$Weir" "wattle" "I").before args s = true := hts _ (by decide +kernel)
  have hinX2 : ∀ w ∈ wsX20, w ∈ wsX3_mend := by decide +kernel
  have hf69 : (Cond.fieldLink RX3 69 "StakeWeirs$Weir" "coins" "I").before args s = true := hts _ (by decide +kernel)
  refine lv_aload_n hx hb dX3_mend_0 rfl (lv_at hl 0 rfl) ?_
  refine va_get (D := D) (ci := 3) (v := .ref (E 0)) (C := RX3) (T := TX3) (N := 2) hx hb hts hinX3 hown hK hP (0) rfl rfl 0 (by decide) hf12 (fun _ h9 => h9) rfl dX3_mend_1 ?_
  refine lv_iload_n hx hb dX3_mend_4 rfl (lv_at hl 1 rfl) ?_
  refine zcRV (As := [.int (nI k)]) (rest := []) (st1 := [.ref (E (5 + k))]) ⟨hx, hb, hml, hown, hts⟩ (c_X1_weirAt l D y E t o q b c bc n ar fi re k (by omega) (by omega)) (cwV 1 hts gX3_mend_X1_weirAt rfl rfl rfl (by decide +kernel) ⟨Nat.le_of_ble_eq_true rfl, Nat.le_of_ble_eq_true rfl⟩) hK (z_sub_P hP (fun z h => List.mem_append_right _ (List.mem_append_left _ h))) (ci := 1) (q0 := 0) rfl rfl rfl rfl hl.1 rfl (lv_room (Nat.le_of_ble_eq_true rfl)) dX3_mend_5 ⟨Nat.le_of_ble_eq_true rfl, Nat.le_of_ble_eq_true rfl⟩ rfl ?_
  refine lv_astore_n (lv' := [(3, .ref (E (5 + k))), (0, .ref X0), (1, .int (nI k)), (2, .int x)]) hx hb dX3_mend_8 rfl hl (by decide) rfl (fun ls hl => ?_)
  refine lv_aload_n hx hb dX3_mend_9 rfl (lv_at hl 0 rfl) ?_
  refine lv_ifnonnull (tgt := 23) hx hb dX3_mend_10 (by decide) ?_
  refine lv_iload_n hx hb dX3_mend_23 rfl (lv_at hl 3 rfl) ?_
  refine lv_iconst (v := 1) hx hb dX3_mend_24 (by decide) ?_
  refine lv_bipush (v := 100) hx hb dX3_mend_25 (by decide) ?_
  refine zcRS (As := [.int x, .int 1, .int 100]) (rest := []) (st1 := [.int (zb (inB 1 x 100))]) ⟨hx, hb, hml, hown, hts⟩ (c_X3_isWithin l D y x 1 100) (cwS 3 hts gX3_mend_X3_isWithin rfl rfl rfl (by decide +kernel) ⟨Nat.le_of_ble_eq_true rfl, Nat.le_of_ble_eq_true rfl⟩) hK va_P_nil rfl hl.1 rfl (lv_room (Nat.le_of_ble_eq_true rfl)) dX3_mend_27 ⟨Nat.le_of_ble_eq_true rfl, Nat.le_of_ble_eq_true rfl⟩ rfl ?_
  refine lv_if_ne (tgt := 43) hx hb dX3_mend_30 (by decide) (fun c1 => ?_) (fun c1 => ?_)
  · have c1 := c1
    refine lv_iload_n hx hb dX3_mend_43 rfl (lv_at hl 3 rfl) ?_
    refine lv_iconst (v := 5) hx hb dX3_mend_44 (by decide) ?_
    refine lv_iadd hx hb dX3_mend_45 ?_
    refine lv_iconst (v := 1) hx hb dX3_mend_46 (by decide) ?_
    refine lv_isub hx hb dX3_mend_47 ?_
    refine lv_iconst (v := 5) hx hb dX3_mend_48 (by decide) ?_
    refine lv_idiv hx hb dX3_mend_49 (by decide) ?_
    refine lv_istore (lv' := [(4, .int ((((x + 5) - 1) / 5))), (3, .ref (E (5 + k))), (0, .ref X0), (1, .int (nI k)), (2, .int x)]) hx hb dX3_mend_50 hl (by decide) rfl (fun ls hl => ?_)
    refine lv_aload_n hx hb dX3_mend_52 rfl (lv_at hl 1 rfl) ?_
    refine zcRV (As := []) (rest := []) (st1 := [.int (zb (heldB q k))]) ⟨hx, hb, hml, hown, hts⟩ (c_X2_isHeld l D y (E (5 + k)) q k) (cwV 0 hts gX3_mend_X2_isHeld rfl rfl rfl (by decide +kernel) ⟨Nat.le_of_ble_eq_true rfl, Nat.le_of_ble_eq_true rfl⟩) hK (z_sub_P hP (z_in_1 (k := 1 + (5 + k)) (z_apr (n := 1) rfl (z_apl (eW_w (by omega)))))) (ci := 2) (q0 := 0) rfl rfl rfl rfl hl.1 rfl (lv_room (Nat.le_of_ble_eq_true rfl)) dX3_mend_53 ⟨Nat.le_of_ble_eq_true rfl, Nat.le_of_ble_eq_true rfl⟩ rfl ?_
    refine lv_if_eq (tgt := 79) hx hb dX3_mend_56 (by decide) (fun c2 => ?_) (fun c2 => ?_)
    · exact absurd (zb_f c2) (by rw [hh]; decide)
    · have c2 := c2
      refine lv_aload_n hx hb dX3_mend_59 rfl (lv_at hl 1 rfl) ?_
      refine va_get (D := D) (ci := 2) (v := .int ((q 2 k))) (C := RX2) (T := TX2) (N := 8) hx hb hts hinX2 hown hK hP (1 + (5 + k)) (z_apr (n := 1) rfl (z_apl (eW_w (by omega)))) rfl 2 (by decide) hf66 (fun _ h9 => h9) rfl dX3_mend_60 ?_
      refine lv_iload_n hx hb dX3_mend_63 rfl (lv_at hl 4 rfl) ?_
      refine lv_iadd hx hb dX3_mend_64 ?_
      refine lv_bipush (v := 100) hx hb dX3_mend_65 (by decide) ?_
      refine lv_icmp_gt (tgt := 79) hx hb dX3_mend_67 (by decide) (fun c3 => ?_) (fun c3 => ?_)
      · exact absurd c3 h1
      · have d3 := Int32.not_lt.mp c3
        refine lv_aload_n hx hb dX3_mend_70 rfl (lv_at hl 1 rfl) ?_
        refine va_get (D := D) (ci := 2) (v := .int ((q 4 k))) (C := RX2) (T := TX2) (N := 8) hx hb hts hinX2 hown hK hP (1 + (5 + k)) (z_apr (n := 1) rfl (z_apl (eW_w (by omega)))) rfl 4 (by decide) hf69 (fun _ h9 => h9) rfl dX3_mend_71 ?_
        refine lv_iload hx hb dX3_mend_74 (lv_at hl 0 rfl) ?_
        refine lv_icmp_ge (tgt := 89) hx hb dX3_mend_76 (by decide) (fun c4 => ?_) (fun c4 => ?_)
        · have d4 := Int32.not_lt.mpr c4
          refine lv_aload_n hx hb dX3_mend_89 rfl (lv_at hl 1 rfl) ?_
          refine lv_dup hx hb dX3_mend_90 rfl ?_
          refine va_get (D := D) (ci := 2) (v := .int ((q 4 k))) (C := RX2) (T := TX2) (N := 8) hx hb hts hinX2 hown hK hP (1 + (5 + k)) (z_apr (n := 1) rfl (z_apl (eW_w (by omega)))) rfl 4 (by decide) hf69 (fun _ h9 => h9) rfl dX3_mend_91 ?_
          refine lv_iload hx hb dX3_mend_94 (lv_at hl 0 rfl) ?_
          refine lv_isub hx hb dX3_mend_96 ?_
          refine va_put (D := D) (ci := 2) (v := .int (((q 4 k) - (((x + 5) - 1) / 5)))) (ty := .int) (C := RX2) (T := TX2) (N := 8) hx hb hts hinX2 tyX2 tyX2_ok nmX2 hown hK hP hD hS (1 + (5 + k)) (z_apr (n := 1) rfl (z_apl (eW_w (by omega)))) rfl 4 (by decide) hf69 (fun _ h9 => h9) rfl (by decide +kernel) rfl rfl (Nat.le_of_ble_eq_true rfl) dX3_mend_97 (fun H locs hP hD hS => ?_)
          have hP : va_P D vwCl (sW X0 E E2 y t o (up2 q 4 k ((q 4 k) - (((x + 5) - 1) / 5))) b c bc n ar fi re T) H := by rw [← sW_putN (by omega) (fun j i h => up2_k _ _ _ _ _ _ h), ← qF_4]; exact hP
          have hD : va_D A (sW X0 E E2 y t o (up2 q 4 k ((q 4 k) - (((x + 5) - 1) / 5))) b c bc n ar fi re T)  := by rw [← sW_putN (by omega) (fun j i h => up2_k _ _ _ _ _ _ h), ← qF_4]; exact hD
          refine lv_aload_n hx hb dX3_mend_100 rfl (lv_at hl 1 rfl) ?_
          refine lv_dup hx hb dX3_mend_101 rfl ?_
          refine va_get (D := D) (ci := 2) (v := .int ((q 2 k))) (C := RX2) (T := TX2) (N := 8) hx hb hts hinX2 hown hK hP (1 + (5 + k)) (z_apr (n := 1) rfl (z_apl (eW_w (by omega)))) rfl 2 (by decide) hf66 (fun _ h9 => h9) rfl dX3_mend_102 ?_
          refine lv_iload_n hx hb dX3_mend_105 rfl (lv_at hl 4 rfl) ?_
          refine lv_iadd hx hb dX3_mend_106 ?_
          refine va_put (D := D) (ci := 2) (v := .int (((q 2 k) + x))) (ty := .int) (C := RX2) (T := TX2) (N := 8) hx hb hts hinX2 tyX2 tyX2_ok nmX2 hown hK hP hD hS (1 + (5 + k)) (z_apr (n := 1) rfl (z_apl (eW_w (by omega)))) rfl 2 (by decide) hf66 (fun _ h9 => h9) rfl (by decide +kernel) rfl rfl (Nat.le_of_ble_eq_true rfl) dX3_mend_107 (fun H locs hP hD hS => ?_)
          have hP : va_P D vwCl (sW X0 E E2 y t o (up2 (up2 q 4 k ((q 4 k) - (((x + 5) - 1) / 5))) 2 k ((q 2 k) + x)) b c bc n ar fi re T) H := by rw [← sW_putN (by omega) (fun j i h => up2_k _ _ _ _ _ _ h), ← qF_2]; exact hP
          have hD : va_D A (sW X0 E E2 y t o (up2 (up2 q 4 k ((q 4 k) - (((x + 5) - 1) / 5))) 2 k ((q 2 k) + x)) b c bc n ar fi re T)  := by rw [← sW_putN (by omega) (fun j i h => up2_k _ _ _ _ _ _ h), ← qF_2]; exact hD
          refine lv_aload_n hx hb dX3_mend_110 rfl (lv_at hl 1 rfl) ?_
          refine va_get (D := D) (ci := 2) (v := .int (((up2 (up2 q 4 k ((q 4 k) - (((x + 5) - 1) / 5))) 2 k ((q 2 k) + x)) 2 k))) (C := RX2) (T := TX2) (N := 8) hx hb hts hinX2 hown hK hP (1 + (5 + k)) (z_apr (n := 1) rfl (z_apl (eW_w (by omega)))) rfl 2 (by decide) hf66 (fun _ h9 => h9) rfl dX3_mend_111 ?_
          refine zt_i (x' := ((q 2 k) + x)) (up2_s _ _ _ _) ?_
          exact zM_i hx hb hr hlocks hS dX3_mend_114 rfl hP
        · exact absurd (Int32.not_lt.mp h2) c4
  · exact absurd (zb_f c1) (by rw [hw]; decide)
set_option maxHeartbeats 4000000 in
set_option maxRecDepth 100000 in
theorem c_X3_mend_T1 (l : Launch) (hl0 : l.stackTraces = false) (D : va_G) (y : Nat → ClassId) (X0 : Nat) (E E2 : Nat → Nat) (t : Nat → Int32) (o : Nat → Nat) (q b : Fld) (c bc n : Nat) (ar fi re : Int32) (T : TS) (x : Int32) (hx0 : x < 0 ∨ nI c ≤ x) (z : Int32) (hc : c ≤ 6) : zT l yX3_mend wsX3_mend { frames := 6, cells := 1, slots := 6, locals := 90 } D y [.ref X0, .int x, .int z] (sW X0 E E2 y t o q b c bc n ar fi re T) "java/lang/IndexOutOfBoundsException" := by
  refine zT.of (cc := cX3_mend) (maxL := 5) (ret := (some .int)) (own := RX3) (by decide) rfl (Nat.le_of_ble_eq_true rfl) rfl ?_
  intro p e s m args below meth cd ls hx hb hr hml hown hts hlocks hP hK hT0 hout hl
  have hl : lv_has ls 5 [(0, .ref X0), (1, .int x), (2, .int z)] := hl
  have hf12 : (Cond.fieldLink RX3 12 "StakeWeirs" "now" "LStakeWeirs$Estuary;").before args s = true := hts _ (by decide +kernel)
  have hinX3 : ∀ w ∈ wsX30, w ∈ wsX3_mend := by decide +kernel
  have hkl47 : (Cond.classLink RX3 47 "java/lang/IndexOutOfBoundsException").before args s = true := hts _ (by decide +kernel)
  have hini47 : (Cond.initialized "java/lang/IndexOutOfBoundsException").before args s = true := hts _ (by decide +kernel)
  refine lv_aload_n hx hb dX3_mend_0 rfl (lv_at hl 0 rfl) ?_
  refine va_get (D := D) (ci := 3) (v := .ref (E 0)) (C := RX3) (T := TX3) (N := 2) hx hb hts hinX3 hown hK hP (0) rfl rfl 0 (by decide) hf12 (fun _ h9 => h9) rfl dX3_mend_1 ?_
  refine lv_iload_n hx hb dX3_mend_4 rfl (lv_at hl 1 rfl) ?_
  refine zcRV (As := [.int x]) (rest := []) (st1 := [.null]) ⟨hx, hb, hml, hown, hts⟩ (c_X1_weirAt_no l D y E t o q b c bc n ar fi re x hx0 (by omega)) (cwV 1 hts gX3_mend_X1_weirAt rfl rfl rfl (by decide +kernel) ⟨Nat.le_of_ble_eq_true rfl, Nat.le_of_ble_eq_true rfl⟩) hK (z_sub_P hP (fun z h => List.mem_append_right _ (List.mem_append_left _ h))) (ci := 1) (q0 := 0) rfl rfl rfl rfl hl.1 rfl (lv_room (Nat.le_of_ble_eq_true rfl)) dX3_mend_5 ⟨Nat.le_of_ble_eq_true rfl, Nat.le_of_ble_eq_true rfl⟩ rfl ?_
  refine lv_astore_nN (lv' := [(3, .null), (0, .ref X0), (1, .int x), (2, .int z)]) hx hb dX3_mend_8 rfl hl (by decide) rfl (fun ls hl => ?_)
  refine lv_aload_nN hx hb dX3_mend_9 rfl (lv_at hl 0 rfl) ?_
  refine lv_ifnonnullN hx hb dX3_mend_10 ?_
  exact z_thr (cls := "java/lang/IndexOutOfBoundsException") (text := "no such weir") (ik := 47) (is := 49) (ic := 51) hx hb hl0 hown (by decide +kernel) hkl47 hini47 hts (fun x h => List.mem_cons_of_mem _ (List.mem_append_left _ (List.mem_append_left _ (List.mem_append_right _ h)))) zbad_51 (zgoodO_51 47) hT0 (by decide) hl.1 hml dX3_mend_13 dX3_mend_16 dX3_mend_17 dX3_mend_19 dX3_mend_22 hout (Nat.le_of_ble_eq_true rfl) (Nat.le_of_ble_eq_true rfl) (Nat.le_of_ble_eq_true rfl) (Nat.le_of_ble_eq_true rfl) hlocks
set_option maxHeartbeats 4000000 in
set_option maxRecDepth 100000 in
theorem c_X3_mend_T2 (l : Launch) (hl0 : l.stackTraces = false) (D : va_G) (y : Nat → ClassId) (X0 : Nat) (E E2 : Nat → Nat) (t : Nat → Int32) (o : Nat → Nat) (q b : Fld) (c bc n : Nat) (ar fi re : Int32) (T : TS) (k : Nat) (hk : k < c) (x : Int32) (hw : inB 1 x 100 = false) (hc : c ≤ 6) : zT l yX3_mend wsX3_mend { frames := 6, cells := 1, slots := 6, locals := 90 } D y [.ref X0, .int (nI k), .int x] (sW X0 E E2 y t o q b c bc n ar fi re T) "java/lang/IllegalArgumentException" := by
  refine zT.of (cc := cX3_mend) (maxL := 5) (ret := (some .int)) (own := RX3) (by decide) rfl (Nat.le_of_ble_eq_true rfl) rfl ?_
  intro p e s m args below meth cd ls hx hb hr hml hown hts hlocks hP hK hT0 hout hl
  have hl : lv_has ls 5 [(0, .ref X0), (1, .int (nI k)), (2, .int x)] := hl
  have hf12 : (Cond.fieldLink RX3 12 "StakeWeirs" "now" "LStakeWeirs$Estuary;").before args s = true := hts _ (by decide +kernel)
  have hinX3 : ∀ w ∈ wsX30, w ∈ wsX3_mend := by decide +kernel
  have hkl23 : (Cond.classLink RX3 23 "java/lang/IllegalArgumentException").before args s = true := hts _ (by decide +kernel)
  have hini23 : (Cond.initialized "java/lang/IllegalArgumentException").before args s = true := hts _ (by decide +kernel)
  refine lv_aload_n hx hb dX3_mend_0 rfl (lv_at hl 0 rfl) ?_
  refine va_get (D := D) (ci := 3) (v := .ref (E 0)) (C := RX3) (T := TX3) (N := 2) hx hb hts hinX3 hown hK hP (0) rfl rfl 0 (by decide) hf12 (fun _ h9 => h9) rfl dX3_mend_1 ?_
  refine lv_iload_n hx hb dX3_mend_4 rfl (lv_at hl 1 rfl) ?_
  refine zcRV (As := [.int (nI k)]) (rest := []) (st1 := [.ref (E (5 + k))]) ⟨hx, hb, hml, hown, hts⟩ (c_X1_weirAt l D y E t o q b c bc n ar fi re k (by omega) (by omega)) (cwV 1 hts gX3_mend_X1_weirAt rfl rfl rfl (by decide +kernel) ⟨Nat.le_of_ble_eq_true rfl, Nat.le_of_ble_eq_true rfl⟩) hK (z_sub_P hP (fun z h => List.mem_append_right _ (List.mem_append_left _ h))) (ci := 1) (q0 := 0) rfl rfl rfl rfl hl.1 rfl (lv_room (Nat.le_of_ble_eq_true rfl)) dX3_mend_5 ⟨Nat.le_of_ble_eq_true rfl, Nat.le_of_ble_eq_true rfl⟩ rfl ?_
  refine lv_astore_n (lv' := [(3, .ref (E (5 + k))), (0, .ref X0), (1, .int (nI k)), (2, .int x)]) hx hb dX3_mend_8 rfl hl (by decide) rfl (fun ls hl => ?_)
  refine lv_aload_n hx hb dX3_mend_9 rfl (lv_at hl 0 rfl) ?_
  refine lv_ifnonnull (tgt := 23) hx hb dX3_mend_10 (by decide) ?_
  refine lv_iload_n hx hb dX3_mend_23 rfl (lv_at hl 3 rfl) ?_
  refine lv_iconst (v := 1) hx hb dX3_mend_24 (by decide) ?_
  refine lv_bipush (v := 100) hx hb dX3_mend_25 (by decide) ?_
  refine zcRS (As := [.int x, .int 1, .int 100]) (rest := []) (st1 := [.int (zb (inB 1 x 100))]) ⟨hx, hb, hml, hown, hts⟩ (c_X3_isWithin l D y x 1 100) (cwS 3 hts gX3_mend_X3_isWithin rfl rfl rfl (by decide +kernel) ⟨Nat.le_of_ble_eq_true rfl, Nat.le_of_ble_eq_true rfl⟩) hK va_P_nil rfl hl.1 rfl (lv_room (Nat.le_of_ble_eq_true rfl)) dX3_mend_27 ⟨Nat.le_of_ble_eq_true rfl, Nat.le_of_ble_eq_true rfl⟩ rfl ?_
  refine lv_if_ne (tgt := 43) hx hb dX3_mend_30 (by decide) (fun c1 => ?_) (fun c1 => ?_)
  · exact absurd (zb_t c1) (by rw [hw]; decide)
  · have c1 := c1
    exact z_thr (cls := "java/lang/IllegalArgumentException") (text := "much is not 1 to 100") (ik := 23) (is := 64) (ic := 27) hx hb hl0 hown (by decide +kernel) hkl23 hini23 hts (fun x h => List.mem_cons_of_mem _ (List.mem_append_left _ (List.mem_append_right _ h))) zbad_27 (zgoodO_27 23) hT0 (by decide) hl.1 hml dX3_mend_33 dX3_mend_36 dX3_mend_37 dX3_mend_39 dX3_mend_42 hout (Nat.le_of_ble_eq_true rfl) (Nat.le_of_ble_eq_true rfl) (Nat.le_of_ble_eq_true rfl) (Nat.le_of_ble_eq_true rfl) hlocks
set_option maxHeartbeats 4000000 in
set_option maxRecDepth 100000 in
theorem c_X3_mend_T3 (l : Launch) (hl0 : l.stackTraces = false) (D : va_G) (y : Nat → ClassId) (X0 : Nat) (E E2 : Nat → Nat) (t : Nat → Int32) (o : Nat → Nat) (q b : Fld) (c bc n : Nat) (ar fi re : Int32) (T : TS) (k : Nat) (hk : k < c) (x : Int32) (hw : inB 1 x 100 = true) (hh : heldB q k = false ∨ 100 < q 2 k + x ∨ q 4 k < (((x + 5) - 1) / 5)) (hc : c ≤ 6) : zT l yX3_mend wsX3_mend { frames := 6, cells := 1, slots := 6, locals := 90 } D y [.ref X0, .int (nI k), .int x] (sW X0 E E2 y t o q b c bc n ar fi re T) "java/lang/IllegalStateException" := by
  refine zT.of (cc := cX3_mend) (maxL := 5) (ret := (some .int)) (own := RX3) (by decide) rfl (Nat.le_of_ble_eq_true rfl) rfl ?_
  intro p e s m args below meth cd ls hx hb hr hml hown hts hlocks hP hK hT0 hout hl
  have hl : lv_has ls 5 [(0, .ref X0), (1, .int (nI k)), (2, .int x)] := hl
  have hf12 : (Cond.fieldLink RX3 12 "StakeWeirs" "now" "LStakeWeirs$Estuary;").before args s = true := hts _ (by decide +kernel)
  have hinX3 : ∀ w ∈ wsX30, w ∈ wsX3_mend := by decide +kernel
  have hkl34 : (Cond.classLink RX3 34 "java/lang/IllegalStateException").before args s = true := hts _ (by decide +kernel)
  have hini34 : (Cond.initialized "java/lang/IllegalStateException").before args s = true := hts _ (by decide +kernel)
  have hf66 : (Cond.fieldLink RX3 66 "StakeWeirs$Weir" "wattle" "I").before args s = true := hts _ (by decide +kernel)
  have hinX2 : ∀ w ∈ wsX20, w ∈ wsX3_mend := by decide +kernel
  have hf69 : (Cond.fieldLink RX3 69 "StakeWeirs$Weir" "coins" "I").before args s = true := hts _ (by decide +kernel)
  refine lv_aload_n hx hb dX3_mend_0 rfl (lv_at hl 0 rfl) ?_
  refine va_get (D := D) (ci := 3) (v := .ref (E 0)) (C := RX3) (T := TX3) (N := 2) hx hb hts hinX3 hown hK hP (0) rfl rfl 0 (by decide) hf12 (fun _ h9 => h9) rfl dX3_mend_1 ?_
  refine lv_iload_n hx hb dX3_mend_4 rfl (lv_at hl 1 rfl) ?_
  refine zcRV (As := [.int (nI k)]) (rest := []) (st1 := [.ref (E (5 + k))]) ⟨hx, hb, hml, hown, hts⟩ (c_X1_weirAt l D y E t o q b c bc n ar fi re k (by omega) (by omega)) (cwV 1 hts gX3_mend_X1_weirAt rfl rfl rfl (by decide +kernel) ⟨Nat.le_of_ble_eq_true rfl, Nat.le_of_ble_eq_true rfl⟩) hK (z_sub_P hP (fun z h => List.mem_append_right _ (List.mem_append_left _ h))) (ci := 1) (q0 := 0) rfl rfl rfl rfl hl.1 rfl (lv_room (Nat.le_of_ble_eq_true rfl)) dX3_mend_5 ⟨Nat.le_of_ble_eq_true rfl, Nat.le_of_ble_eq_true rfl⟩ rfl ?_
  refine lv_astore_n (lv' := [(3, .ref (E (5 + k))), (0, .ref X0), (1, .int (nI k)), (2, .int x)]) hx hb dX3_mend_8 rfl hl (by decide) rfl (fun ls hl => ?_)
  refine lv_aload_n hx hb dX3_mend_9 rfl (lv_at hl 0 rfl) ?_
  refine lv_ifnonnull (tgt := 23) hx hb dX3_mend_10 (by decide) ?_
  refine lv_iload_n hx hb dX3_mend_23 rfl (lv_at hl 3 rfl) ?_
  refine lv_iconst (v := 1) hx hb dX3_mend_24 (by decide) ?_
  refine lv_bipush (v := 100) hx hb dX3_mend_25 (by decide) ?_
  refine zcRS (As := [.int x, .int 1, .int 100]) (rest := []) (st1 := [.int (zb (inB 1 x 100))]) ⟨hx, hb, hml, hown, hts⟩ (c_X3_isWithin l D y x 1 100) (cwS 3 hts gX3_mend_X3_isWithin rfl rfl rfl (by decide +kernel) ⟨Nat.le_of_ble_eq_true rfl, Nat.le_of_ble_eq_true rfl⟩) hK va_P_nil rfl hl.1 rfl (lv_room (Nat.le_of_ble_eq_true rfl)) dX3_mend_27 ⟨Nat.le_of_ble_eq_true rfl, Nat.le_of_ble_eq_true rfl⟩ rfl ?_
  refine lv_if_ne (tgt := 43) hx hb dX3_mend_30 (by decide) (fun c1 => ?_) (fun c1 => ?_)
  · have c1 := c1
    refine lv_iload_n hx hb dX3_mend_43 rfl (lv_at hl 3 rfl) ?_
    refine lv_iconst (v := 5) hx hb dX3_mend_44 (by decide) ?_
    refine lv_iadd hx hb dX3_mend_45 ?_
    refine lv_iconst (v := 1) hx hb dX3_mend_46 (by decide) ?_
    refine lv_isub hx hb dX3_mend_47 ?_
    refine lv_iconst (v := 5) hx hb dX3_mend_48 (by decide) ?_
    refine lv_idiv hx hb dX3_mend_49 (by decide) ?_
    refine lv_istore (lv' := [(4, .int ((((x + 5) - 1) / 5))), (3, .ref (E (5 + k))), (0, .ref X0), (1, .int (nI k)), (2, .int x)]) hx hb dX3_mend_50 hl (by decide) rfl (fun ls hl => ?_)
    refine lv_aload_n hx hb dX3_mend_52 rfl (lv_at hl 1 rfl) ?_
    refine zcRV (As := []) (rest := []) (st1 := [.int (zb (heldB q k))]) ⟨hx, hb, hml, hown, hts⟩ (c_X2_isHeld l D y (E (5 + k)) q k) (cwV 0 hts gX3_mend_X2_isHeld rfl rfl rfl (by decide +kernel) ⟨Nat.le_of_ble_eq_true rfl, Nat.le_of_ble_eq_true rfl⟩) hK (z_sub_P hP (z_in_1 (k := 1 + (5 + k)) (z_apr (n := 1) rfl (z_apl (eW_w (by omega)))))) (ci := 2) (q0 := 0) rfl rfl rfl rfl hl.1 rfl (lv_room (Nat.le_of_ble_eq_true rfl)) dX3_mend_53 ⟨Nat.le_of_ble_eq_true rfl, Nat.le_of_ble_eq_true rfl⟩ rfl ?_
    refine lv_if_eq (tgt := 79) hx hb dX3_mend_56 (by decide) (fun c2 => ?_) (fun c2 => ?_)
    · have c2 : heldB q k = false := zb_f c2
      exact z_thr (cls := "java/lang/IllegalStateException") (text := "forfeit, too much wattle or too few coins") (ik := 34) (is := 72) (ic := 38) hx hb hl0 hown (by decide +kernel) hkl34 hini34 hts (fun x h => List.mem_cons_of_mem _ (List.mem_append_right _ h)) zbad_38 (zgoodO_38 34) hT0 (by decide) hl.1 hml dX3_mend_79 dX3_mend_82 dX3_mend_83 dX3_mend_85 dX3_mend_88 hout (Nat.le_of_ble_eq_true rfl) (Nat.le_of_ble_eq_true rfl) (Nat.le_of_ble_eq_true rfl) (Nat.le_of_ble_eq_true rfl) hlocks
    · have c2 : heldB q k = true := zb_t c2
      refine lv_aload_n hx hb dX3_mend_59 rfl (lv_at hl 1 rfl) ?_
      refine va_get (D := D) (ci := 2) (v := .int ((q 2 k))) (C := RX2) (T := TX2) (N := 8) hx hb hts hinX2 hown hK hP (1 + (5 + k)) (z_apr (n := 1) rfl (z_apl (eW_w (by omega)))) rfl 2 (by decide) hf66 (fun _ h9 => h9) rfl dX3_mend_60 ?_
      refine lv_iload_n hx hb dX3_mend_63 rfl (lv_at hl 4 rfl) ?_
      refine lv_iadd hx hb dX3_mend_64 ?_
      refine lv_bipush (v := 100) hx hb dX3_mend_65 (by decide) ?_
      refine lv_icmp_gt (tgt := 79) hx hb dX3_mend_67 (by decide) (fun c3 => ?_) (fun c3 => ?_)
      · have d3 := Int32.not_le.mpr c3
        exact z_thr (cls := "java/lang/IllegalStateException") (text := "forfeit, too much wattle or too few coins") (ik := 34) (is := 72) (ic := 38) hx hb hl0 hown (by decide +kernel) hkl34 hini34 hts (fun x h => List.mem_cons_of_mem _ (List.mem_append_right _ h)) zbad_38 (zgoodO_38 34) hT0 (by decide) hl.1 hml dX3_mend_79 dX3_mend_82 dX3_mend_83 dX3_mend_85 dX3_mend_88 hout (Nat.le_of_ble_eq_true rfl) (Nat.le_of_ble_eq_true rfl) (Nat.le_of_ble_eq_true rfl) (Nat.le_of_ble_eq_true rfl) hlocks
      · have d3 := Int32.not_lt.mp c3
        refine lv_aload_n hx hb dX3_mend_70 rfl (lv_at hl 1 rfl) ?_
        refine va_get (D := D) (ci := 2) (v := .int ((q 4 k))) (C := RX2) (T := TX2) (N := 8) hx hb hts hinX2 hown hK hP (1 + (5 + k)) (z_apr (n := 1) rfl (z_apl (eW_w (by omega)))) rfl 4 (by decide) hf69 (fun _ h9 => h9) rfl dX3_mend_71 ?_
        refine lv_iload hx hb dX3_mend_74 (lv_at hl 0 rfl) ?_
        refine lv_icmp_ge (tgt := 89) hx hb dX3_mend_76 (by decide) (fun c4 => ?_) (fun c4 => ?_)
        · have d4 := Int32.not_lt.mpr c4
          exact (hh.elim (fun h9 => absurd (h9.symm.trans c2) (by decide)) (fun h9 => h9.elim (fun h9 => by first | exact absurd h9 c3 | exact absurd h9 (Int32.not_lt.mpr c3)) (fun h9 => by first | exact absurd h9 c4 | exact absurd h9 (Int32.not_lt.mpr c4))) : False).elim
        · have d4 := Int32.not_le.mp c4
          exact z_thr (cls := "java/lang/IllegalStateException") (text := "forfeit, too much wattle or too few coins") (ik := 34) (is := 72) (ic := 38) hx hb hl0 hown (by decide +kernel) hkl34 hini34 hts (fun x h => List.mem_cons_of_mem _ (List.mem_append_right _ h)) zbad_38 (zgoodO_38 34) hT0 (by decide) hl.1 hml dX3_mend_79 dX3_mend_82 dX3_mend_83 dX3_mend_85 dX3_mend_88 hout (Nat.le_of_ble_eq_true rfl) (Nat.le_of_ble_eq_true rfl) (Nat.le_of_ble_eq_true rfl) (Nat.le_of_ble_eq_true rfl) hlocks
  · exact absurd (zb_f c1) (by rw [hw]; decide)
set_option maxHeartbeats 4000000 in
set_option maxRecDepth 100000 in
theorem c_X3_drive (l : Launch) (D : va_G) (y : Nat → ClassId) (X0 : Nat) (E E2 : Nat → Nat) (t : Nat → Int32) (o : Nat → Nat) (q b : Fld) (c bc n : Nat) (ar fi re : Int32) (T : TS) (k : Nat) (hk : k < c) (x : Int32) (hw : inB 1 x 30 = true) (hh : heldB q k = true) (h1 : ¬ 30 < q 1 k + x) (h2 : ¬ q 4 k < (x * 2)) (hc : c ≤ 6) (sz : Nat) : zM l yX3_drive wsX3_drive { frames := 1, cells := 0, slots := 0, locals := 22 } D y [.ref X0, .int (nI k), .int x] (sW X0 E E2 y t o q b c bc n ar fi re T) sz (some (.int (q 1 k + x))) (sW X0 E E2 y t o (up2 (up2 q 4 k (q 4 k - (x * 2))) 1 k (q 1 k + x)) b c bc n ar fi re T) 0 0 := by
  refine zM.ofH (cc := cX3_drive) (maxL := 5) (ret := (some .int)) (own := RX3) (by decide) rfl (Nat.le_of_ble_eq_true rfl) rfl ?_
  intro p e s m args below meth cd ls A H locs hx hb hr hml hown hts hlocks hP hK hD hA hS hl hin
  have hS0 := hS
  have hl : lv_has ls 5 [(0, .ref X0), (1, .int (nI k)), (2, .int x)] := hl
  have hf12 : (Cond.fieldLink RX3 12 "StakeWeirs" "now" "LStakeWeirs$Estuary;").before args s = true := hts _ (by decide +kernel)
  have hinX3 : ∀ w ∈ wsX30, w ∈ wsX3_drive := by decide +kernel
  have hf76 : (Cond.fieldLink RX3 76 "StakeWeirs$Weir" "stakes" "I").before args s = true := hts _ (by decide +kernel)
  have hinX2 : ∀ w ∈ wsX20, w ∈ wsX3_drive := by decide +kernel
  have hf69 : (Cond.fieldLink RX3 69 "StakeWeirs$Weir" "coins" "I").before args s = true := hts _ (by decide +kernel)
  refine lv_aload_n hx hb dX3_drive_0 rfl (lv_at hl 0 rfl) ?_
  refine va_get (D := D) (ci := 3) (v := .ref (E 0)) (C := RX3) (T := TX3) (N := 2) hx hb hts hinX3 hown hK hP (0) rfl rfl 0 (by decide) hf12 (fun _ h9 => h9) rfl dX3_drive_1 ?_
  refine lv_iload_n hx hb dX3_drive_4 rfl (lv_at hl 1 rfl) ?_
  refine zcRV (As := [.int (nI k)]) (rest := []) (st1 := [.ref (E (5 + k))]) ⟨hx, hb, hml, hown, hts⟩ (c_X1_weirAt l D y E t o q b c bc n ar fi re k (by omega) (by omega)) (cwV 1 hts gX3_drive_X1_weirAt rfl rfl rfl (by decide +kernel) ⟨Nat.le_of_ble_eq_true rfl, Nat.le_of_ble_eq_true rfl⟩) hK (z_sub_P hP (fun z h => List.mem_append_right _ (List.mem_append_left _ h))) (ci := 1) (q0 := 0) rfl rfl rfl rfl hl.1 rfl (lv_room (Nat.le_of_ble_eq_true rfl)) dX3_drive_5 ⟨Nat.le_of_ble_eq_true rfl, Nat.le_of_ble_eq_true rfl⟩ rfl ?_
  refine lv_astore_n (lv' := [(3, .ref (E (5 + k))), (0, .ref X0), (1, .int (nI k)), (2, .int x)]) hx hb dX3_drive_8 rfl hl (by decide) rfl (fun ls hl => ?_)
  refine lv_aload_n hx hb dX3_drive_9 rfl (lv_at hl 0 rfl) ?_
  refine lv_ifnonnull (tgt := 23) hx hb dX3_drive_10 (by decide) ?_
  refine lv_iload_n hx hb dX3_drive_23 rfl (lv_at hl 3 rfl) ?_
  refine lv_iconst (v := 1) hx hb dX3_drive_24 (by decide) ?_
  refine lv_bipush (v := 30) hx hb dX3_drive_25 (by decide) ?_
  refine zcRS (As := [.int x, .int 1, .int 30]) (rest := []) (st1 := [.int (zb (inB 1 x 30))]) ⟨hx, hb, hml, hown, hts⟩ (c_X3_isWithin l D y x 1 30) (cwS 3 hts gX3_drive_X3_isWithin rfl rfl rfl (by decide +kernel) ⟨Nat.le_of_ble_eq_true rfl, Nat.le_of_ble_eq_true rfl⟩) hK va_P_nil rfl hl.1 rfl (lv_room (Nat.le_of_ble_eq_true rfl)) dX3_drive_27 ⟨Nat.le_of_ble_eq_true rfl, Nat.le_of_ble_eq_true rfl⟩ rfl ?_
  refine lv_if_ne (tgt := 43) hx hb dX3_drive_30 (by decide) (fun c1 => ?_) (fun c1 => ?_)
  · have c1 := c1
    refine lv_iload_n hx hb dX3_drive_43 rfl (lv_at hl 3 rfl) ?_
    refine lv_iconst (v := 2) hx hb dX3_drive_44 (by decide) ?_
    refine lv_imul hx hb dX3_drive_45 ?_
    refine lv_istore (lv' := [(4, .int ((x * 2))), (3, .ref (E (5 + k))), (0, .ref X0), (1, .int (nI k)), (2, .int x)]) hx hb dX3_drive_46 hl (by decide) rfl (fun ls hl => ?_)
    refine lv_aload_n hx hb dX3_drive_48 rfl (lv_at hl 1 rfl) ?_
    refine zcRV (As := []) (rest := []) (st1 := [.int (zb (heldB q k))]) ⟨hx, hb, hml, hown, hts⟩ (c_X2_isHeld l D y (E (5 + k)) q k) (cwV 0 hts gX3_drive_X2_isHeld rfl rfl rfl (by decide +kernel) ⟨Nat.le_of_ble_eq_true rfl, Nat.le_of_ble_eq_true rfl⟩) hK (z_sub_P hP (z_in_1 (k := 1 + (5 + k)) (z_apr (n := 1) rfl (z_apl (eW_w (by omega)))))) (ci := 2) (q0 := 0) rfl rfl rfl rfl hl.1 rfl (lv_room (Nat.le_of_ble_eq_true rfl)) dX3_drive_49 ⟨Nat.le_of_ble_eq_true rfl, Nat.le_of_ble_eq_true rfl⟩ rfl ?_
    refine lv_if_eq (tgt := 75) hx hb dX3_drive_52 (by decide) (fun c2 => ?_) (fun c2 => ?_)
    · exact absurd (zb_f c2) (by rw [hh]; decide)
    · have c2 := c2
      refine lv_aload_n hx hb dX3_drive_55 rfl (lv_at hl 1 rfl) ?_
      refine va_get (D := D) (ci := 2) (v := .int ((q 1 k))) (C := RX2) (T := TX2) (N := 8) hx hb hts hinX2 hown hK hP (1 + (5 + k)) (z_apr (n := 1) rfl (z_apl (eW_w (by omega)))) rfl 1 (by decide) hf76 (fun _ h9 => h9) rfl dX3_drive_56 ?_
      refine lv_iload_n hx hb dX3_drive_59 rfl (lv_at hl 4 rfl) ?_
      refine lv_iadd hx hb dX3_drive_60 ?_
      refine lv_bipush (v := 30) hx hb dX3_drive_61 (by decide) ?_
      refine lv_icmp_gt (tgt := 75) hx hb dX3_drive_63 (by decide) (fun c3 => ?_) (fun c3 => ?_)
      · exact absurd c3 h1
      · have d3 := Int32.not_lt.mp c3
        refine lv_aload_n hx hb dX3_drive_66 rfl (lv_at hl 1 rfl) ?_
        refine va_get (D := D) (ci := 2) (v := .int ((q 4 k))) (C := RX2) (T := TX2) (N := 8) hx hb hts hinX2 hown hK hP (1 + (5 + k)) (z_apr (n := 1) rfl (z_apl (eW_w (by omega)))) rfl 4 (by decide) hf69 (fun _ h9 => h9) rfl dX3_drive_67 ?_
        refine lv_iload hx hb dX3_drive_70 (lv_at hl 0 rfl) ?_
        refine lv_icmp_ge (tgt := 85) hx hb dX3_drive_72 (by decide) (fun c4 => ?_) (fun c4 => ?_)
        · have d4 := Int32.not_lt.mpr c4
          refine lv_aload_n hx hb dX3_drive_85 rfl (lv_at hl 1 rfl) ?_
          refine lv_dup hx hb dX3_drive_86 rfl ?_
          refine va_get (D := D) (ci := 2) (v := .int ((q 4 k))) (C := RX2) (T := TX2) (N := 8) hx hb hts hinX2 hown hK hP (1 + (5 + k)) (z_apr (n := 1) rfl (z_apl (eW_w (by omega)))) rfl 4 (by decide) hf69 (fun _ h9 => h9) rfl dX3_drive_87 ?_
          refine lv_iload hx hb dX3_drive_90 (lv_at hl 0 rfl) ?_
          refine lv_isub hx hb dX3_drive_92 ?_
          refine va_put (D := D) (ci := 2) (v := .int (((q 4 k) - (x * 2)))) (ty := .int) (C := RX2) (T := TX2) (N := 8) hx hb hts hinX2 tyX2 tyX2_ok nmX2 hown hK hP hD hS (1 + (5 + k)) (z_apr (n := 1) rfl (z_apl (eW_w (by omega)))) rfl 4 (by decide) hf69 (fun _ h9 => h9) rfl (by decide +kernel) rfl rfl (Nat.le_of_ble_eq_true rfl) dX3_drive_93 (fun H locs hP hD hS => ?_)
          have hP : va_P D vwCl (sW X0 E E2 y t o (up2 q 4 k ((q 4 k) - (x * 2))) b c bc n ar fi re T) H := by rw [← sW_putN (by omega) (fun j i h => up2_k _ _ _ _ _ _ h), ← qF_4]; exact hP
          have hD : va_D A (sW X0 E E2 y t o (up2 q 4 k ((q 4 k) - (x * 2))) b c bc n ar fi re T)  := by rw [← sW_putN (by omega) (fun j i h => up2_k _ _ _ _ _ _ h), ← qF_4]; exact hD
          refine lv_aload_n hx hb dX3_drive_96 rfl (lv_at hl 1 rfl) ?_
          refine lv_dup hx hb dX3_drive_97 rfl ?_
          refine va_get (D := D) (ci := 2) (v := .int ((q 1 k))) (C := RX2) (T := TX2) (N := 8) hx hb hts hinX2 hown hK hP (1 + (5 + k)) (z_apr (n := 1) rfl (z_apl (eW_w (by omega)))) rfl 1 (by decide) hf76 (fun _ h9 => h9) rfl dX3_drive_98 ?_
          refine lv_iload_n hx hb dX3_drive_101 rfl (lv_at hl 4 rfl) ?_
          refine lv_iadd hx hb dX3_drive_102 ?_
          refine va_put (D := D) (ci := 2) (v := .int (((q 1 k) + x))) (ty := .int) (C := RX2) (T := TX2) (N := 8) hx hb hts hinX2 tyX2 tyX2_ok nmX2 hown hK hP hD hS (1 + (5 + k)) (z_apr (n := 1) rfl (z_apl (eW_w (by omega)))) rfl 1 (by decide) hf76 (fun _ h9 => h9) rfl (by decide +kernel) rfl rfl (Nat.le_of_ble_eq_true rfl) dX3_drive_103 (fun H locs hP hD hS => ?_)
          have hP : va_P D vwCl (sW X0 E E2 y t o (up2 (up2 q 4 k ((q 4 k) - (x * 2))) 1 k ((q 1 k) + x)) b c bc n ar fi re T) H := by rw [← sW_putN (by omega) (fun j i h => up2_k _ _ _ _ _ _ h), ← qF_1]; exact hP
          have hD : va_D A (sW X0 E E2 y t o (up2 (up2 q 4 k ((q 4 k) - (x * 2))) 1 k ((q 1 k) + x)) b c bc n ar fi re T)  := by rw [← sW_putN (by omega) (fun j i h => up2_k _ _ _ _ _ _ h), ← qF_1]; exact hD
          refine lv_aload_n hx hb dX3_drive_106 rfl (lv_at hl 1 rfl) ?_
          refine va_get (D := D) (ci := 2) (v := .int (((up2 (up2 q 4 k ((q 4 k) - (x * 2))) 1 k ((q 1 k) + x)) 1 k))) (C := RX2) (T := TX2) (N := 8) hx hb hts hinX2 hown hK hP (1 + (5 + k)) (z_apr (n := 1) rfl (z_apl (eW_w (by omega)))) rfl 1 (by decide) hf76 (fun _ h9 => h9) rfl dX3_drive_107 ?_
          refine zt_i (x' := ((q 1 k) + x)) (up2_s _ _ _ _) ?_
          exact zM_i hx hb hr hlocks hS dX3_drive_110 rfl hP
        · exact absurd (Int32.not_lt.mp h2) c4
  · exact absurd (zb_f c1) (by rw [hw]; decide)
set_option maxHeartbeats 4000000 in
set_option maxRecDepth 100000 in
theorem c_X3_drive_T1 (l : Launch) (hl0 : l.stackTraces = false) (D : va_G) (y : Nat → ClassId) (X0 : Nat) (E E2 : Nat → Nat) (t : Nat → Int32) (o : Nat → Nat) (q b : Fld) (c bc n : Nat) (ar fi re : Int32) (T : TS) (x : Int32) (hx0 : x < 0 ∨ nI c ≤ x) (z : Int32) (hc : c ≤ 6) : zT l yX3_drive wsX3_drive { frames := 6, cells := 1, slots := 6, locals := 90 } D y [.ref X0, .int x, .int z] (sW X0 E E2 y t o q b c bc n ar fi re T) "java/lang/IndexOutOfBoundsException" := by
  refine zT.of (cc := cX3_drive) (maxL := 5) (ret := (some .int)) (own := RX3) (by decide) rfl (Nat.le_of_ble_eq_true rfl) rfl ?_
  intro p e s m args below meth cd ls hx hb hr hml hown hts hlocks hP hK hT0 hout hl
  have hl : lv_has ls 5 [(0, .ref X0), (1, .int x), (2, .int z)] := hl
  have hf12 : (Cond.fieldLink RX3 12 "StakeWeirs" "now" "LStakeWeirs$Estuary;").before args s = true := hts _ (by decide +kernel)
  have hinX3 : ∀ w ∈ wsX30, w ∈ wsX3_drive := by decide +kernel
  have hkl47 : (Cond.classLink RX3 47 "java/lang/IndexOutOfBoundsException").before args s = true := hts _ (by decide +kernel)
  have hini47 : (Cond.initialized "java/lang/IndexOutOfBoundsException").before args s = true := hts _ (by decide +kernel)
  refine lv_aload_n hx hb dX3_drive_0 rfl (lv_at hl 0 rfl) ?_
  refine va_get (D := D) (ci := 3) (v := .ref (E 0)) (C := RX3) (T := TX3) (N := 2) hx hb hts hinX3 hown hK hP (0) rfl rfl 0 (by decide) hf12 (fun _ h9 => h9) rfl dX3_drive_1 ?_
  refine lv_iload_n hx hb dX3_drive_4 rfl (lv_at hl 1 rfl) ?_
  refine zcRV (As := [.int x]) (rest := []) (st1 := [.null]) ⟨hx, hb, hml, hown, hts⟩ (c_X1_weirAt_no l D y E t o q b c bc n ar fi re x hx0 (by omega)) (cwV 1 hts gX3_drive_X1_weirAt rfl rfl rfl (by decide +kernel) ⟨Nat.le_of_ble_eq_true rfl, Nat.le_of_ble_eq_true rfl⟩) hK (z_sub_P hP (fun z h => List.mem_append_right _ (List.mem_append_left _ h))) (ci := 1) (q0 := 0) rfl rfl rfl rfl hl.1 rfl (lv_room (Nat.le_of_ble_eq_true rfl)) dX3_drive_5 ⟨Nat.le_of_ble_eq_true rfl, Nat.le_of_ble_eq_true rfl⟩ rfl ?_
  refine lv_astore_nN (lv' := [(3, .null), (0, .ref X0), (1, .int x), (2, .int z)]) hx hb dX3_drive_8 rfl hl (by decide) rfl (fun ls hl => ?_)
  refine lv_aload_nN hx hb dX3_drive_9 rfl (lv_at hl 0 rfl) ?_
  refine lv_ifnonnullN hx hb dX3_drive_10 ?_
  exact z_thr (cls := "java/lang/IndexOutOfBoundsException") (text := "no such weir") (ik := 47) (is := 49) (ic := 51) hx hb hl0 hown (by decide +kernel) hkl47 hini47 hts (fun x h => List.mem_cons_of_mem _ (List.mem_append_left _ (List.mem_append_left _ (List.mem_append_right _ h)))) zbad_51 (zgoodO_51 47) hT0 (by decide) hl.1 hml dX3_drive_13 dX3_drive_16 dX3_drive_17 dX3_drive_19 dX3_drive_22 hout (Nat.le_of_ble_eq_true rfl) (Nat.le_of_ble_eq_true rfl) (Nat.le_of_ble_eq_true rfl) (Nat.le_of_ble_eq_true rfl) hlocks
set_option maxHeartbeats 4000000 in
set_option maxRecDepth 100000 in
theorem c_X3_drive_T2 (l : Launch) (hl0 : l.stackTraces = false) (D : va_G) (y : Nat → ClassId) (X0 : Nat) (E E2 : Nat → Nat) (t : Nat → Int32) (o : Nat → Nat) (q b : Fld) (c bc n : Nat) (ar fi re : Int32) (T : TS) (k : Nat) (hk : k < c) (x : Int32) (hw : inB 1 x 30 = false) (hc : c ≤ 6) : zT l yX3_drive wsX3_drive { frames := 6, cells := 1, slots := 6, locals := 90 } D y [.ref X0, .int (nI k), .int x] (sW X0 E E2 y t o q b c bc n ar fi re T) "java/lang/IllegalArgumentException" := by
  refine zT.of (cc := cX3_drive) (maxL := 5) (ret := (some .int)) (own := RX3) (by decide) rfl (Nat.le_of_ble_eq_true rfl) rfl ?_
  intro p e s m args below meth cd ls hx hb hr hml hown hts hlocks hP hK hT0 hout hl
  have hl : lv_has ls 5 [(0, .ref X0), (1, .int (nI k)), (2, .int x)] := hl
  have hf12 : (Cond.fieldLink RX3 12 "StakeWeirs" "now" "LStakeWeirs$Estuary;").before args s = true := hts _ (by decide +kernel)
  have hinX3 : ∀ w ∈ wsX30, w ∈ wsX3_drive := by decide +kernel
  have hkl23 : (Cond.classLink RX3 23 "java/lang/IllegalArgumentException").before args s = true := hts _ (by decide +kernel)
  have hini23 : (Cond.initialized "java/lang/IllegalArgumentException").before args s = true := hts _ (by decide +kernel)
  refine lv_aload_n hx hb dX3_drive_0 rfl (lv_at hl 0 rfl) ?_
  refine va_get (D := D) (ci := 3) (v := .ref (E 0)) (C := RX3) (T := TX3) (N := 2) hx hb hts hinX3 hown hK hP (0) rfl rfl 0 (by decide) hf12 (fun _ h9 => h9) rfl dX3_drive_1 ?_
  refine lv_iload_n hx hb dX3_drive_4 rfl (lv_at hl 1 rfl) ?_
  refine zcRV (As := [.int (nI k)]) (rest := []) (st1 := [.ref (E (5 + k))]) ⟨hx, hb, hml, hown, hts⟩ (c_X1_weirAt l D y E t o q b c bc n ar fi re k (by omega) (by omega)) (cwV 1 hts gX3_drive_X1_weirAt rfl rfl rfl (by decide +kernel) ⟨Nat.le_of_ble_eq_true rfl, Nat.le_of_ble_eq_true rfl⟩) hK (z_sub_P hP (fun z h => List.mem_append_right _ (List.mem_append_left _ h))) (ci := 1) (q0 := 0) rfl rfl rfl rfl hl.1 rfl (lv_room (Nat.le_of_ble_eq_true rfl)) dX3_drive_5 ⟨Nat.le_of_ble_eq_true rfl, Nat.le_of_ble_eq_true rfl⟩ rfl ?_
  refine lv_astore_n (lv' := [(3, .ref (E (5 + k))), (0, .ref X0), (1, .int (nI k)), (2, .int x)]) hx hb dX3_drive_8 rfl hl (by decide) rfl (fun ls hl => ?_)
  refine lv_aload_n hx hb dX3_drive_9 rfl (lv_at hl 0 rfl) ?_
  refine lv_ifnonnull (tgt := 23) hx hb dX3_drive_10 (by decide) ?_
  refine lv_iload_n hx hb dX3_drive_23 rfl (lv_at hl 3 rfl) ?_
  refine lv_iconst (v := 1) hx hb dX3_drive_24 (by decide) ?_
  refine lv_bipush (v := 30) hx hb dX3_drive_25 (by decide) ?_
  refine zcRS (As := [.int x, .int 1, .int 30]) (rest := []) (st1 := [.int (zb (inB 1 x 30))]) ⟨hx, hb, hml, hown, hts⟩ (c_X3_isWithin l D y x 1 30) (cwS 3 hts gX3_drive_X3_isWithin rfl rfl rfl (by decide +kernel) ⟨Nat.le_of_ble_eq_true rfl, Nat.le_of_ble_eq_true rfl⟩) hK va_P_nil rfl hl.1 rfl (lv_room (Nat.le_of_ble_eq_true rfl)) dX3_drive_27 ⟨Nat.le_of_ble_eq_true rfl, Nat.le_of_ble_eq_true rfl⟩ rfl ?_
  refine lv_if_ne (tgt := 43) hx hb dX3_drive_30 (by decide) (fun c1 => ?_) (fun c1 => ?_)
  · exact absurd (zb_t c1) (by rw [hw]; decide)
  · have c1 := c1
    exact z_thr (cls := "java/lang/IllegalArgumentException") (text := "stakes is not 1 to 30") (ik := 23) (is := 74) (ic := 27) hx hb hl0 hown (by decide +kernel) hkl23 hini23 hts (fun x h => List.mem_cons_of_mem _ (List.mem_append_left _ (List.mem_append_right _ h))) zbad_27 (zgoodO_27 23) hT0 (by decide) hl.1 hml dX3_drive_33 dX3_drive_36 dX3_drive_37 dX3_drive_39 dX3_drive_42 hout (Nat.le_of_ble_eq_true rfl) (Nat.le_of_ble_eq_true rfl) (Nat.le_of_ble_eq_true rfl) (Nat.le_of_ble_eq_true rfl) hlocks
set_option maxHeartbeats 4000000 in
set_option maxRecDepth 100000 in
theorem c_X3_drive_T3 (l : Launch) (hl0 : l.stackTraces = false) (D : va_G) (y : Nat → ClassId) (X0 : Nat) (E E2 : Nat → Nat) (t : Nat → Int32) (o : Nat → Nat) (q b : Fld) (c bc n : Nat) (ar fi re : Int32) (T : TS) (k : Nat) (hk : k < c) (x : Int32) (hw : inB 1 x 30 = true) (hh : heldB q k = false ∨ 30 < q 1 k + x ∨ q 4 k < (x * 2)) (hc : c ≤ 6) : zT l yX3_drive wsX3_drive { frames := 6, cells := 1, slots := 6, locals := 90 } D y [.ref X0, .int (nI k), .int x] (sW X0 E E2 y t o q b c bc n ar fi re T) "java/lang/IllegalStateException" := by
  refine zT.of (cc := cX3_drive) (maxL := 5) (ret := (some .int)) (own := RX3) (by decide) rfl (Nat.le_of_ble_eq_true rfl) rfl ?_
  intro p e s m args below meth cd ls hx hb hr hml hown hts hlocks hP hK hT0 hout hl
  have hl : lv_has ls 5 [(0, .ref X0), (1, .int (nI k)), (2, .int x)] := hl
  have hf12 : (Cond.fieldLink RX3 12 "StakeWeirs" "now" "LStakeWeirs$Estuary;").before args s = true := hts _ (by decide +kernel)
  have hinX3 : ∀ w ∈ wsX30, w ∈ wsX3_drive := by decide +kernel
  have hkl34 : (Cond.classLink RX3 34 "java/lang/IllegalStateException").before args s = true := hts _ (by decide +kernel)
  have hini34 : (Cond.initialized "java/lang/IllegalStateException").before args s = true := hts _ (by decide +kernel)
  have hf76 : (Cond.fieldLink RX3 76 "StakeWeirs$Weir" "stakes" "I").before args s = true := hts _ (by decide +kernel)
  have hinX2 : ∀ w ∈ wsX20, w ∈ wsX3_drive := by decide +kernel
  have hf69 : (Cond.fieldLink RX3 69 "StakeWeirs$Weir" "coins" "I").before args s = true := hts _ (by decide +kernel)
  refine lv_aload_n hx hb dX3_drive_0 rfl (lv_at hl 0 rfl) ?_
  refine va_get (D := D) (ci := 3) (v := .ref (E 0)) (C := RX3) (T := TX3) (N := 2) hx hb hts hinX3 hown hK hP (0) rfl rfl 0 (by decide) hf12 (fun _ h9 => h9) rfl dX3_drive_1 ?_
  refine lv_iload_n hx hb dX3_drive_4 rfl (lv_at hl 1 rfl) ?_
  refine zcRV (As := [.int (nI k)]) (rest := []) (st1 := [.ref (E (5 + k))]) ⟨hx, hb, hml, hown, hts⟩ (c_X1_weirAt l D y E t o q b c bc n ar fi re k (by omega) (by omega)) (cwV 1 hts gX3_drive_X1_weirAt rfl rfl rfl (by decide +kernel) ⟨Nat.le_of_ble_eq_true rfl, Nat.le_of_ble_eq_true rfl⟩) hK (z_sub_P hP (fun z h => List.mem_append_right _ (List.mem_append_left _ h))) (ci := 1) (q0 := 0) rfl rfl rfl rfl hl.1 rfl (lv_room (Nat.le_of_ble_eq_true rfl)) dX3_drive_5 ⟨Nat.le_of_ble_eq_true rfl, Nat.le_of_ble_eq_true rfl⟩ rfl ?_
  refine lv_astore_n (lv' := [(3, .ref (E (5 + k))), (0, .ref X0), (1, .int (nI k)), (2, .int x)]) hx hb dX3_drive_8 rfl hl (by decide) rfl (fun ls hl => ?_)
  refine lv_aload_n hx hb dX3_drive_9 rfl (lv_at hl 0 rfl) ?_
  refine lv_ifnonnull (tgt := 23) hx hb dX3_drive_10 (by decide) ?_
  refine lv_iload_n hx hb dX3_drive_23 rfl (lv_at hl 3 rfl) ?_
  refine lv_iconst (v := 1) hx hb dX3_drive_24 (by decide) ?_
  refine lv_bipush (v := 30) hx hb dX3_drive_25 (by decide) ?_
  refine zcRS (As := [.int x, .int 1, .int 30]) (rest := []) (st1 := [.int (zb (inB 1 x 30))]) ⟨hx, hb, hml, hown, hts⟩ (c_X3_isWithin l D y x 1 30) (cwS 3 hts gX3_drive_X3_isWithin rfl rfl rfl (by decide +kernel) ⟨Nat.le_of_ble_eq_true rfl, Nat.le_of_ble_eq_true rfl⟩) hK va_P_nil rfl hl.1 rfl (lv_room (Nat.le_of_ble_eq_true rfl)) dX3_drive_27 ⟨Nat.le_of_ble_eq_true rfl, Nat.le_of_ble_eq_true rfl⟩ rfl ?_
  refine lv_if_ne (tgt := 43) hx hb dX3_drive_30 (by decide) (fun c1 => ?_) (fun c1 => ?_)
  · have c1 := c1
    refine lv_iload_n hx hb dX3_drive_43 rfl (lv_at hl 3 rfl) ?_
    refine lv_iconst (v := 2) hx hb dX3_drive_44 (by decide) ?_
    refine lv_imul hx hb dX3_drive_45 ?_
    refine lv_istore (lv' := [(4, .int ((x * 2))), (3, .ref (E (5 + k))), (0, .ref X0), (1, .int (nI k)), (2, .int x)]) hx hb dX3_drive_46 hl (by decide) rfl (fun ls hl => ?_)
    refine lv_aload_n hx hb dX3_drive_48 rfl (lv_at hl 1 rfl) ?_
    refine zcRV (As := []) (rest := []) (st1 := [.int (zb (heldB q k))]) ⟨hx, hb, hml, hown, hts⟩ (c_X2_isHeld l D y (E (5 + k)) q k) (cwV 0 hts gX3_drive_X2_isHeld rfl rfl rfl (by decide +kernel) ⟨Nat.le_of_ble_eq_true rfl, Nat.le_of_ble_eq_true rfl⟩) hK (z_sub_P hP (z_in_1 (k := 1 + (5 + k)) (z_apr (n := 1) rfl (z_apl (eW_w (by omega)))))) (ci := 2) (q0 := 0) rfl rfl rfl rfl hl.1 rfl (lv_room (Nat.le_of_ble_eq_true rfl)) dX3_drive_49 ⟨Nat.le_of_ble_eq_true rfl, Nat.le_of_ble_eq_true rfl⟩ rfl ?_
    refine lv_if_eq (tgt := 75) hx hb dX3_drive_52 (by decide) (fun c2 => ?_) (fun c2 => ?_)
    · have c2 : heldB q k = false := zb_f c2
      exact z_thr (cls := "java/lang/IllegalStateException") (text := "forfeit, too many stakes or too few coins") (ik := 34) (is := 79) (ic := 38) hx hb hl0 hown (by decide +kernel) hkl34 hini34 hts (fun x h => List.mem_cons_of_mem _ (List.mem_append_right _ h)) zbad_38 (zgoodO_38 34) hT0 (by decide) hl.1 hml dX3_drive_75 dX3_drive_78 dX3_drive_79 dX3_drive_81 dX3_drive_84 hout (Nat.le_of_ble_eq_true rfl) (Nat.le_of_ble_eq_true rfl) (Nat.le_of_ble_eq_true rfl) (Nat.le_of_ble_eq_true rfl) hlocks
    · have c2 : heldB q k = true := zb_t c2
      refine lv_aload_n hx hb dX3_drive_55 rfl (lv_at hl 1 rfl) ?_
      refine va_get (D := D) (ci := 2) (v := .int ((q 1 k))) (C := RX2) (T := TX2) (N := 8) hx hb hts hinX2 hown hK hP (1 + (5 + k)) (z_apr (n := 1) rfl (z_apl (eW_w (by omega)))) rfl 1 (by decide) hf76 (fun _ h9 => h9) rfl dX3_drive_56 ?_
      refine lv_iload_n hx hb dX3_drive_59 rfl (lv_at hl 4 rfl) ?_
      refine lv_iadd hx hb dX3_drive_60 ?_
      refine lv_bipush (v := 30) hx hb dX3_drive_61 (by decide) ?_
      refine lv_icmp_gt (tgt := 75) hx hb dX3_drive_63 (by decide) (fun c3 => ?_) (fun c3 => ?_)
      · have d3 := Int32.not_le.mpr c3
        exact z_thr (cls := "java/lang/IllegalStateException") (text := "forfeit, too many stakes or too few coins") (ik := 34) (is := 79) (ic := 38) hx hb hl0 hown (by decide +kernel) hkl34 hini34 hts (fun x h => List.mem_cons_of_mem _ (List.mem_append_right _ h)) zbad_38 (zgoodO_38 34) hT0 (by decide) hl.1 hml dX3_drive_75 dX3_drive_78 dX3_drive_79 dX3_drive_81 dX3_drive_84 hout (Nat.le_of_ble_eq_true rfl) (Nat.le_of_ble_eq_true rfl) (Nat.le_of_ble_eq_true rfl) (Nat.le_of_ble_eq_true rfl) hlocks
      · have d3 := Int32.not_lt.mp c3
        refine lv_aload_n hx hb dX3_drive_66 rfl (lv_at hl 1 rfl) ?_
        refine va_get (D := D) (ci := 2) (v := .int ((q 4 k))) (C := RX2) (T := TX2) (N := 8) hx hb hts hinX2 hown hK hP (1 + (5 + k)) (z_apr (n := 1) rfl (z_apl (eW_w (by omega)))) rfl 4 (by decide) hf69 (fun _ h9 => h9) rfl dX3_drive_67 ?_
        refine lv_iload hx hb dX3_drive_70 (lv_at hl 0 rfl) ?_
        refine lv_icmp_ge (tgt := 85) hx hb dX3_drive_72 (by decide) (fun c4 => ?_) (fun c4 => ?_)
        · have d4 := Int32.not_lt.mpr c4
          exact (hh.elim (fun h9 => absurd (h9.symm.trans c2) (by decide)) (fun h9 => h9.elim (fun h9 => by first | exact absurd h9 c3 | exact absurd h9 (Int32.not_lt.mpr c3)) (fun h9 => by first | exact absurd h9 c4 | exact absurd h9 (Int32.not_lt.mpr c4))) : False).elim
        · have d4 := Int32.not_le.mp c4
          exact z_thr (cls := "java/lang/IllegalStateException") (text := "forfeit, too many stakes or too few coins") (ik := 34) (is := 79) (ic := 38) hx hb hl0 hown (by decide +kernel) hkl34 hini34 hts (fun x h => List.mem_cons_of_mem _ (List.mem_append_right _ h)) zbad_38 (zgoodO_38 34) hT0 (by decide) hl.1 hml dX3_drive_75 dX3_drive_78 dX3_drive_79 dX3_drive_81 dX3_drive_84 hout (Nat.le_of_ble_eq_true rfl) (Nat.le_of_ble_eq_true rfl) (Nat.le_of_ble_eq_true rfl) (Nat.le_of_ble_eq_true rfl) hlocks
  · exact absurd (zb_f c1) (by rw [hw]; decide)
set_option maxHeartbeats 4000000 in
set_option maxRecDepth 100000 in
theorem c_X3_sell (l : Launch) (D : va_G) (y : Nat → ClassId) (X0 : Nat) (E E2 : Nat → Nat) (t : Nat → Int32) (o : Nat → Nat) (q b : Fld) (c bc n : Nat) (ar fi re : Int32) (T : TS) (k : Nat) (hk : k < c) (hh : heldB q k = true) (he : ¬ q 5 k = 0) (hc : c ≤ 6) (hn : n < 2147483648) (sz : Nat) : zM l yX3_sell wsX3_sell { frames := 2, cells := 0, slots := 0, locals := 43 } D y [.ref X0, .int (nI k)] (sW X0 E E2 y t o q b c bc n ar fi re T) sz (some (.int (priceI (q 5 k) (moonI n)))) (sW X0 E E2 y t o (up2 (up2 q 5 k 0) 4 k (q 4 k + priceI (q 5 k) (moonI n))) b c bc n ar fi re T) 0 0 := by
  refine zM.ofH (cc := cX3_sell) (maxL := 4) (ret := (some .int)) (own := RX3) (by decide) rfl (Nat.le_of_ble_eq_true rfl) rfl ?_
  intro p e s m args below meth cd ls A H locs hx hb hr hml hown hts hlocks hP hK hD hA hS hl hin
  have hS0 := hS
  have hl : lv_has ls 4 [(0, .ref X0), (1, .int (nI k))] := hl
  have hf12 : (Cond.fieldLink RX3 12 "StakeWeirs" "now" "LStakeWeirs$Estuary;").before args s = true := hts _ (by decide +kernel)
  have hinX3 : ∀ w ∈ wsX30, w ∈ wsX3_sell := by decide +kernel
  have hf81 : (Cond.fieldLink RX3 81 "StakeWeirs$Weir" "eels" "I").before args s = true := hts _ (by decide +kernel)
  have hinX2 : ∀ w ∈ wsX20, w ∈ wsX3_sell := by decide +kernel
  have hf69 : (Cond.fieldLink RX3 69 "StakeWeirs$Weir" "coins" "I").before args s = true := hts _ (by decide +kernel)
  refine lv_aload_n hx hb dX3_sell_0 rfl (lv_at hl 0 rfl) ?_
  refine va_get (D := D) (ci := 3) (v := .ref (E 0)) (C := RX3) (T := TX3) (N := 2) hx hb hts hinX3 hown hK hP (0) rfl rfl 0 (by decide) hf12 (fun _ h9 => h9) rfl dX3_sell_1 ?_
  refine lv_iload_n hx hb dX3_sell_4 rfl (lv_at hl 1 rfl) ?_
  refine zcRV (As := [.int (nI k)]) (rest := []) (st1 := [.ref (E (5 + k))]) ⟨hx, hb, hml, hown, hts⟩ (c_X1_weirAt l D y E t o q b c bc n ar fi re k (by omega) (by omega)) (cwV 1 hts gX3_sell_X1_weirAt rfl rfl rfl (by decide +kernel) ⟨Nat.le_of_ble_eq_true rfl, Nat.le_of_ble_eq_true rfl⟩) hK (z_sub_P hP (fun z h => List.mem_append_right _ (List.mem_append_left _ h))) (ci := 1) (q0 := 0) rfl rfl rfl rfl hl.1 rfl (lv_room (Nat.le_of_ble_eq_true rfl)) dX3_sell_5 ⟨Nat.le_of_ble_eq_true rfl, Nat.le_of_ble_eq_true rfl⟩ rfl ?_
  refine lv_astore_n (lv' := [(2, .ref (E (5 + k))), (0, .ref X0), (1, .int (nI k))]) hx hb dX3_sell_8 rfl hl (by decide) rfl (fun ls hl => ?_)
  refine lv_aload_n hx hb dX3_sell_9 rfl (lv_at hl 0 rfl) ?_
  refine lv_ifnonnull (tgt := 23) hx hb dX3_sell_10 (by decide) ?_
  refine lv_aload_n hx hb dX3_sell_23 rfl (lv_at hl 0 rfl) ?_
  refine zcRV (As := []) (rest := []) (st1 := [.int (zb (heldB q k))]) ⟨hx, hb, hml, hown, hts⟩ (c_X2_isHeld l D y (E (5 + k)) q k) (cwV 0 hts gX3_sell_X2_isHeld rfl rfl rfl (by decide +kernel) ⟨Nat.le_of_ble_eq_true rfl, Nat.le_of_ble_eq_true rfl⟩) hK (z_sub_P hP (z_in_1 (k := 1 + (5 + k)) (z_apr (n := 1) rfl (z_apl (eW_w (by omega)))))) (ci := 2) (q0 := 0) rfl rfl rfl rfl hl.1 rfl (lv_room (Nat.le_of_ble_eq_true rfl)) dX3_sell_24 ⟨Nat.le_of_ble_eq_true rfl, Nat.le_of_ble_eq_true rfl⟩ rfl ?_
  refine lv_if_eq (tgt := 37) hx hb dX3_sell_27 (by decide) (fun c1 => ?_) (fun c1 => ?_)
  · exact absurd (zb_f c1) (by rw [hh]; decide)
  · have c1 := c1
    refine lv_aload_n hx hb dX3_sell_30 rfl (lv_at hl 0 rfl) ?_
    refine va_get (D := D) (ci := 2) (v := .int ((q 5 k))) (C := RX2) (T := TX2) (N := 8) hx hb hts hinX2 hown hK hP (1 + (5 + k)) (z_apr (n := 1) rfl (z_apl (eW_w (by omega)))) rfl 5 (by decide) hf81 (fun _ h9 => h9) rfl dX3_sell_31 ?_
    refine lv_if_ne (tgt := 47) hx hb dX3_sell_34 (by decide) (fun c2 => ?_) (fun c2 => ?_)
    · have d2 := c2
      refine lv_aload_n hx hb dX3_sell_47 rfl (lv_at hl 0 rfl) ?_
      refine va_get (D := D) (ci := 2) (v := .int ((q 5 k))) (C := RX2) (T := TX2) (N := 8) hx hb hts hinX2 hown hK hP (1 + (5 + k)) (z_apr (n := 1) rfl (z_apl (eW_w (by omega)))) rfl 5 (by decide) hf81 (fun _ h9 => h9) rfl dX3_sell_48 ?_
      refine lv_aload_n hx hb dX3_sell_51 rfl (lv_at hl 1 rfl) ?_
      refine va_get (D := D) (ci := 3) (v := .ref (E 0)) (C := RX3) (T := TX3) (N := 2) hx hb hts hinX3 hown hK hP (0) rfl rfl 0 (by decide) hf12 (fun _ h9 => h9) rfl dX3_sell_52 ?_
      refine zcRV (As := []) (rest := [.int ((q 5 k))]) (st1 := [.int ((moonI n)), .int ((q 5 k))]) ⟨hx, hb, hml, hown, hts⟩ (c_X1_moon l D y E t o q b c bc n ar fi re  (by omega)) (cwV 0 hts gX3_sell_X1_moon rfl rfl rfl (by decide +kernel) ⟨Nat.le_of_ble_eq_true rfl, Nat.le_of_ble_eq_true rfl⟩) hK (z_sub_P hP (fun z h => List.mem_append_right _ (List.mem_append_left _ h))) (ci := 1) (q0 := 0) rfl rfl rfl rfl hl.1 rfl (lv_room (Nat.le_of_ble_eq_true rfl)) dX3_sell_55 ⟨Nat.le_of_ble_eq_true rfl, Nat.le_of_ble_eq_true rfl⟩ rfl ?_
      refine zcRS (As := [.int ((q 5 k)), .int ((moonI n))]) (rest := []) (st1 := [.int ((priceI (q 5 k) (moonI n)))]) ⟨hx, hb, hml, hown, hts⟩ (c_X3_priceOfEels l D y (q 5 k) (moonI n)) (cwS 2 hts gX3_sell_X3_priceOfEels rfl rfl rfl (by decide +kernel) ⟨Nat.le_of_ble_eq_true rfl, Nat.le_of_ble_eq_true rfl⟩) hK va_P_nil rfl hl.1 rfl (lv_room (Nat.le_of_ble_eq_true rfl)) dX3_sell_58 ⟨Nat.le_of_ble_eq_true rfl, Nat.le_of_ble_eq_true rfl⟩ rfl ?_
      refine lv_istore_n (lv' := [(3, .int ((priceI (q 5 k) (moonI n)))), (2, .ref (E (5 + k))), (0, .ref X0), (1, .int (nI k))]) hx hb dX3_sell_61 rfl hl (by decide) rfl (fun ls hl => ?_)
      refine lv_aload_n hx hb dX3_sell_62 rfl (lv_at hl 1 rfl) ?_
      refine lv_iconst (v := 0) hx hb dX3_sell_63 (by decide) ?_
      refine va_put (D := D) (ci := 2) (v := .int 0) (ty := .int) (C := RX2) (T := TX2) (N := 8) hx hb hts hinX2 tyX2 tyX2_ok nmX2 hown hK hP hD hS (1 + (5 + k)) (z_apr (n := 1) rfl (z_apl (eW_w (by omega)))) rfl 5 (by decide) hf81 (fun _ h9 => h9) rfl (by decide +kernel) rfl rfl (Nat.le_of_ble_eq_true rfl) dX3_sell_64 (fun H locs hP hD hS => ?_)
      have hP : va_P D vwCl (sW X0 E E2 y t o (up2 q 5 k 0) b c bc n ar fi re T) H := by rw [← sW_putN (by omega) (fun j i h => up2_k _ _ _ _ _ _ h), ← qF_5]; exact hP
      have hD : va_D A (sW X0 E E2 y t o (up2 q 5 k 0) b c bc n ar fi re T)  := by rw [← sW_putN (by omega) (fun j i h => up2_k _ _ _ _ _ _ h), ← qF_5]; exact hD
      refine lv_aload_n hx hb dX3_sell_67 rfl (lv_at hl 1 rfl) ?_
      refine lv_dup hx hb dX3_sell_68 rfl ?_
      refine va_get (D := D) (ci := 2) (v := .int ((q 4 k))) (C := RX2) (T := TX2) (N := 8) hx hb hts hinX2 hown hK hP (1 + (5 + k)) (z_apr (n := 1) rfl (z_apl (eW_w (by omega)))) rfl 4 (by decide) hf69 (fun _ h9 => h9) rfl dX3_sell_69 ?_
      refine lv_iload_n hx hb dX3_sell_72 rfl (lv_at hl 0 rfl) ?_
      refine lv_iadd hx hb dX3_sell_73 ?_
      refine va_put (D := D) (ci := 2) (v := .int (((q 4 k) + (priceI (q 5 k) (moonI n))))) (ty := .int) (C := RX2) (T := TX2) (N := 8) hx hb hts hinX2 tyX2 tyX2_ok nmX2 hown hK hP hD hS (1 + (5 + k)) (z_apr (n := 1) rfl (z_apl (eW_w (by omega)))) rfl 4 (by decide) hf69 (fun _ h9 => h9) rfl (by decide +kernel) rfl rfl (Nat.le_of_ble_eq_true rfl) dX3_sell_74 (fun H locs hP hD hS => ?_)
      have hP : va_P D vwCl (sW X0 E E2 y t o (up2 (up2 q 5 k 0) 4 k ((q 4 k) + (priceI (q 5 k) (moonI n)))) b c bc n ar fi re T) H := by rw [← sW_putN (by omega) (fun j i h => up2_k _ _ _ _ _ _ h), ← qF_4]; exact hP
      have hD : va_D A (sW X0 E E2 y t o (up2 (up2 q 5 k 0) 4 k ((q 4 k) + (priceI (q 5 k) (moonI n)))) b c bc n ar fi re T)  := by rw [← sW_putN (by omega) (fun j i h => up2_k _ _ _ _ _ _ h), ← qF_4]; exact hD
      refine lv_iload_n hx hb dX3_sell_77 rfl (lv_at hl 0 rfl) ?_
      exact zM_i hx hb hr hlocks hS dX3_sell_78 rfl hP
    · exact absurd c2 he
set_option maxHeartbeats 4000000 in
set_option maxRecDepth 100000 in
theorem c_X3_sell_T1 (l : Launch) (hl0 : l.stackTraces = false) (D : va_G) (y : Nat → ClassId) (X0 : Nat) (E E2 : Nat → Nat) (t : Nat → Int32) (o : Nat → Nat) (q b : Fld) (c bc n : Nat) (ar fi re : Int32) (T : TS) (x : Int32) (hx0 : x < 0 ∨ nI c ≤ x) (hc : c ≤ 6) : zT l yX3_sell wsX3_sell { frames := 6, cells := 1, slots := 6, locals := 90 } D y [.ref X0, .int x] (sW X0 E E2 y t o q b c bc n ar fi re T) "java/lang/IndexOutOfBoundsException" := by
  refine zT.of (cc := cX3_sell) (maxL := 4) (ret := (some .int)) (own := RX3) (by decide) rfl (Nat.le_of_ble_eq_true rfl) rfl ?_
  intro p e s m args below meth cd ls hx hb hr hml hown hts hlocks hP hK hT0 hout hl
  have hl : lv_has ls 4 [(0, .ref X0), (1, .int x)] := hl
  have hf12 : (Cond.fieldLink RX3 12 "StakeWeirs" "now" "LStakeWeirs$Estuary;").before args s = true := hts _ (by decide +kernel)
  have hinX3 : ∀ w ∈ wsX30, w ∈ wsX3_sell := by decide +kernel
  have hkl47 : (Cond.classLink RX3 47 "java/lang/IndexOutOfBoundsException").before args s = true := hts _ (by decide +kernel)
  have hini47 : (Cond.initialized "java/lang/IndexOutOfBoundsException").before args s = true := hts _ (by decide +kernel)
  refine lv_aload_n hx hb dX3_sell_0 rfl (lv_at hl 0 rfl) ?_
  refine va_get (D := D) (ci := 3) (v := .ref (E 0)) (C := RX3) (T := TX3) (N := 2) hx hb hts hinX3 hown hK hP (0) rfl rfl 0 (by decide) hf12 (fun _ h9 => h9) rfl dX3_sell_1 ?_
  refine lv_iload_n hx hb dX3_sell_4 rfl (lv_at hl 1 rfl) ?_
  refine zcRV (As := [.int x]) (rest := []) (st1 := [.null]) ⟨hx, hb, hml, hown, hts⟩ (c_X1_weirAt_no l D y E t o q b c bc n ar fi re x hx0 (by omega)) (cwV 1 hts gX3_sell_X1_weirAt rfl rfl rfl (by decide +kernel) ⟨Nat.le_of_ble_eq_true rfl, Nat.le_of_ble_eq_true rfl⟩) hK (z_sub_P hP (fun z h => List.mem_append_right _ (List.mem_append_left _ h))) (ci := 1) (q0 := 0) rfl rfl rfl rfl hl.1 rfl (lv_room (Nat.le_of_ble_eq_true rfl)) dX3_sell_5 ⟨Nat.le_of_ble_eq_true rfl, Nat.le_of_ble_eq_true rfl⟩ rfl ?_
  refine lv_astore_nN (lv' := [(2, .null), (0, .ref X0), (1, .int x)]) hx hb dX3_sell_8 rfl hl (by decide) rfl (fun ls hl => ?_)
  refine lv_aload_nN hx hb dX3_sell_9 rfl (lv_at hl 0 rfl) ?_
  refine lv_ifnonnullN hx hb dX3_sell_10 ?_
  exact z_thr (cls := "java/lang/IndexOutOfBoundsException") (text := "no such weir") (ik := 47) (is := 49) (ic := 51) hx hb hl0 hown (by decide +kernel) hkl47 hini47 hts (fun x h => List.mem_cons_of_mem _ (List.mem_append_left _ (List.mem_append_right _ h))) zbad_51 (zgoodO_51 47) hT0 (by decide) hl.1 hml dX3_sell_13 dX3_sell_16 dX3_sell_17 dX3_sell_19 dX3_sell_22 hout (Nat.le_of_ble_eq_true rfl) (Nat.le_of_ble_eq_true rfl) (Nat.le_of_ble_eq_true rfl) (Nat.le_of_ble_eq_true rfl) hlocks
set_option maxHeartbeats 4000000 in
set_option maxRecDepth 100000 in
theorem c_X3_sell_T2 (l : Launch) (hl0 : l.stackTraces = false) (D : va_G) (y : Nat → ClassId) (X0 : Nat) (E E2 : Nat → Nat) (t : Nat → Int32) (o : Nat → Nat) (q b : Fld) (c bc n : Nat) (ar fi re : Int32) (T : TS) (k : Nat) (hk : k < c) (hh : heldB q k = false ∨ q 5 k = 0) (hc : c ≤ 6) : zT l yX3_sell wsX3_sell { frames := 6, cells := 1, slots := 6, locals := 90 } D y [.ref X0, .int (nI k)] (sW X0 E E2 y t o q b c bc n ar fi re T) "java/lang/IllegalStateException" := by
  refine zT.of (cc := cX3_sell) (maxL := 4) (ret := (some .int)) (own := RX3) (by decide) rfl (Nat.le_of_ble_eq_true rfl) rfl ?_
  intro p e s m args below meth cd ls hx hb hr hml hown hts hlocks hP hK hT0 hout hl
  have hl : lv_has ls 4 [(0, .ref X0), (1, .int (nI k))] := hl
  have hf12 : (Cond.fieldLink RX3 12 "StakeWeirs" "now" "LStakeWeirs$Estuary;").before args s = true := hts _ (by decide +kernel)
  have hinX3 : ∀ w ∈ wsX30, w ∈ wsX3_sell := by decide +kernel
  have hkl34 : (Cond.classLink RX3 34 "java/lang/IllegalStateException").before args s = true := hts _ (by decide +kernel)
  have hini34 : (Cond.initialized "java/lang/IllegalStateException").before args s = true := hts _ (by decide +kernel)
  have hf81 : (Cond.fieldLink RX3 81 "StakeWeirs$Weir" "eels" "I").before args s = true := hts _ (by decide +kernel)
  have hinX2 : ∀ w ∈ wsX20, w ∈ wsX3_sell := by decide +kernel
  refine lv_aload_n hx hb dX3_sell_0 rfl (lv_at hl 0 rfl) ?_
  refine va_get (D := D) (ci := 3) (v := .ref (E 0)) (C := RX3) (T := TX3) (N := 2) hx hb hts hinX3 hown hK hP (0) rfl rfl 0 (by decide) hf12 (fun _ h9 => h9) rfl dX3_sell_1 ?_
  refine lv_iload_n hx hb dX3_sell_4 rfl (lv_at hl 1 rfl) ?_
  refine zcRV (As := [.int (nI k)]) (rest := []) (st1 := [.ref (E (5 + k))]) ⟨hx, hb, hml, hown, hts⟩ (c_X1_weirAt l D y E t o q b c bc n ar fi re k (by omega) (by omega)) (cwV 1 hts gX3_sell_X1_weirAt rfl rfl rfl (by decide +kernel) ⟨Nat.le_of_ble_eq_true rfl, Nat.le_of_ble_eq_true rfl⟩) hK (z_sub_P hP (fun z h => List.mem_append_right _ (List.mem_append_left _ h))) (ci := 1) (q0 := 0) rfl rfl rfl rfl hl.1 rfl (lv_room (Nat.le_of_ble_eq_true rfl)) dX3_sell_5 ⟨Nat.le_of_ble_eq_true rfl, Nat.le_of_ble_eq_true rfl⟩ rfl ?_
  refine lv_astore_n (lv' := [(2, .ref (E (5 + k))), (0, .ref X0), (1, .int (nI k))]) hx hb dX3_sell_8 rfl hl (by decide) rfl (fun ls hl => ?_)
  refine lv_aload_n hx hb dX3_sell_9 rfl (lv_at hl 0 rfl) ?_
  refine lv_ifnonnull (tgt := 23) hx hb dX3_sell_10 (by decide) ?_
  refine lv_aload_n hx hb dX3_sell_23 rfl (lv_at hl 0 rfl) ?_
  refine zcRV (As := []) (rest := []) (st1 := [.int (zb (heldB q k))]) ⟨hx, hb, hml, hown, hts⟩ (c_X2_isHeld l D y (E (5 + k)) q k) (cwV 0 hts gX3_sell_X2_isHeld rfl rfl rfl (by decide +kernel) ⟨Nat.le_of_ble_eq_true rfl, Nat.le_of_ble_eq_true rfl⟩) hK (z_sub_P hP (z_in_1 (k := 1 + (5 + k)) (z_apr (n := 1) rfl (z_apl (eW_w (by omega)))))) (ci := 2) (q0 := 0) rfl rfl rfl rfl hl.1 rfl (lv_room (Nat.le_of_ble_eq_true rfl)) dX3_sell_24 ⟨Nat.le_of_ble_eq_true rfl, Nat.le_of_ble_eq_true rfl⟩ rfl ?_
  refine lv_if_eq (tgt := 37) hx hb dX3_sell_27 (by decide) (fun c1 => ?_) (fun c1 => ?_)
  · have c1 : heldB q k = false := zb_f c1
    exact z_thr (cls := "java/lang/IllegalStateException") (text := "the weir is forfeit or has no eels") (ik := 34) (is := 84) (ic := 38) hx hb hl0 hown (by decide +kernel) hkl34 hini34 hts (fun x h => List.mem_cons_of_mem _ (List.mem_append_right _ h)) zbad_38 (zgoodO_38 34) hT0 (by decide) hl.1 hml dX3_sell_37 dX3_sell_40 dX3_sell_41 dX3_sell_43 dX3_sell_46 hout (Nat.le_of_ble_eq_true rfl) (Nat.le_of_ble_eq_true rfl) (Nat.le_of_ble_eq_true rfl) (Nat.le_of_ble_eq_true rfl) hlocks
  · have c1 : heldB q k = true := zb_t c1
    refine lv_aload_n hx hb dX3_sell_30 rfl (lv_at hl 0 rfl) ?_
    refine va_get (D := D) (ci := 2) (v := .int ((q 5 k))) (C := RX2) (T := TX2) (N := 8) hx hb hts hinX2 hown hK hP (1 + (5 + k)) (z_apr (n := 1) rfl (z_apl (eW_w (by omega)))) rfl 5 (by decide) hf81 (fun _ h9 => h9) rfl dX3_sell_31 ?_
    refine lv_if_ne (tgt := 47) hx hb dX3_sell_34 (by decide) (fun c2 => ?_) (fun c2 => ?_)
    · have d2 := c2
      exact (hh.elim (fun h9 => absurd (h9.symm.trans c1) (by decide)) (fun h9 => absurd h9 c2) : False).elim
    · have d2 := c2
      exact z_thr (cls := "java/lang/IllegalStateException") (text := "the weir is forfeit or has no eels") (ik := 34) (is := 84) (ic := 38) hx hb hl0 hown (by decide +kernel) hkl34 hini34 hts (fun x h => List.mem_cons_of_mem _ (List.mem_append_right _ h)) zbad_38 (zgoodO_38 34) hT0 (by decide) hl.1 hml dX3_sell_37 dX3_sell_40 dX3_sell_41 dX3_sell_43 dX3_sell_46 hout (Nat.le_of_ble_eq_true rfl) (Nat.le_of_ble_eq_true rfl) (Nat.le_of_ble_eq_true rfl) (Nat.le_of_ble_eq_true rfl) hlocks
set_option maxHeartbeats 4000000 in
set_option maxRecDepth 100000 in
theorem c_X3_setRun (l : Launch) (D : va_G) (y : Nat → ClassId) (X0 : Nat) (E E2 : Nat → Nat) (t : Nat → Int32) (o : Nat → Nat) (q b : Fld) (c bc n : Nat) (ar fi re : Int32) (T : TS) (k : Nat) (x : Int32) (hk : k < 7) (hi : inB 0 (nI k) 6 = true) (hw : inB 0 x 99 = true) (sz : Nat) : zM l yX3_setRun wsX3_setRun { frames := 1, cells := 0, slots := 0, locals := 22 } D y [.ref X0, .int (nI k), .int x] (sW X0 E E2 y t o q b c bc n ar fi re T) sz (some (.int (t k))) (sW X0 E E2 y (upd t k x) o q b c bc n ar fi re T) 0 0 := by
  refine zM.ofH (cc := cX3_setRun) (maxL := 4) (ret := (some .int)) (own := RX3) (by decide) rfl (Nat.le_of_ble_eq_true rfl) rfl ?_
  intro p e s m args below meth cd ls A H locs hx hb hr hml hown hts hlocks hP hK hD hA hS hl hin
  have hS0 := hS
  have hl : lv_has ls 4 [(0, .ref X0), (1, .int (nI k)), (2, .int x)] := hl
  have hf12 : (Cond.fieldLink RX3 12 "StakeWeirs" "now" "LStakeWeirs$Estuary;").before args s = true := hts _ (by decide +kernel)
  have hinX3 : ∀ w ∈ wsX30, w ∈ wsX3_setRun := by decide +kernel
  refine lv_iload_n hx hb dX3_setRun_0 rfl (lv_at hl 1 rfl) ?_
  refine lv_iconst (v := 0) hx hb dX3_setRun_1 (by decide) ?_
  refine lv_bipush (v := 6) hx hb dX3_setRun_2 (by decide) ?_
  refine zcRS (As := [.int (nI k), .int 0, .int 6]) (rest := []) (st1 := [.int (zb (inB 0 (nI k) 6))]) ⟨hx, hb, hml, hown, hts⟩ (c_X3_isWithin l D y (nI k) 0 6) (cwS 3 hts gX3_setRun_X3_isWithin rfl rfl rfl (by decide +kernel) ⟨Nat.le_of_ble_eq_true rfl, Nat.le_of_ble_eq_true rfl⟩) hK va_P_nil rfl hl.1 rfl (lv_room (Nat.le_of_ble_eq_true rfl)) dX3_setRun_4 ⟨Nat.le_of_ble_eq_true rfl, Nat.le_of_ble_eq_true rfl⟩ rfl ?_
  refine lv_if_ne (tgt := 20) hx hb dX3_setRun_7 (by decide) (fun c1 => ?_) (fun c1 => ?_)
  · have c1 := c1
    refine lv_iload_n hx hb dX3_setRun_20 rfl (lv_at hl 2 rfl) ?_
    refine lv_iconst (v := 0) hx hb dX3_setRun_21 (by decide) ?_
    refine lv_bipush (v := 99) hx hb dX3_setRun_22 (by decide) ?_
    refine zcRS (As := [.int x, .int 0, .int 99]) (rest := []) (st1 := [.int (zb (inB 0 x 99))]) ⟨hx, hb, hml, hown, hts⟩ (c_X3_isWithin l D y x 0 99) (cwS 3 hts gX3_setRun_X3_isWithin rfl rfl rfl (by decide +kernel) ⟨Nat.le_of_ble_eq_true rfl, Nat.le_of_ble_eq_true rfl⟩) hK va_P_nil rfl hl.1 rfl (lv_room (Nat.le_of_ble_eq_true rfl)) dX3_setRun_24 ⟨Nat.le_of_ble_eq_true rfl, Nat.le_of_ble_eq_true rfl⟩ rfl ?_
    refine lv_if_ne (tgt := 40) hx hb dX3_setRun_27 (by decide) (fun c2 => ?_) (fun c2 => ?_)
    · have c2 := c2
      refine lv_aload_n hx hb dX3_setRun_40 rfl (lv_at hl 0 rfl) ?_
      refine va_get (D := D) (ci := 3) (v := .ref (E 0)) (C := RX3) (T := TX3) (N := 2) hx hb hts hinX3 hown hK hP (0) rfl rfl 0 (by decide) hf12 (fun _ h9 => h9) rfl dX3_setRun_41 ?_
      refine lv_iload_n hx hb dX3_setRun_44 rfl (lv_at hl 1 rfl) ?_
      refine zcRV (As := [.int (nI k)]) (rest := []) (st1 := [.int ((t k))]) ⟨hx, hb, hml, hown, hts⟩ (c_X1_tableEels l D y E t o q b c bc n ar fi re k (by omega)) (cwV 1 hts gX3_setRun_X1_tableEels rfl rfl rfl (by decide +kernel) ⟨Nat.le_of_ble_eq_true rfl, Nat.le_of_ble_eq_true rfl⟩) hK (z_sub_P hP (fun z h => List.mem_append_right _ (List.mem_append_left _ h))) (ci := 1) (q0 := 0) rfl rfl rfl rfl hl.1 rfl (lv_room (Nat.le_of_ble_eq_true rfl)) dX3_setRun_45 ⟨Nat.le_of_ble_eq_true rfl, Nat.le_of_ble_eq_true rfl⟩ rfl ?_
      refine lv_istore_n (lv' := [(3, .int ((t k))), (0, .ref X0), (1, .int (nI k)), (2, .int x)]) hx hb dX3_setRun_48 rfl hl (by decide) rfl (fun ls hl => ?_)
      refine lv_aload_n hx hb dX3_setRun_49 rfl (lv_at hl 1 rfl) ?_
      refine va_get (D := D) (ci := 3) (v := .ref (E 0)) (C := RX3) (T := TX3) (N := 2) hx hb hts hinX3 hown hK hP (0) rfl rfl 0 (by decide) hf12 (fun _ h9 => h9) rfl dX3_setRun_50 ?_
      refine lv_iload_n hx hb dX3_setRun_53 rfl (lv_at hl 2 rfl) ?_
      refine lv_iload_n hx hb dX3_setRun_54 rfl (lv_at hl 3 rfl) ?_
      refine zcMV (As := [.int (nI k), .int x]) (rest := []) (st1 := []) (cells1 := 0) (slots1 := 0) ⟨hx, hb, hml, hown, hts⟩ (c_X1_setTableEels l D y E t o q b c bc n ar fi re k x (by omega) _) (cwV 2 hts gX3_setRun_X1_setTableEels rfl rfl rfl (by decide +kernel) ⟨Nat.le_of_ble_eq_true rfl, Nat.le_of_ble_eq_true rfl⟩) hK (z_sub_P hP (fun z h => List.mem_append_right _ (List.mem_append_left _ h))) (z_D_m (l1 := [(X0, .inr (3, [.ref (E 0), .ref (E2 0)]))]) hD) (ci := 1) (q0 := 0) rfl rfl rfl rfl hl.1 rfl (lv_room (Nat.le_of_ble_eq_true rfl)) dX3_setRun_55 hS (z_sub_F hD hS hA (fun z h => List.mem_append_right _ (List.mem_append_left _ h))) ⟨Nat.le_of_ble_eq_true rfl, Nat.le_of_ble_eq_true rfl⟩ rfl rfl rfl (fun H locs hP1 hz hfr hS => ?_)
      obtain ⟨hP, hD⟩ := z_seg (ws1 := sW X0 E E2 y (upd t k x) o q b c bc n ar fi re T) (l1 := [(X0, .inr (3, [.ref (E 0), .ref (E2 0)]))]) (w := eW E y t o q b c bc n ar fi re) (w1 := eW E y (upd t k x) o q b c bc n ar fi re) hP hD rfl rfl rfl hP1 hfr
      refine lv_iload_n hx hb dX3_setRun_58 rfl (lv_at hl 0 rfl) ?_
      exact zM_i hx hb hr hlocks hS dX3_setRun_59 rfl hP
    · exact absurd (zb_f c2) (by rw [hw]; decide)
  · exact absurd (zb_f c1) (by rw [hi]; decide)
set_option maxHeartbeats 4000000 in
set_option maxRecDepth 100000 in
theorem c_X3_setRun_T1 (l : Launch) (hl0 : l.stackTraces = false) (D : va_G) (y : Nat → ClassId) (X0 : Nat) (E E2 : Nat → Nat) (t : Nat → Int32) (o : Nat → Nat) (q b : Fld) (c bc n : Nat) (ar fi re : Int32) (T : TS) (x z : Int32) (hw : inB 0 x 6 = false) : zT l yX3_setRun wsX3_setRun { frames := 6, cells := 1, slots := 6, locals := 90 } D y [.ref X0, .int x, .int z] (sW X0 E E2 y t o q b c bc n ar fi re T) "java/lang/IndexOutOfBoundsException" := by
  refine zT.of (cc := cX3_setRun) (maxL := 4) (ret := (some .int)) (own := RX3) (by decide) rfl (Nat.le_of_ble_eq_true rfl) rfl ?_
  intro p e s m args below meth cd ls hx hb hr hml hown hts hlocks hP hK hT0 hout hl
  have hl : lv_has ls 4 [(0, .ref X0), (1, .int x), (2, .int z)] := hl
  have hkl47 : (Cond.classLink RX3 47 "java/lang/IndexOutOfBoundsException").before args s = true := hts _ (by decide +kernel)
  have hini47 : (Cond.initialized "java/lang/IndexOutOfBoundsException").before args s = true := hts _ (by decide +kernel)
  refine lv_iload_n hx hb dX3_setRun_0 rfl (lv_at hl 1 rfl) ?_
  refine lv_iconst (v := 0) hx hb dX3_setRun_1 (by decide) ?_
  refine lv_bipush (v := 6) hx hb dX3_setRun_2 (by decide) ?_
  refine zcRS (As := [.int x, .int 0, .int 6]) (rest := []) (st1 := [.int (zb (inB 0 x 6))]) ⟨hx, hb, hml, hown, hts⟩ (c_X3_isWithin l D y x 0 6) (cwS 3 hts gX3_setRun_X3_isWithin rfl rfl rfl (by decide +kernel) ⟨Nat.le_of_ble_eq_true rfl, Nat.le_of_ble_eq_true rfl⟩) hK va_P_nil rfl hl.1 rfl (lv_room (Nat.le_of_ble_eq_true rfl)) dX3_setRun_4 ⟨Nat.le_of_ble_eq_true rfl, Nat.le_of_ble_eq_true rfl⟩ rfl ?_
  refine lv_if_ne (tgt := 20) hx hb dX3_setRun_7 (by decide) (fun c1 => ?_) (fun c1 => ?_)
  · exact absurd (zb_t c1) (by rw [hw]; decide)
  · have c1 := c1
    exact z_thr (cls := "java/lang/IndexOutOfBoundsException") (text := "night is not 0 to 6") (ik := 47) (is := 94) (ic := 51) hx hb hl0 hown (by decide +kernel) hkl47 hini47 hts (fun x h => List.mem_cons_of_mem _ (List.mem_append_left _ (List.mem_append_right _ h))) zbad_51 (zgoodO_51 47) hT0 (by decide) hl.1 hml dX3_setRun_10 dX3_setRun_13 dX3_setRun_14 dX3_setRun_16 dX3_setRun_19 hout (Nat.le_of_ble_eq_true rfl) (Nat.le_of_ble_eq_true rfl) (Nat.le_of_ble_eq_true rfl) (Nat.le_of_ble_eq_true rfl) hlocks
set_option maxHeartbeats 4000000 in
set_option maxRecDepth 100000 in
theorem c_X3_setRun_T2 (l : Launch) (hl0 : l.stackTraces = false) (D : va_G) (y : Nat → ClassId) (X0 : Nat) (E E2 : Nat → Nat) (t : Nat → Int32) (o : Nat → Nat) (q b : Fld) (c bc n : Nat) (ar fi re : Int32) (T : TS) (x z : Int32) (hi : inB 0 x 6 = true) (hw : inB 0 z 99 = false) : zT l yX3_setRun wsX3_setRun { frames := 6, cells := 1, slots := 6, locals := 90 } D y [.ref X0, .int x, .int z] (sW X0 E E2 y t o q b c bc n ar fi re T) "java/lang/IllegalArgumentException" := by
  refine zT.of (cc := cX3_setRun) (maxL := 4) (ret := (some .int)) (own := RX3) (by decide) rfl (Nat.le_of_ble_eq_true rfl) rfl ?_
  intro p e s m args below meth cd ls hx hb hr hml hown hts hlocks hP hK hT0 hout hl
  have hl : lv_has ls 4 [(0, .ref X0), (1, .int x), (2, .int z)] := hl
  have hkl23 : (Cond.classLink RX3 23 "java/lang/IllegalArgumentException").before args s = true := hts _ (by decide +kernel)
  have hini23 : (Cond.initialized "java/lang/IllegalArgumentException").before args s = true := hts _ (by decide +kernel)
  refine lv_iload_n hx hb dX3_setRun_0 rfl (lv_at hl 1 rfl) ?_
  refine lv_iconst (v := 0) hx hb dX3_setRun_1 (by decide) ?_
  refine lv_bipush (v := 6) hx hb dX3_setRun_2 (by decide) ?_
  refine zcRS (As := [.int x, .int 0, .int 6]) (rest := []) (st1 := [.int (zb (inB 0 x 6))]) ⟨hx, hb, hml, hown, hts⟩ (c_X3_isWithin l D y x 0 6) (cwS 3 hts gX3_setRun_X3_isWithin rfl rfl rfl (by decide +kernel) ⟨Nat.le_of_ble_eq_true rfl, Nat.le_of_ble_eq_true rfl⟩) hK va_P_nil rfl hl.1 rfl (lv_room (Nat.le_of_ble_eq_true rfl)) dX3_setRun_4 ⟨Nat.le_of_ble_eq_true rfl, Nat.le_of_ble_eq_true rfl⟩ rfl ?_
  refine lv_if_ne (tgt := 20) hx hb dX3_setRun_7 (by decide) (fun c1 => ?_) (fun c1 => ?_)
  · have c1 := c1
    refine lv_iload_n hx hb dX3_setRun_20 rfl (lv_at hl 2 rfl) ?_
    refine lv_iconst (v := 0) hx hb dX3_setRun_21 (by decide) ?_
    refine lv_bipush (v := 99) hx hb dX3_setRun_22 (by decide) ?_
    refine zcRS (As := [.int z, .int 0, .int 99]) (rest := []) (st1 := [.int (zb (inB 0 z 99))]) ⟨hx, hb, hml, hown, hts⟩ (c_X3_isWithin l D y z 0 99) (cwS 3 hts gX3_setRun_X3_isWithin rfl rfl rfl (by decide +kernel) ⟨Nat.le_of_ble_eq_true rfl, Nat.le_of_ble_eq_true rfl⟩) hK va_P_nil rfl hl.1 rfl (lv_room (Nat.le_of_ble_eq_true rfl)) dX3_setRun_24 ⟨Nat.le_of_ble_eq_true rfl, Nat.le_of_ble_eq_true rfl⟩ rfl ?_
    refine lv_if_ne (tgt := 40) hx hb dX3_setRun_27 (by decide) (fun c2 => ?_) (fun c2 => ?_)
    · exact absurd (zb_t c2) (by rw [hw]; decide)
    · have c2 := c2
      exact z_thr (cls := "java/lang/IllegalArgumentException") (text := "eels is not 0 to 99") (ik := 23) (is := 96) (ic := 27) hx hb hl0 hown (by decide +kernel) hkl23 hini23 hts (fun x h => List.mem_cons_of_mem _ (List.mem_append_right _ h)) zbad_27 (zgoodO_27 23) hT0 (by decide) hl.1 hml dX3_setRun_30 dX3_setRun_33 dX3_setRun_34 dX3_setRun_36 dX3_setRun_39 hout (Nat.le_of_ble_eq_true rfl) (Nat.le_of_ble_eq_true rfl) (Nat.le_of_ble_eq_true rfl) (Nat.le_of_ble_eq_true rfl) hlocks
  · exact absurd (zb_f c1) (by rw [hi]; decide)
set_option maxHeartbeats 4000000 in
set_option maxRecDepth 100000 in
theorem c_X3_barge (l : Launch) (D : va_G) (y : Nat → ClassId) (X0 : Nat) (E E2 : Nat → Nat) (t : Nat → Int32) (o : Nat → Nat) (q b : Fld) (c bc n : Nat) (ar fi re : Int32) (T : TS) (x : Int32) (hw : inB 1 x 20 = true) (hbc : bc < 5) (sz : Nat) : zM l yX3_barge wsX3_barge { frames := 2, cells := 0, slots := 0, locals := 45 } D y [.ref X0, .int x] (sW X0 E E2 y t o q b c bc n ar fi re T) sz (some (.int (nI bc))) (sW X0 E E2 y t o q (newB b bc (ar + nI bc) x) c (bc + 1) n ar fi re T) 0 0 := by
  refine zM.ofH (cc := cX3_barge) (maxL := 2) (ret := (some .int)) (own := RX3) (by decide) rfl (Nat.le_of_ble_eq_true rfl) rfl ?_
  intro p e s m args below meth cd ls A H locs hx hb hr hml hown hts hlocks hP hK hD hA hS hl hin
  have hS0 := hS
  have hl : lv_has ls 2 [(0, .ref X0), (1, .int x)] := hl
  have hf12 : (Cond.fieldLink RX3 12 "StakeWeirs" "now" "LStakeWeirs$Estuary;").before args s = true := hts _ (by decide +kernel)
  have hinX3 : ∀ w ∈ wsX30, w ∈ wsX3_barge := by decide +kernel
  have hf108 : (Cond.fieldLink RX3 108 "StakeWeirs$Estuary" "bargeCount" "I").before args s = true := hts _ (by decide +kernel)
  have hinX1 : ∀ w ∈ wsX10, w ∈ wsX3_barge := by decide +kernel
  refine lv_iload_n hx hb dX3_barge_0 rfl (lv_at hl 1 rfl) ?_
  refine lv_iconst (v := 1) hx hb dX3_barge_1 (by decide) ?_
  refine lv_bipush (v := 20) hx hb dX3_barge_2 (by decide) ?_
  refine zcRS (As := [.int x, .int 1, .int 20]) (rest := []) (st1 := [.int (zb (inB 1 x 20))]) ⟨hx, hb, hml, hown, hts⟩ (c_X3_isWithin l D y x 1 20) (cwS 3 hts gX3_barge_X3_isWithin rfl rfl rfl (by decide +kernel) ⟨Nat.le_of_ble_eq_true rfl, Nat.le_of_ble_eq_true rfl⟩) hK va_P_nil rfl hl.1 rfl (lv_room (Nat.le_of_ble_eq_true rfl)) dX3_barge_4 ⟨Nat.le_of_ble_eq_true rfl, Nat.le_of_ble_eq_true rfl⟩ rfl ?_
  refine lv_if_ne (tgt := 20) hx hb dX3_barge_7 (by decide) (fun c1 => ?_) (fun c1 => ?_)
  · have c1 := c1
    refine lv_aload_n hx hb dX3_barge_20 rfl (lv_at hl 0 rfl) ?_
    refine va_get (D := D) (ci := 3) (v := .ref (E 0)) (C := RX3) (T := TX3) (N := 2) hx hb hts hinX3 hown hK hP (0) rfl rfl 0 (by decide) hf12 (fun _ h9 => h9) rfl dX3_barge_21 ?_
    refine va_get (D := D) (ci := 1) (v := .int (nI bc)) (C := RX1) (T := TX1) (N := 10) hx hb hts hinX1 hown hK hP (1 + (0)) (z_apr (n := 1) rfl (z_apl rfl)) rfl 5 (by decide) hf108 (fun _ h9 => h9) rfl dX3_barge_24 ?_
    refine lv_iconst (v := 5) hx hb dX3_barge_27 (by decide) ?_
    refine lv_icmp_lt (tgt := 41) hx hb dX3_barge_28 (by decide) (fun c2 => ?_) (fun c2 => ?_)
    · have d2 := Int32.not_le.mpr c2
      refine lv_aload_n hx hb dX3_barge_41 rfl (lv_at hl 0 rfl) ?_
      refine va_get (D := D) (ci := 3) (v := .ref (E 0)) (C := RX3) (T := TX3) (N := 2) hx hb hts hinX3 hown hK hP (0) rfl rfl 0 (by decide) hf12 (fun _ h9 => h9) rfl dX3_barge_42 ?_
      refine lv_iload_n hx hb dX3_barge_45 rfl (lv_at hl 1 rfl) ?_
      refine zcMV (As := [.int x]) (rest := []) (st1 := [.int (nI bc)]) (cells1 := 0) (slots1 := 0) ⟨hx, hb, hml, hown, hts⟩ (c_X1_addBarge l D y E t o q b c bc n ar fi re x (by omega) _) (cwV 1 hts gX3_barge_X1_addBarge rfl rfl rfl (by decide +kernel) ⟨Nat.le_of_ble_eq_true rfl, Nat.le_of_ble_eq_true rfl⟩) hK (z_sub_P hP (fun z h => List.mem_append_right _ (List.mem_append_left _ h))) (z_D_m (l1 := [(X0, .inr (3, [.ref (E 0), .ref (E2 0)]))]) hD) (ci := 1) (q0 := 0) rfl rfl rfl rfl hl.1 rfl (lv_room (Nat.le_of_ble_eq_true rfl)) dX3_barge_46 hS (z_sub_F hD hS hA (fun z h => List.mem_append_right _ (List.mem_append_left _ h))) ⟨Nat.le_of_ble_eq_true rfl, Nat.le_of_ble_eq_true rfl⟩ rfl rfl rfl (fun H locs hP1 hz hfr hS => ?_)
      obtain ⟨hP, hD⟩ := z_seg (ws1 := sW X0 E E2 y t o q (newB b bc (ar + nI bc) x) c (bc + 1) n ar fi re T) (l1 := [(X0, .inr (3, [.ref (E 0), .ref (E2 0)]))]) (w := eW E y t o q b c bc n ar fi re) (w1 := eW E y t o q (newB b bc (ar + nI bc) x) c (bc + 1) n ar fi re) hP hD rfl rfl rfl hP1 hfr
      exact zM_i hx hb hr hlocks hS dX3_barge_49 rfl hP
    · exact absurd (nI_lt (a := bc) (b := 5) (by omega) (by omega)) c2
  · exact absurd (zb_f c1) (by rw [hw]; decide)
set_option maxHeartbeats 4000000 in
set_option maxRecDepth 100000 in
theorem c_X3_barge_T1 (l : Launch) (hl0 : l.stackTraces = false) (D : va_G) (y : Nat → ClassId) (X0 : Nat) (E E2 : Nat → Nat) (t : Nat → Int32) (o : Nat → Nat) (q b : Fld) (c bc n : Nat) (ar fi re : Int32) (T : TS) (x : Int32) (hw : inB 1 x 20 = false) : zT l yX3_barge wsX3_barge { frames := 6, cells := 1, slots := 6, locals := 90 } D y [.ref X0, .int x] (sW X0 E E2 y t o q b c bc n ar fi re T) "java/lang/IllegalArgumentException" := by
  refine zT.of (cc := cX3_barge) (maxL := 2) (ret := (some .int)) (own := RX3) (by decide) rfl (Nat.le_of_ble_eq_true rfl) rfl ?_
  intro p e s m args below meth cd ls hx hb hr hml hown hts hlocks hP hK hT0 hout hl
  have hl : lv_has ls 2 [(0, .ref X0), (1, .int x)] := hl
  have hkl23 : (Cond.classLink RX3 23 "java/lang/IllegalArgumentException").before args s = true := hts _ (by decide +kernel)
  have hini23 : (Cond.initialized "java/lang/IllegalArgumentException").before args s = true := hts _ (by decide +kernel)
  refine lv_iload_n hx hb dX3_barge_0 rfl (lv_at hl 1 rfl) ?_
  refine lv_iconst (v := 1) hx hb dX3_barge_1 (by decide) ?_
  refine lv_bipush (v := 20) hx hb dX3_barge_2 (by decide) ?_
  refine zcRS (As := [.int x, .int 1, .int 20]) (rest := []) (st1 := [.int (zb (inB 1 x 20))]) ⟨hx, hb, hml, hown, hts⟩ (c_X3_isWithin l D y x 1 20) (cwS 3 hts gX3_barge_X3_isWithin rfl rfl rfl (by decide +kernel) ⟨Nat.le_of_ble_eq_true rfl, Nat.le_of_ble_eq_true rfl⟩) hK va_P_nil rfl hl.1 rfl (lv_room (Nat.le_of_ble_eq_true rfl)) dX3_barge_4 ⟨Nat.le_of_ble_eq_true rfl, Nat.le_of_ble_eq_true rfl⟩ rfl ?_
  refine lv_if_ne (tgt := 20) hx hb dX3_barge_7 (by decide) (fun c1 => ?_) (fun c1 => ?_)
  · exact absurd (zb_t c1) (by rw [hw]; decide)
  · have c1 := c1
    exact z_thr (cls := "java/lang/IllegalArgumentException") (text := "wide is not 1 to 20") (ik := 23) (is := 106) (ic := 27) hx hb hl0 hown (by decide +kernel) hkl23 hini23 hts (fun x h => List.mem_cons_of_mem _ (List.mem_append_left _ (List.mem_append_right _ h))) zbad_27 (zgoodO_27 23) hT0 (by decide) hl.1 hml dX3_barge_10 dX3_barge_13 dX3_barge_14 dX3_barge_16 dX3_barge_19 hout (Nat.le_of_ble_eq_true rfl) (Nat.le_of_ble_eq_true rfl) (Nat.le_of_ble_eq_true rfl) (Nat.le_of_ble_eq_true rfl) hlocks
set_option maxHeartbeats 4000000 in
set_option maxRecDepth 100000 in
theorem c_X3_barge_T2 (l : Launch) (hl0 : l.stackTraces = false) (D : va_G) (y : Nat → ClassId) (X0 : Nat) (E E2 : Nat → Nat) (t : Nat → Int32) (o : Nat → Nat) (q b : Fld) (c bc n : Nat) (ar fi re : Int32) (T : TS) (x : Int32) (hw : inB 1 x 20 = true) (hbc : bc = 5) : zT l yX3_barge wsX3_barge { frames := 6, cells := 1, slots := 6, locals := 90 } D y [.ref X0, .int x] (sW X0 E E2 y t o q b c bc n ar fi re T) "java/lang/IllegalStateException" := by
  refine zT.of (cc := cX3_barge) (maxL := 2) (ret := (some .int)) (own := RX3) (by decide) rfl (Nat.le_of_ble_eq_true rfl) rfl ?_
  intro p e s m args below meth cd ls hx hb hr hml hown hts hlocks hP hK hT0 hout hl
  have hl : lv_has ls 2 [(0, .ref X0), (1, .int x)] := hl
  have hf12 : (Cond.fieldLink RX3 12 "StakeWeirs" "now" "LStakeWeirs$Estuary;").before args s = true := hts _ (by decide +kernel)
  have hinX3 : ∀ w ∈ wsX30, w ∈ wsX3_barge := by decide +kernel
  have hf108 : (Cond.fieldLink RX3 108 "StakeWeirs$Estuary" "bargeCount" "I").before args s = true := hts _ (by decide +kernel)
  have hinX1 : ∀ w ∈ wsX10, w ∈ wsX3_barge := by decide +kernel
  have hkl34 : (Cond.classLink RX3 34 "java/lang/IllegalStateException").before args s = true := hts _ (by decide +kernel)
  have hini34 : (Cond.initialized "java/lang/IllegalStateException").before args s = true := hts _ (by decide +kernel)
  refine lv_iload_n hx hb dX3_barge_0 rfl (lv_at hl 1 rfl) ?_
  refine lv_iconst (v := 1) hx hb dX3_barge_1 (by decide) ?_
  refine lv_bipush (v := 20) hx hb dX3_barge_2 (by decide) ?_
  refine zcRS (As := [.int x, .int 1, .int 20]) (rest := []) (st1 := [.int (zb (inB 1 x 20))]) ⟨hx, hb, hml, hown, hts⟩ (c_X3_isWithin l D y x 1 20) (cwS 3 hts gX3_barge_X3_isWithin rfl rfl rfl (by decide +kernel) ⟨Nat.le_of_ble_eq_true rfl, Nat.le_of_ble_eq_true rfl⟩) hK va_P_nil rfl hl.1 rfl (lv_room (Nat.le_of_ble_eq_true rfl)) dX3_barge_4 ⟨Nat.le_of_ble_eq_true rfl, Nat.le_of_ble_eq_true rfl⟩ rfl ?_
  refine lv_if_ne (tgt := 20) hx hb dX3_barge_7 (by decide) (fun c1 => ?_) (fun c1 => ?_)
  · have c1 := c1
    refine lv_aload_n hx hb dX3_barge_20 rfl (lv_at hl 0 rfl) ?_
    refine va_get (D := D) (ci := 3) (v := .ref (E 0)) (C := RX3) (T := TX3) (N := 2) hx hb hts hinX3 hown hK hP (0) rfl rfl 0 (by decide) hf12 (fun _ h9 => h9) rfl dX3_barge_21 ?_
    refine va_get (D := D) (ci := 1) (v := .int (nI bc)) (C := RX1) (T := TX1) (N := 10) hx hb hts hinX1 hown hK hP (1 + (0)) (z_apr (n := 1) rfl (z_apl rfl)) rfl 5 (by decide) hf108 (fun _ h9 => h9) rfl dX3_barge_24 ?_
    refine lv_iconst (v := 5) hx hb dX3_barge_27 (by decide) ?_
    refine lv_icmp_lt (tgt := 41) hx hb dX3_barge_28 (by decide) (fun c2 => ?_) (fun c2 => ?_)
    · exact absurd c2 (nI_nlt (a := bc) (b := 5) (by omega) (by omega))
    · have d2 := Int32.not_lt.mp c2
      exact z_thr (cls := "java/lang/IllegalStateException") (text := "5 barges are under way") (ik := 34) (is := 111) (ic := 38) hx hb hl0 hown (by decide +kernel) hkl34 hini34 hts (fun x h => List.mem_cons_of_mem _ (List.mem_append_right _ h)) zbad_38 (zgoodO_38 34) hT0 (by decide) hl.1 hml dX3_barge_31 dX3_barge_34 dX3_barge_35 dX3_barge_37 dX3_barge_40 hout (Nat.le_of_ble_eq_true rfl) (Nat.le_of_ble_eq_true rfl) (Nat.le_of_ble_eq_true rfl) (Nat.le_of_ble_eq_true rfl) hlocks
  · exact absurd (zb_f c1) (by rw [hw]; decide)
set_option maxHeartbeats 4000000 in
set_option maxRecDepth 100000 in
theorem c_X3_weir (l : Launch) (D : va_G) (y : Nat → ClassId) (X0 : Nat) (E E2 : Nat → Nat) (t : Nat → Int32) (o : Nat → Nat) (q b : Fld) (c bc n : Nat) (ar fi re : Int32) (T : TS) (x0 x1 x2 : Int32) (h1 : inB 0 x0 39 = true) (h2 : inB 1 x1 30 = true) (h3 : inB 0 x2 50 = true) (hc : c < 6) (ho : ∀ i, i < c → o i < c) (sz : Nat) : zM l yX3_weir wsX3_weir { frames := 4, cells := 0, slots := 0, locals := 93 } D y [.ref X0, .int x0, .int x1, .int x2] (sW X0 E E2 y t o q b c bc n ar fi re T) sz (some (.int (nI c))) (sW X0 E E2 y t (insE q x0 c c o) (newW q c x0 x1 x2) b (c + 1) bc n ar fi re T) 0 0 := by
  refine zM.ofH (cc := cX3_weir) (maxL := 4) (ret := (some .int)) (own := RX3) (by decide) rfl (Nat.le_of_ble_eq_true rfl) rfl ?_
  intro p e s m args below meth cd ls A H locs hx hb hr hml hown hts hlocks hP hK hD hA hS hl hin
  have hS0 := hS
  have hl : lv_has ls 4 [(0, .ref X0), (1, .int x0), (2, .int x1), (3, .int x2)] := hl
  have hf12 : (Cond.fieldLink RX3 12 "StakeWeirs" "now" "LStakeWeirs$Estuary;").before args s = true := hts _ (by decide +kernel)
  have hinX3 : ∀ w ∈ wsX30, w ∈ wsX3_weir := by decide +kernel
  have hf30 : (Cond.fieldLink RX3 30 "StakeWeirs$Estuary" "weirCount" "I").before args s = true := hts _ (by decide +kernel)
  have hinX1 : ∀ w ∈ wsX10, w ∈ wsX3_weir := by decide +kernel
  refine lv_iload_n hx hb dX3_weir_0 rfl (lv_at hl 1 rfl) ?_
  refine lv_iconst (v := 0) hx hb dX3_weir_1 (by decide) ?_
  refine lv_bipush (v := 39) hx hb dX3_weir_2 (by decide) ?_
  refine zcRS (As := [.int x0, .int 0, .int 39]) (rest := []) (st1 := [.int (zb (inB 0 x0 39))]) ⟨hx, hb, hml, hown, hts⟩ (c_X3_isWithin l D y x0 0 39) (cwS 3 hts gX3_weir_X3_isWithin rfl rfl rfl (by decide +kernel) ⟨Nat.le_of_ble_eq_true rfl, Nat.le_of_ble_eq_true rfl⟩) hK va_P_nil rfl hl.1 rfl (lv_room (Nat.le_of_ble_eq_true rfl)) dX3_weir_4 ⟨Nat.le_of_ble_eq_true rfl, Nat.le_of_ble_eq_true rfl⟩ rfl ?_
  refine lv_if_eq (tgt := 30) hx hb dX3_weir_7 (by decide) (fun c1 => ?_) (fun c1 => ?_)
  · exact absurd (zb_f c1) (by rw [h1]; decide)
  · have c1 := c1
    refine lv_iload_n hx hb dX3_weir_10 rfl (lv_at hl 2 rfl) ?_
    refine lv_iconst (v := 1) hx hb dX3_weir_11 (by decide) ?_
    refine lv_bipush (v := 30) hx hb dX3_weir_12 (by decide) ?_
    refine zcRS (As := [.int x1, .int 1, .int 30]) (rest := []) (st1 := [.int (zb (inB 1 x1 30))]) ⟨hx, hb, hml, hown, hts⟩ (c_X3_isWithin l D y x1 1 30) (cwS 3 hts gX3_weir_X3_isWithin rfl rfl rfl (by decide +kernel) ⟨Nat.le_of_ble_eq_true rfl, Nat.le_of_ble_eq_true rfl⟩) hK va_P_nil rfl hl.1 rfl (lv_room (Nat.le_of_ble_eq_true rfl)) dX3_weir_14 ⟨Nat.le_of_ble_eq_true rfl, Nat.le_of_ble_eq_true rfl⟩ rfl ?_
    refine lv_if_eq (tgt := 30) hx hb dX3_weir_17 (by decide) (fun c2 => ?_) (fun c2 => ?_)
    · exact absurd (zb_f c2) (by rw [h2]; decide)
    · have c2 := c2
      refine lv_iload_n hx hb dX3_weir_20 rfl (lv_at hl 3 rfl) ?_
      refine lv_iconst (v := 0) hx hb dX3_weir_21 (by decide) ?_
      refine lv_bipush (v := 50) hx hb dX3_weir_22 (by decide) ?_
      refine zcRS (As := [.int x2, .int 0, .int 50]) (rest := []) (st1 := [.int (zb (inB 0 x2 50))]) ⟨hx, hb, hml, hown, hts⟩ (c_X3_isWithin l D y x2 0 50) (cwS 3 hts gX3_weir_X3_isWithin rfl rfl rfl (by decide +kernel) ⟨Nat.le_of_ble_eq_true rfl, Nat.le_of_ble_eq_true rfl⟩) hK va_P_nil rfl hl.1 rfl (lv_room (Nat.le_of_ble_eq_true rfl)) dX3_weir_24 ⟨Nat.le_of_ble_eq_true rfl, Nat.le_of_ble_eq_true rfl⟩ rfl ?_
      refine lv_if_ne (tgt := 40) hx hb dX3_weir_27 (by decide) (fun c3 => ?_) (fun c3 => ?_)
      · have c3 := c3
        refine lv_aload_n hx hb dX3_weir_40 rfl (lv_at hl 0 rfl) ?_
        refine va_get (D := D) (ci := 3) (v := .ref (E 0)) (C := RX3) (T := TX3) (N := 2) hx hb hts hinX3 hown hK hP (0) rfl rfl 0 (by decide) hf12 (fun _ h9 => h9) rfl dX3_weir_41 ?_
        refine va_get (D := D) (ci := 1) (v := .int (nI c)) (C := RX1) (T := TX1) (N := 10) hx hb hts hinX1 hown hK hP (1 + (0)) (z_apr (n := 1) rfl (z_apl rfl)) rfl 4 (by decide) hf30 (fun _ h9 => h9) rfl dX3_weir_44 ?_
        refine lv_bipush (v := 6) hx hb dX3_weir_47 (by decide) ?_
        refine lv_icmp_lt (tgt := 62) hx hb dX3_weir_49 (by decide) (fun c4 => ?_) (fun c4 => ?_)
        · have d4 := Int32.not_le.mpr c4
          refine lv_aload_n hx hb dX3_weir_62 rfl (lv_at hl 0 rfl) ?_
          refine va_get (D := D) (ci := 3) (v := .ref (E 0)) (C := RX3) (T := TX3) (N := 2) hx hb hts hinX3 hown hK hP (0) rfl rfl 0 (by decide) hf12 (fun _ h9 => h9) rfl dX3_weir_63 ?_
          refine lv_iload_n hx hb dX3_weir_66 rfl (lv_at hl 1 rfl) ?_
          refine lv_iload_n hx hb dX3_weir_67 rfl (lv_at hl 2 rfl) ?_
          refine lv_iload_n hx hb dX3_weir_68 rfl (lv_at hl 3 rfl) ?_
          refine zcMV (As := [.int x0, .int x1, .int x2]) (rest := []) (st1 := [.int (nI c)]) (cells1 := 0) (slots1 := 0) ⟨hx, hb, hml, hown, hts⟩ (c_X1_addWeir l D y E t o q b c bc n ar fi re x0 x1 x2 (by omega) ho _) (cwV 3 hts gX3_weir_X1_addWeir rfl rfl rfl (by decide +kernel) ⟨Nat.le_of_ble_eq_true rfl, Nat.le_of_ble_eq_true rfl⟩) hK (z_sub_P hP (fun z h => List.mem_append_right _ (List.mem_append_left _ h))) (z_D_m (l1 := [(X0, .inr (3, [.ref (E 0), .ref (E2 0)]))]) hD) (ci := 1) (q0 := 0) rfl rfl rfl rfl hl.1 rfl (lv_room (Nat.le_of_ble_eq_true rfl)) dX3_weir_69 hS (z_sub_F hD hS hA (fun z h => List.mem_append_right _ (List.mem_append_left _ h))) ⟨Nat.le_of_ble_eq_true rfl, Nat.le_of_ble_eq_true rfl⟩ rfl rfl rfl (fun H locs hP1 hz hfr hS => ?_)
          obtain ⟨hP, hD⟩ := z_seg (ws1 := sW X0 E E2 y t (insE q x0 c c o) (newW q c x0 x1 x2) b (c + 1) bc n ar fi re T) (l1 := [(X0, .inr (3, [.ref (E 0), .ref (E2 0)]))]) (w := eW E y t o q b c bc n ar fi re) (w1 := eW E y t (insE q x0 c c o) (newW q c x0 x1 x2) b (c + 1) bc n ar fi re) hP hD rfl rfl rfl hP1 hfr
          exact zM_i hx hb hr hlocks hS dX3_weir_72 rfl hP
        · exact absurd (nI_lt (a := c) (b := 6) (by omega) (by omega)) c4
      · exact absurd (zb_f c3) (by rw [h3]; decide)
set_option maxHeartbeats 4000000 in
set_option maxRecDepth 100000 in
theorem c_X3_weir_T1 (l : Launch) (hl0 : l.stackTraces = false) (D : va_G) (y : Nat → ClassId) (X0 : Nat) (E E2 : Nat → Nat) (t : Nat → Int32) (o : Nat → Nat) (q b : Fld) (c bc n : Nat) (ar fi re : Int32) (T : TS) (x0 x1 x2 : Int32) (hw : (inB 0 x0 39 && inB 1 x1 30 && inB 0 x2 50) = false) : zT l yX3_weir wsX3_weir { frames := 6, cells := 1, slots := 6, locals := 90 } D y [.ref X0, .int x0, .int x1, .int x2] (sW X0 E E2 y t o q b c bc n ar fi re T) "java/lang/IllegalArgumentException" := by
  refine zT.of (cc := cX3_weir) (maxL := 4) (ret := (some .int)) (own := RX3) (by decide) rfl (Nat.le_of_ble_eq_true rfl) rfl ?_
  intro p e s m args below meth cd ls hx hb hr hml hown hts hlocks hP hK hT0 hout hl
  have hl : lv_has ls 4 [(0, .ref X0), (1, .int x0), (2, .int x1), (3, .int x2)] := hl
  have hkl23 : (Cond.classLink RX3 23 "java/lang/IllegalArgumentException").before args s = true := hts _ (by decide +kernel)
  have hini23 : (Cond.initialized "java/lang/IllegalArgumentException").before args s = true := hts _ (by decide +kernel)
  refine lv_iload_n hx hb dX3_weir_0 rfl (lv_at hl 1 rfl) ?_
  refine lv_iconst (v := 0) hx hb dX3_weir_1 (by decide) ?_
  refine lv_bipush (v := 39) hx hb dX3_weir_2 (by decide) ?_
  refine zcRS (As := [.int x0, .int 0, .int 39]) (rest := []) (st1 := [.int (zb (inB 0 x0 39))]) ⟨hx, hb, hml, hown, hts⟩ (c_X3_isWithin l D y x0 0 39) (cwS 3 hts gX3_weir_X3_isWithin rfl rfl rfl (by decide +kernel) ⟨Nat.le_of_ble_eq_true rfl, Nat.le_of_ble_eq_true rfl⟩) hK va_P_nil rfl hl.1 rfl (lv_room (Nat.le_of_ble_eq_true rfl)) dX3_weir_4 ⟨Nat.le_of_ble_eq_true rfl, Nat.le_of_ble_eq_true rfl⟩ rfl ?_
  refine lv_if_eq (tgt := 30) hx hb dX3_weir_7 (by decide) (fun c1 => ?_) (fun c1 => ?_)
  · have c1 : inB 0 x0 39 = false := zb_f c1
    exact z_thr (cls := "java/lang/IllegalArgumentException") (text := "place, stakes or rent is out of bounds") (ik := 23) (is := 25) (ic := 27) hx hb hl0 hown (by decide +kernel) hkl23 hini23 hts (fun x h => List.mem_cons_of_mem _ (List.mem_append_left _ (List.mem_append_right _ h))) zbad_27 (zgoodO_27 23) hT0 (by decide) hl.1 hml dX3_weir_30 dX3_weir_33 dX3_weir_34 dX3_weir_36 dX3_weir_39 hout (Nat.le_of_ble_eq_true rfl) (Nat.le_of_ble_eq_true rfl) (Nat.le_of_ble_eq_true rfl) (Nat.le_of_ble_eq_true rfl) hlocks
  · have c1 : inB 0 x0 39 = true := zb_t c1
    refine lv_iload_n hx hb dX3_weir_10 rfl (lv_at hl 2 rfl) ?_
    refine lv_iconst (v := 1) hx hb dX3_weir_11 (by decide) ?_
    refine lv_bipush (v := 30) hx hb dX3_weir_12 (by decide) ?_
    refine zcRS (As := [.int x1, .int 1, .int 30]) (rest := []) (st1 := [.int (zb (inB 1 x1 30))]) ⟨hx, hb, hml, hown, hts⟩ (c_X3_isWithin l D y x1 1 30) (cwS 3 hts gX3_weir_X3_isWithin rfl rfl rfl (by decide +kernel) ⟨Nat.le_of_ble_eq_true rfl, Nat.le_of_ble_eq_true rfl⟩) hK va_P_nil rfl hl.1 rfl (lv_room (Nat.le_of_ble_eq_true rfl)) dX3_weir_14 ⟨Nat.le_of_ble_eq_true rfl, Nat.le_of_ble_eq_true rfl⟩ rfl ?_
    refine lv_if_eq (tgt := 30) hx hb dX3_weir_17 (by decide) (fun c2 => ?_) (fun c2 => ?_)
    · have c2 : inB 1 x1 30 = false := zb_f c2
      exact z_thr (cls := "java/lang/IllegalArgumentException") (text := "place, stakes or rent is out of bounds") (ik := 23) (is := 25) (ic := 27) hx hb hl0 hown (by decide +kernel) hkl23 hini23 hts (fun x h => List.mem_cons_of_mem _ (List.mem_append_left _ (List.mem_append_right _ h))) zbad_27 (zgoodO_27 23) hT0 (by decide) hl.1 hml dX3_weir_30 dX3_weir_33 dX3_weir_34 dX3_weir_36 dX3_weir_39 hout (Nat.le_of_ble_eq_true rfl) (Nat.le_of_ble_eq_true rfl) (Nat.le_of_ble_eq_true rfl) (Nat.le_of_ble_eq_true rfl) hlocks
    · have c2 : inB 1 x1 30 = true := zb_t c2
      refine lv_iload_n hx hb dX3_weir_20 rfl (lv_at hl 3 rfl) ?_
      refine lv_iconst (v := 0) hx hb dX3_weir_21 (by decide) ?_
      refine lv_bipush (v := 50) hx hb dX3_weir_22 (by decide) ?_
      refine zcRS (As := [.int x2, .int 0, .int 50]) (rest := []) (st1 := [.int (zb (inB 0 x2 50))]) ⟨hx, hb, hml, hown, hts⟩ (c_X3_isWithin l D y x2 0 50) (cwS 3 hts gX3_weir_X3_isWithin rfl rfl rfl (by decide +kernel) ⟨Nat.le_of_ble_eq_true rfl, Nat.le_of_ble_eq_true rfl⟩) hK va_P_nil rfl hl.1 rfl (lv_room (Nat.le_of_ble_eq_true rfl)) dX3_weir_24 ⟨Nat.le_of_ble_eq_true rfl, Nat.le_of_ble_eq_true rfl⟩ rfl ?_
      refine lv_if_ne (tgt := 40) hx hb dX3_weir_27 (by decide) (fun c3 => ?_) (fun c3 => ?_)
      · have c3 : inB 0 x2 50 = true := zb_t c3
        exact absurd hw (by rw [c1, c2, c3]; decide)
      · have c3 : inB 0 x2 50 = false := zb_f c3
        exact z_thr (cls := "java/lang/IllegalArgumentException") (text := "place, stakes or rent is out of bounds") (ik := 23) (is := 25) (ic := 27) hx hb hl0 hown (by decide +kernel) hkl23 hini23 hts (fun x h => List.mem_cons_of_mem _ (List.mem_append_left _ (List.mem_append_right _ h))) zbad_27 (zgoodO_27 23) hT0 (by decide) hl.1 hml dX3_weir_30 dX3_weir_33 dX3_weir_34 dX3_weir_36 dX3_weir_39 hout (Nat.le_of_ble_eq_true rfl) (Nat.le_of_ble_eq_true rfl) (Nat.le_of_ble_eq_true rfl) (Nat.le_of_ble_eq_true rfl) hlocks
set_option maxHeartbeats 4000000 in
set_option maxRecDepth 100000 in
theorem c_X3_weir_T2 (l : Launch) (hl0 : l.stackTraces = false) (D : va_G) (y : Nat → ClassId) (X0 : Nat) (E E2 : Nat → Nat) (t : Nat → Int32) (o : Nat → Nat) (q b : Fld) (c bc n : Nat) (ar fi re : Int32) (T : TS) (x0 x1 x2 : Int32) (h1 : inB 0 x0 39 = true) (h2 : inB 1 x1 30 = true) (h3 : inB 0 x2 50 = true) (hc : c = 6) : zT l yX3_weir wsX3_weir { frames := 6, cells := 1, slots := 6, locals := 90 } D y [.ref X0, .int x0, .int x1, .int x2] (sW X0 E E2 y t o q b c bc n ar fi re T) "java/lang/IllegalStateException" := by
  refine zT.of (cc := cX3_weir) (maxL := 4) (ret := (some .int)) (own := RX3) (by decide) rfl (Nat.le_of_ble_eq_true rfl) rfl ?_
  intro p e s m args below meth cd ls hx hb hr hml hown hts hlocks hP hK hT0 hout hl
  have hl : lv_has ls 4 [(0, .ref X0), (1, .int x0), (2, .int x1), (3, .int x2)] := hl
  have hf12 : (Cond.fieldLink RX3 12 "StakeWeirs" "now" "LStakeWeirs$Estuary;").before args s = true := hts _ (by decide +kernel)
  have hinX3 : ∀ w ∈ wsX30, w ∈ wsX3_weir := by decide +kernel
  have hf30 : (Cond.fieldLink RX3 30 "StakeWeirs$Estuary" "weirCount" "I").before args s = true := hts _ (by decide +kernel)
  have hinX1 : ∀ w ∈ wsX10, w ∈ wsX3_weir := by decide +kernel
  have hkl34 : (Cond.classLink RX3 34 "java/lang/IllegalStateException").before args s = true := hts _ (by decide +kernel)
  have hini34 : (Cond.initialized "java/lang/IllegalStateException").before args s = true := hts _ (by decide +kernel)
  refine lv_iload_n hx hb dX3_weir_0 rfl (lv_at hl 1 rfl) ?_
  refine lv_iconst (v := 0) hx hb dX3_weir_1 (by decide) ?_
  refine lv_bipush (v := 39) hx hb dX3_weir_2 (by decide) ?_
  refine zcRS (As := [.int x0, .int 0, .int 39]) (rest := []) (st1 := [.int (zb (inB 0 x0 39))]) ⟨hx, hb, hml, hown, hts⟩ (c_X3_isWithin l D y x0 0 39) (cwS 3 hts gX3_weir_X3_isWithin rfl rfl rfl (by decide +kernel) ⟨Nat.le_of_ble_eq_true rfl, Nat.le_of_ble_eq_true rfl⟩) hK va_P_nil rfl hl.1 rfl (lv_room (Nat.le_of_ble_eq_true rfl)) dX3_weir_4 ⟨Nat.le_of_ble_eq_true rfl, Nat.le_of_ble_eq_true rfl⟩ rfl ?_
  refine lv_if_eq (tgt := 30) hx hb dX3_weir_7 (by decide) (fun c1 => ?_) (fun c1 => ?_)
  · exact absurd (zb_f c1) (by rw [h1]; decide)
  · have c1 := c1
    refine lv_iload_n hx hb dX3_weir_10 rfl (lv_at hl 2 rfl) ?_
    refine lv_iconst (v := 1) hx hb dX3_weir_11 (by decide) ?_
    refine lv_bipush (v := 30) hx hb dX3_weir_12 (by decide) ?_
    refine zcRS (As := [.int x1, .int 1, .int 30]) (rest := []) (st1 := [.int (zb (inB 1 x1 30))]) ⟨hx, hb, hml, hown, hts⟩ (c_X3_isWithin l D y x1 1 30) (cwS 3 hts gX3_weir_X3_isWithin rfl rfl rfl (by decide +kernel) ⟨Nat.le_of_ble_eq_true rfl, Nat.le_of_ble_eq_true rfl⟩) hK va_P_nil rfl hl.1 rfl (lv_room (Nat.le_of_ble_eq_true rfl)) dX3_weir_14 ⟨Nat.le_of_ble_eq_true rfl, Nat.le_of_ble_eq_true rfl⟩ rfl ?_
    refine lv_if_eq (tgt := 30) hx hb dX3_weir_17 (by decide) (fun c2 => ?_) (fun c2 => ?_)
    · exact absurd (zb_f c2) (by rw [h2]; decide)
    · have c2 := c2
      refine lv_iload_n hx hb dX3_weir_20 rfl (lv_at hl 3 rfl) ?_
      refine lv_iconst (v := 0) hx hb dX3_weir_21 (by decide) ?_
      refine lv_bipush (v := 50) hx hb dX3_weir_22 (by decide) ?_
      refine zcRS (As := [.int x2, .int 0, .int 50]) (rest := []) (st1 := [.int (zb (inB 0 x2 50))]) ⟨hx, hb, hml, hown, hts⟩ (c_X3_isWithin l D y x2 0 50) (cwS 3 hts gX3_weir_X3_isWithin rfl rfl rfl (by decide +kernel) ⟨Nat.le_of_ble_eq_true rfl, Nat.le_of_ble_eq_true rfl⟩) hK va_P_nil rfl hl.1 rfl (lv_room (Nat.le_of_ble_eq_true rfl)) dX3_weir_24 ⟨Nat.le_of_ble_eq_true rfl, Nat.le_of_ble_eq_true rfl⟩ rfl ?_
      refine lv_if_ne (tgt := 40) hx hb dX3_weir_27 (by decide) (fun c3 => ?_) (fun c3 => ?_)
      · have c3 := c3
        refine lv_aload_n hx hb dX3_weir_40 rfl (lv_at hl 0 rfl) ?_
        refine va_get (D := D) (ci := 3) (v := .ref (E 0)) (C := RX3) (T := TX3) (N := 2) hx hb hts hinX3 hown hK hP (0) rfl rfl 0 (by decide) hf12 (fun _ h9 => h9) rfl dX3_weir_41 ?_
        refine va_get (D := D) (ci := 1) (v := .int (nI c)) (C := RX1) (T := TX1) (N := 10) hx hb hts hinX1 hown hK hP (1 + (0)) (z_apr (n := 1) rfl (z_apl rfl)) rfl 4 (by decide) hf30 (fun _ h9 => h9) rfl dX3_weir_44 ?_
        refine lv_bipush (v := 6) hx hb dX3_weir_47 (by decide) ?_
        refine lv_icmp_lt (tgt := 62) hx hb dX3_weir_49 (by decide) (fun c4 => ?_) (fun c4 => ?_)
        · exact absurd c4 (nI_nlt (a := c) (b := 6) (by omega) (by omega))
        · have d4 := Int32.not_lt.mp c4
          exact z_thr (cls := "java/lang/IllegalStateException") (text := "there are 6 weirs") (ik := 34) (is := 36) (ic := 38) hx hb hl0 hown (by decide +kernel) hkl34 hini34 hts (fun x h => List.mem_cons_of_mem _ (List.mem_append_right _ h)) zbad_38 (zgoodO_38 34) hT0 (by decide) hl.1 hml dX3_weir_52 dX3_weir_55 dX3_weir_56 dX3_weir_58 dX3_weir_61 hout (Nat.le_of_ble_eq_true rfl) (Nat.le_of_ble_eq_true rfl) (Nat.le_of_ble_eq_true rfl) (Nat.le_of_ble_eq_true rfl) hlocks
      · exact absurd (zb_f c3) (by rw [h3]; decide)
