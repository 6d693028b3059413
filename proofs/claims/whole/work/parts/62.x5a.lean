set_option maxHeartbeats 1000000 in
set_option maxRecDepth 100000 in
theorem c_X5_isIn (l : Launch) (D : va_G) (y : Nat → ClassId) (x lo hi : Int32)  : zR l yX5_isIn wsX5_isIn { frames := 0, cells := 0, slots := 0, locals := 0 } D y [.int x, .int lo, .int hi] ([]) (some (.int (zb (inB lo x hi)))) := by
  refine zR.of (cc := cX5_isIn) (maxL := 3) (ret := (some .boolean)) (own := RX5) (by decide) rfl (Nat.le_of_ble_eq_true rfl) rfl ?_
  intro p e s m args below meth cd ls hx hb hr hml hown hts hlocks hP hK hl
  have hl : lv_has ls 3 [(0, .int x), (1, .int lo), (2, .int hi)] := hl
  refine lv_iload_n hx hb dX5_isIn_0 rfl (lv_at hl 0 rfl) ?_
  refine lv_iload_n hx hb dX5_isIn_1 rfl (lv_at hl 1 rfl) ?_
  refine lv_icmp_lt (tgt := 14) hx hb dX5_isIn_2 (by decide) (fun c1 => ?_) (fun c1 => ?_)
  · have d1 := Int32.not_le.mpr c1
    refine lv_iconst (v := 0) hx hb dX5_isIn_14 (by decide) ?_
    exact zR_z hx hb hr hlocks dX5_isIn_15 (Or.inl rfl) (by simp [zb, inB, c1, d1])
  · have d1 := Int32.not_lt.mp c1
    refine lv_iload_n hx hb dX5_isIn_5 rfl (lv_at hl 0 rfl) ?_
    refine lv_iload_n hx hb dX5_isIn_6 rfl (lv_at hl 2 rfl) ?_
    refine lv_icmp_gt (tgt := 14) hx hb dX5_isIn_7 (by decide) (fun c2 => ?_) (fun c2 => ?_)
    · have d2 := Int32.not_le.mpr c2
      refine lv_iconst (v := 0) hx hb dX5_isIn_14 (by decide) ?_
      exact zR_z hx hb hr hlocks dX5_isIn_15 (Or.inl rfl) (by simp [zb, inB, c1, d1, c2, d2])
    · have d2 := Int32.not_lt.mp c2
      refine lv_iconst (v := 1) hx hb dX5_isIn_10 (by decide) ?_
      refine lv_goto (tgt := 15) hx hb dX5_isIn_11 (by decide) ?_
      exact zR_z hx hb hr hlocks dX5_isIn_15 (Or.inr rfl) (by simp [zb, inB, c1, d1, c2, d2])
set_option maxHeartbeats 1000000 in
set_option maxRecDepth 100000 in
theorem c_X5_isWeir (l : Launch) (D : va_G) (y : Nat → ClassId) (Y Z Z2 : Nat → Nat) (th : Int32) (t : Nat → Int32) (c : Nat) (q b : Fld) (bc n : Nat) (ar fi rn : Int32) (T : Nst) (x : Int32)  : zR l yX5_isWeir wsX5_isWeir { frames := 1, cells := 0, slots := 0, locals := 22 } D y [.ref (Y 0), .int x] (zW Y Z Z2 y th t c q b bc n ar fi rn T) (some (.int (zb (inB 0 x (nI c - 1))))) := by
  refine zR.of (cc := cX5_isWeir) (maxL := 2) (ret := (some .boolean)) (own := RX5) (by decide) rfl (Nat.le_of_ble_eq_true rfl) rfl ?_
  intro p e s m args below meth cd ls hx hb hr hml hown hts hlocks hP hK hl
  have hl : lv_has ls 2 [(0, .ref (Y 0)), (1, .int x)] := hl
  have hf35 : (Cond.fieldLink RX5 35 "StakeWeirsModel" "weirs" "I").before args s = true := hts _ (by decide +kernel)
  have hinX5 : ∀ w ∈ wsX50, w ∈ wsX5_isWeir := by decide +kernel
  refine lv_iload_n hx hb dX5_isWeir_0 rfl (lv_at hl 1 rfl) ?_
  refine lv_iconst (v := 0) hx hb dX5_isWeir_1 (by decide) ?_
  refine lv_aload_n hx hb dX5_isWeir_2 rfl (lv_at hl 0 rfl) ?_
  refine va_get (D := D) (ci := 5) (v := .int (nI c)) (C := RX5) (T := TX5) (N := 7) hx hb hts hinX5 hown hK hP (0) rfl rfl 2 (by decide) hf35 (fun _ h9 => h9) rfl dX5_isWeir_3 ?_
  refine lv_iconst (v := 1) hx hb dX5_isWeir_6 (by decide) ?_
  refine lv_isub hx hb dX5_isWeir_7 ?_
  refine zcRS (As := [.int x, .int 0, .int ((nI c - 1))]) (rest := []) (st1 := [.int (zb (inB 0 x (nI c - 1)))]) ⟨hx, hb, hml, hown, hts⟩ (c_X5_isIn l D y x 0 (nI c - 1)) (cwS 3 hts gX5_isWeir_X5_isIn rfl rfl rfl (by decide +kernel) ⟨Nat.le_of_ble_eq_true rfl, Nat.le_of_ble_eq_true rfl⟩) hK va_P_nil rfl hl.1 rfl (lv_room (Nat.le_of_ble_eq_true rfl)) dX5_isWeir_8 ⟨Nat.le_of_ble_eq_true rfl, Nat.le_of_ble_eq_true rfl⟩ rfl ?_
  exact zR_z hx hb hr hlocks dX5_isWeir_11 (zb_01 (inB 0 x (nI c - 1))) rfl
set_option maxHeartbeats 1000000 in
set_option maxRecDepth 100000 in
theorem c_X5_isBarge (l : Launch) (D : va_G) (y : Nat → ClassId) (Y Z Z2 : Nat → Nat) (th : Int32) (t : Nat → Int32) (c : Nat) (q b : Fld) (bc n : Nat) (ar fi rn : Int32) (T : Nst) (x : Int32) : zRN l yX5_isBarge wsX5_isBarge { frames := 1, cells := 0, slots := 0, locals := 22 } D y [.ref (Y 0), .int x] (zW Y Z Z2 y th t c q b bc n ar fi rn T) (some (.int (zb (inB 0 x (nI bc - 1))))) := by
  refine zRN.of (cc := cX5_isBarge) (maxL := 2) (ret := (some .boolean)) (own := RX5) (by decide) rfl (Nat.le_of_ble_eq_true rfl) rfl ?_
  intro p e s m args below meth cd ls hx hb hr hml hown hts hlocks hP hK hN hl
  have hl : lv_has ls 2 [(0, .ref (Y 0)), (1, .int x)] := hl
  have hf24 : (Cond.fieldLink RX5 24 "StakeWeirsModel" "s" "LStakeWeirsModel$State;").before args s = true := hts _ (by decide +kernel)
  have hinX5 : ∀ w ∈ wsX50, w ∈ wsX5_isBarge := by decide +kernel
  have hf42 : (Cond.fieldLinkNest "StakeWeirsModel" 42 "StakeWeirsModel$State" "barges" "I" "StakeWeirsModel").before args s = true := va_Nw.use rfl (hN ("StakeWeirsModel", 42, "StakeWeirsModel$State", "barges", "I", "StakeWeirsModel") (by decide +kernel))
  have hinX4 : ∀ w ∈ wsX40, w ∈ wsX5_isBarge := by decide +kernel
  refine lv_iload_n hx hb dX5_isBarge_0 rfl (lv_at hl 1 rfl) ?_
  refine lv_iconst (v := 0) hx hb dX5_isBarge_1 (by decide) ?_
  refine lv_aload_n hx hb dX5_isBarge_2 rfl (lv_at hl 0 rfl) ?_
  refine va_get (D := D) (ci := 5) (v := .ref (Z 0)) (C := RX5) (T := TX5) (N := 7) hx hb hts hinX5 hown hK hP (0) rfl rfl 5 (by decide) hf24 (fun _ h9 => h9) rfl dX5_isBarge_3 ?_
  refine va_getN (D := D) (ci := 4) (v := .int (nI bc)) (C := RX4) (T := TX4) (N := 16) hx hb hts hinX4 hown hK hP (4) rfl rfl 7 (by decide) hf42 (fun _ h9 => h9) rfl dX5_isBarge_6 ?_
  refine lv_iconst (v := 1) hx hb dX5_isBarge_9 (by decide) ?_
  refine lv_isub hx hb dX5_isBarge_10 ?_
  refine zcRS (As := [.int x, .int 0, .int ((nI bc - 1))]) (rest := []) (st1 := [.int (zb (inB 0 x (nI bc - 1)))]) ⟨hx, hb, hml, hown, hts⟩ (c_X5_isIn l D y x 0 (nI bc - 1)) (cwS 3 hts gX5_isBarge_X5_isIn rfl rfl rfl (by decide +kernel) ⟨Nat.le_of_ble_eq_true rfl, Nat.le_of_ble_eq_true rfl⟩) hK va_P_nil rfl hl.1 rfl (lv_room (Nat.le_of_ble_eq_true rfl)) dX5_isBarge_11 ⟨Nat.le_of_ble_eq_true rfl, Nat.le_of_ble_eq_true rfl⟩ rfl ?_
  exact zR_z hx hb hr hlocks dX5_isBarge_14 (zb_01 (inB 0 x (nI bc - 1))) rfl
set_option maxHeartbeats 1000000 in
set_option maxRecDepth 100000 in
theorem c_X5_no (l : Launch) (D : va_G) (y : Nat → ClassId) (Y Z Z2 : Nat → Nat) (th : Int32) (t : Nat → Int32) (c : Nat) (q b : Fld) (bc n : Nat) (ar fi rn : Int32) (T : Nst) (x : Int32)  (sz : Nat) : zM l yX5_no wsX5_no { frames := 0, cells := 0, slots := 0, locals := 0 } D y [.ref (Y 0), .int x] (zW Y Z Z2 y th t c q b bc n ar fi rn T) sz (some (.int 0)) (zW Y Z Z2 y x t c q b bc n ar fi rn T) 0 0 := by
  refine zM.ofH (cc := cX5_no) (maxL := 2) (ret := (some .int)) (own := RX5) (by decide) rfl (Nat.le_of_ble_eq_true rfl) rfl ?_
  intro p e s m args below meth cd ls A H locs hx hb hr hml hown hts hlocks hP hK hD hA hS hl hin
  have hS0 := hS
  have hl : lv_has ls 2 [(0, .ref (Y 0)), (1, .int x)] := hl
  have hf31 : (Cond.fieldLink RX5 31 "StakeWeirsModel" "thrown" "I").before args s = true := hts _ (by decide +kernel)
  have hinX5 : ∀ w ∈ wsX50, w ∈ wsX5_no := by decide +kernel
  refine lv_aload_n hx hb dX5_no_0 rfl (lv_at hl 0 rfl) ?_
  refine lv_iload_n hx hb dX5_no_1 rfl (lv_at hl 1 rfl) ?_
  refine va_put (D := D) (ci := 5) (v := .int x) (ty := .int) (C := RX5) (T := TX5) (N := 7) hx hb hts hinX5 tyX5 tyX5_ok nmX5 hown hK hP hD hS (0) rfl rfl 0 (by decide) hf31 (fun _ h9 => h9) rfl (by decide +kernel) rfl rfl (Nat.le_of_ble_eq_true rfl) dX5_no_2 (fun H locs hP hD hS => ?_)
  have hP : va_P D vwCl (zW Y Z Z2 y x t c q b bc n ar fi rn T) H := hP
  have hD : va_D A (zW Y Z Z2 y x t c q b bc n ar fi rn T) := hD
  refine lv_iconst (v := 0) hx hb dX5_no_5 (by decide) ?_
  exact zM_i hx hb hr hlocks hS dX5_no_6 rfl hP
set_option maxHeartbeats 1000000 in
set_option maxRecDepth 100000 in
theorem c_X5_thrown (l : Launch) (D : va_G) (y : Nat → ClassId) (Y Z Z2 : Nat → Nat) (th : Int32) (t : Nat → Int32) (c : Nat) (q b : Fld) (bc n : Nat) (ar fi rn : Int32) (T : Nst)  : zR l yX5_thrown wsX5_thrown { frames := 0, cells := 0, slots := 0, locals := 0 } D y [.ref (Y 0)] (zW Y Z Z2 y th t c q b bc n ar fi rn T) (some (.int th)) := by
  refine zR.of (cc := cX5_thrown) (maxL := 1) (ret := (some .int)) (own := RX5) (by decide) rfl (Nat.le_of_ble_eq_true rfl) rfl ?_
  intro p e s m args below meth cd ls hx hb hr hml hown hts hlocks hP hK hl
  have hl : lv_has ls 1 [(0, .ref (Y 0))] := hl
  have hf31 : (Cond.fieldLink RX5 31 "StakeWeirsModel" "thrown" "I").before args s = true := hts _ (by decide +kernel)
  have hinX5 : ∀ w ∈ wsX50, w ∈ wsX5_thrown := by decide +kernel
  refine lv_aload_n hx hb dX5_thrown_0 rfl (lv_at hl 0 rfl) ?_
  refine va_get (D := D) (ci := 5) (v := .int th) (C := RX5) (T := TX5) (N := 7) hx hb hts hinX5 hown hK hP (0) rfl rfl 0 (by decide) hf31 (fun _ h9 => h9) rfl dX5_thrown_1 ?_
  exact zR_i hx hb hr hlocks dX5_thrown_4 rfl
theorem nI_ne {a b : Nat} (h : a ≠ b) (ha : a < 2147483648) (hb : b < 2147483648) : ¬ nI a = nI b := fun h9 => h ((nI_eq ha hb).mp h9)
set_option maxHeartbeats 1000000 in
set_option maxRecDepth 100000 in
theorem c_X5_weir (l : Launch) (D : va_G) (y : Nat → ClassId) (Y Z Z2 : Nat → Nat) (th : Int32) (t : Nat → Int32) (c : Nat) (q b : Fld) (bc n : Nat) (ar fi rn : Int32) (T : Nst) (x0 x1 x2 : Int32) (h1 : inB 0 x0 39 = true) (h2 : inB 1 x1 30 = true) (h3 : inB 0 x2 50 = true) (hc : c < 6) (sz : Nat) : zMN l yX5_weir wsX5_weir { frames := 1, cells := 0, slots := 0, locals := 22 } D y [.ref (Y 0), .int x0, .int x1, .int x2] (zW Y Z Z2 y th t c q b bc n ar fi rn T) sz (some (.int (nI c))) (zW Y Z Z2 y 0 t (c + 1) (up2 (up2 (up2 (up2 (up2 q 0 c x0) 3 c x2) 1 c x1) 2 c 100) 4 c 20) b bc n ar fi rn T) 0 0 := by
  refine zMN.of (cc := cX5_weir) (maxL := 4) (ret := (some .int)) (own := RX5) (by decide) rfl (Nat.le_of_ble_eq_true rfl) rfl ?_
  intro p e s m args below meth cd ls A H locs hx hb hr hml hown hts hlocks hP hK hD hA hS hN hl hin
  have hS0 := hS
  have hl : lv_has ls 4 [(0, .ref (Y 0)), (1, .int x0), (2, .int x1), (3, .int x2)] := hl
  have hf31 : (Cond.fieldLink RX5 31 "StakeWeirsModel" "thrown" "I").before args s = true := hts _ (by decide +kernel)
  have hinX5 : ∀ w ∈ wsX50, w ∈ wsX5_weir := by decide +kernel
  have hf35 : (Cond.fieldLink RX5 35 "StakeWeirsModel" "weirs" "I").before args s = true := hts _ (by decide +kernel)
  have hf13 : (Cond.fieldLink RX5 13 "StakeWeirsModel" "place" "[I").before args s = true := hts _ (by decide +kernel)
  have hf16 : (Cond.fieldLink RX5 16 "StakeWeirsModel" "rent" "[I").before args s = true := hts _ (by decide +kernel)
  have hf24 : (Cond.fieldLink RX5 24 "StakeWeirsModel" "s" "LStakeWeirsModel$State;").before args s = true := hts _ (by decide +kernel)
  have hf49 : (Cond.fieldLinkNest "StakeWeirsModel" 49 "StakeWeirsModel$State" "stakes" "[I" "StakeWeirsModel").before args s = true := va_Nw.use rfl (hN ("StakeWeirsModel", 49, "StakeWeirsModel$State", "stakes", "[I", "StakeWeirsModel") (by decide +kernel))
  have hinX4 : ∀ w ∈ wsX40, w ∈ wsX5_weir := by decide +kernel
  have hf52 : (Cond.fieldLinkNest "StakeWeirsModel" 52 "StakeWeirsModel$State" "wattle" "[I" "StakeWeirsModel").before args s = true := va_Nw.use rfl (hN ("StakeWeirsModel", 52, "StakeWeirsModel$State", "wattle", "[I", "StakeWeirsModel") (by decide +kernel))
  have hf55 : (Cond.fieldLinkNest "StakeWeirsModel" 55 "StakeWeirsModel$State" "coins" "[I" "StakeWeirsModel").before args s = true := va_Nw.use rfl (hN ("StakeWeirsModel", 55, "StakeWeirsModel$State", "coins", "[I", "StakeWeirsModel") (by decide +kernel))
  refine lv_aload_n hx hb dX5_weir_0 rfl (lv_at hl 0 rfl) ?_
  refine lv_iconst (v := 0) hx hb dX5_weir_1 (by decide) ?_
  refine va_put (D := D) (ci := 5) (v := .int 0) (ty := .int) (C := RX5) (T := TX5) (N := 7) hx hb hts hinX5 tyX5 tyX5_ok nmX5 hown hK hP hD hS (0) rfl rfl 0 (by decide) hf31 (fun _ h9 => h9) rfl (by decide +kernel) rfl rfl (Nat.le_of_ble_eq_true rfl) dX5_weir_2 (fun H locs hP hD hS => ?_)
  have hP : va_P D vwCl (zW Y Z Z2 y 0 t c q b bc n ar fi rn T) H := hP
  have hD : va_D A (zW Y Z Z2 y 0 t c q b bc n ar fi rn T) := hD
  refine lv_iload_n hx hb dX5_weir_5 rfl (lv_at hl 1 rfl) ?_
  refine lv_iconst (v := 0) hx hb dX5_weir_6 (by decide) ?_
  refine lv_bipush (v := 39) hx hb dX5_weir_7 (by decide) ?_
  refine zcRS (As := [.int x0, .int 0, .int 39]) (rest := []) (st1 := [.int (zb (inB 0 x0 39))]) ⟨hx, hb, hml, hown, hts⟩ (c_X5_isIn l D y x0 0 39) (cwS 3 hts gX5_weir_X5_isIn rfl rfl rfl (by decide +kernel) ⟨Nat.le_of_ble_eq_true rfl, Nat.le_of_ble_eq_true rfl⟩) hK va_P_nil rfl hl.1 rfl (lv_room (Nat.le_of_ble_eq_true rfl)) dX5_weir_9 ⟨Nat.le_of_ble_eq_true rfl, Nat.le_of_ble_eq_true rfl⟩ rfl ?_
  refine lv_if_eq (tgt := 35) hx hb dX5_weir_12 (by decide) (fun c1 => ?_) (fun c1 => ?_)
  · exact absurd (zb_f c1) (by rw [h1]; decide)
  · have c1 := c1
    refine lv_iload_n hx hb dX5_weir_15 rfl (lv_at hl 2 rfl) ?_
    refine lv_iconst (v := 1) hx hb dX5_weir_16 (by decide) ?_
    refine lv_bipush (v := 30) hx hb dX5_weir_17 (by decide) ?_
    refine zcRS (As := [.int x1, .int 1, .int 30]) (rest := []) (st1 := [.int (zb (inB 1 x1 30))]) ⟨hx, hb, hml, hown, hts⟩ (c_X5_isIn l D y x1 1 30) (cwS 3 hts gX5_weir_X5_isIn rfl rfl rfl (by decide +kernel) ⟨Nat.le_of_ble_eq_true rfl, Nat.le_of_ble_eq_true rfl⟩) hK va_P_nil rfl hl.1 rfl (lv_room (Nat.le_of_ble_eq_true rfl)) dX5_weir_19 ⟨Nat.le_of_ble_eq_true rfl, Nat.le_of_ble_eq_true rfl⟩ rfl ?_
    refine lv_if_eq (tgt := 35) hx hb dX5_weir_22 (by decide) (fun c2 => ?_) (fun c2 => ?_)
    · exact absurd (zb_f c2) (by rw [h2]; decide)
    · have c2 := c2
      refine lv_iload_n hx hb dX5_weir_25 rfl (lv_at hl 3 rfl) ?_
      refine lv_iconst (v := 0) hx hb dX5_weir_26 (by decide) ?_
      refine lv_bipush (v := 50) hx hb dX5_weir_27 (by decide) ?_
      refine zcRS (As := [.int x2, .int 0, .int 50]) (rest := []) (st1 := [.int (zb (inB 0 x2 50))]) ⟨hx, hb, hml, hown, hts⟩ (c_X5_isIn l D y x2 0 50) (cwS 3 hts gX5_weir_X5_isIn rfl rfl rfl (by decide +kernel) ⟨Nat.le_of_ble_eq_true rfl, Nat.le_of_ble_eq_true rfl⟩) hK va_P_nil rfl hl.1 rfl (lv_room (Nat.le_of_ble_eq_true rfl)) dX5_weir_29 ⟨Nat.le_of_ble_eq_true rfl, Nat.le_of_ble_eq_true rfl⟩ rfl ?_
      refine lv_if_ne (tgt := 41) hx hb dX5_weir_32 (by decide) (fun c3 => ?_) (fun c3 => ?_)
      · have c3 := c3
        refine lv_aload_n hx hb dX5_weir_41 rfl (lv_at hl 0 rfl) ?_
        refine va_get (D := D) (ci := 5) (v := .int (nI c)) (C := RX5) (T := TX5) (N := 7) hx hb hts hinX5 hown hK hP (0) rfl rfl 2 (by decide) hf35 (fun _ h9 => h9) rfl dX5_weir_42 ?_
        refine lv_bipush (v := 6) hx hb dX5_weir_45 (by decide) ?_
        refine lv_icmp_ne (tgt := 56) hx hb dX5_weir_47 (by decide) (fun c4 => ?_) (fun c4 => ?_)
        · have d4 := c4
          refine lv_aload_n hx hb dX5_weir_56 rfl (lv_at hl 0 rfl) ?_
          refine va_get (D := D) (ci := 5) (v := .ref (Y 2)) (C := RX5) (T := TX5) (N := 7) hx hb hts hinX5 hown hK hP (0) rfl rfl 3 (by decide) hf13 (fun _ h9 => h9) rfl dX5_weir_57 ?_
          refine lv_aload_n hx hb dX5_weir_60 rfl (lv_at hl 0 rfl) ?_
          refine va_get (D := D) (ci := 5) (v := .int (nI c)) (C := RX5) (T := TX5) (N := 7) hx hb hts hinX5 hown hK hP (0) rfl rfl 2 (by decide) hf35 (fun _ h9 => h9) rfl dX5_weir_61 ?_
          refine lv_iload_n hx hb dX5_weir_64 rfl (lv_at hl 1 rfl) ?_
          refine z_ast hx hb hK hP hD hS 2 (f := q 0) rfl c rfl (by omega) (by decide) (zW_q0 (k := c)) dX5_weir_65 (fun H locs hP hD hS => ?_)
          have hP : va_P D vwCl (zW Y Z Z2 y 0 t c (up2 q 0 c x0) b bc n ar fi rn T) H := hP
          have hD : va_D A (zW Y Z Z2 y 0 t c (up2 q 0 c x0) b bc n ar fi rn T) := hD
          refine lv_aload_n hx hb dX5_weir_66 rfl (lv_at hl 0 rfl) ?_
          refine va_get (D := D) (ci := 5) (v := .ref (Y 3)) (C := RX5) (T := TX5) (N := 7) hx hb hts hinX5 hown hK hP (0) rfl rfl 4 (by decide) hf16 (fun _ h9 => h9) rfl dX5_weir_67 ?_
          refine lv_aload_n hx hb dX5_weir_70 rfl (lv_at hl 0 rfl) ?_
          refine va_get (D := D) (ci := 5) (v := .int (nI c)) (C := RX5) (T := TX5) (N := 7) hx hb hts hinX5 hown hK hP (0) rfl rfl 2 (by decide) hf35 (fun _ h9 => h9) rfl dX5_weir_71 ?_
          refine lv_iload_n hx hb dX5_weir_74 rfl (lv_at hl 3 rfl) ?_
          refine z_ast hx hb hK hP hD hS 3 (f := (up2 q 0 c x0) 3) rfl c rfl (by omega) (by decide) (zW_q3 (k := c)) dX5_weir_75 (fun H locs hP hD hS => ?_)
          have hP : va_P D vwCl (zW Y Z Z2 y 0 t c (up2 (up2 q 0 c x0) 3 c x2) b bc n ar fi rn T) H := hP
          have hD : va_D A (zW Y Z Z2 y 0 t c (up2 (up2 q 0 c x0) 3 c x2) b bc n ar fi rn T) := hD
          refine lv_aload_n hx hb dX5_weir_76 rfl (lv_at hl 0 rfl) ?_
          refine va_get (D := D) (ci := 5) (v := .ref (Z 0)) (C := RX5) (T := TX5) (N := 7) hx hb hts hinX5 hown hK hP (0) rfl rfl 5 (by decide) hf24 (fun _ h9 => h9) rfl dX5_weir_77 ?_
          refine va_getN (D := D) (ci := 4) (v := .ref (Z 1)) (C := RX4) (T := TX4) (N := 16) hx hb hts hinX4 hown hK hP (4) rfl rfl 1 (by decide) hf49 (fun _ h9 => h9) rfl dX5_weir_80 ?_
          refine lv_aload_n hx hb dX5_weir_83 rfl (lv_at hl 0 rfl) ?_
          refine va_get (D := D) (ci := 5) (v := .int (nI c)) (C := RX5) (T := TX5) (N := 7) hx hb hts hinX5 hown hK hP (0) rfl rfl 2 (by decide) hf35 (fun _ h9 => h9) rfl dX5_weir_84 ?_
          refine lv_iload_n hx hb dX5_weir_87 rfl (lv_at hl 2 rfl) ?_
          refine z_ast hx hb hK hP hD hS 5 (f := (up2 (up2 q 0 c x0) 3 c x2) 1) rfl c rfl (by omega) (by decide) (zW_q1 (k := c)) dX5_weir_88 (fun H locs hP hD hS => ?_)
          have hP : va_P D vwCl (zW Y Z Z2 y 0 t c (up2 (up2 (up2 q 0 c x0) 3 c x2) 1 c x1) b bc n ar fi rn T) H := hP
          have hD : va_D A (zW Y Z Z2 y 0 t c (up2 (up2 (up2 q 0 c x0) 3 c x2) 1 c x1) b bc n ar fi rn T) := hD
          refine lv_aload_n hx hb dX5_weir_89 rfl (lv_at hl 0 rfl) ?_
          refine va_get (D := D) (ci := 5) (v := .ref (Z 0)) (C := RX5) (T := TX5) (N := 7) hx hb hts hinX5 hown hK hP (0) rfl rfl 5 (by decide) hf24 (fun _ h9 => h9) rfl dX5_weir_90 ?_
          refine va_getN (D := D) (ci := 4) (v := .ref (Z 2)) (C := RX4) (T := TX4) (N := 16) hx hb hts hinX4 hown hK hP (4) rfl rfl 2 (by decide) hf52 (fun _ h9 => h9) rfl dX5_weir_93 ?_
          refine lv_aload_n hx hb dX5_weir_96 rfl (lv_at hl 0 rfl) ?_
          refine va_get (D := D) (ci := 5) (v := .int (nI c)) (C := RX5) (T := TX5) (N := 7) hx hb hts hinX5 hown hK hP (0) rfl rfl 2 (by decide) hf35 (fun _ h9 => h9) rfl dX5_weir_97 ?_
          refine lv_bipush (v := 100) hx hb dX5_weir_100 (by decide) ?_
          refine z_ast hx hb hK hP hD hS 6 (f := (up2 (up2 (up2 q 0 c x0) 3 c x2) 1 c x1) 2) rfl c rfl (by omega) (by decide) (zW_q2 (k := c)) dX5_weir_102 (fun H locs hP hD hS => ?_)
          have hP : va_P D vwCl (zW Y Z Z2 y 0 t c (up2 (up2 (up2 (up2 q 0 c x0) 3 c x2) 1 c x1) 2 c 100) b bc n ar fi rn T) H := hP
          have hD : va_D A (zW Y Z Z2 y 0 t c (up2 (up2 (up2 (up2 q 0 c x0) 3 c x2) 1 c x1) 2 c 100) b bc n ar fi rn T) := hD
          refine lv_aload_n hx hb dX5_weir_103 rfl (lv_at hl 0 rfl) ?_
          refine va_get (D := D) (ci := 5) (v := .ref (Z 0)) (C := RX5) (T := TX5) (N := 7) hx hb hts hinX5 hown hK hP (0) rfl rfl 5 (by decide) hf24 (fun _ h9 => h9) rfl dX5_weir_104 ?_
          refine va_getN (D := D) (ci := 4) (v := .ref (Z 3)) (C := RX4) (T := TX4) (N := 16) hx hb hts hinX4 hown hK hP (4) rfl rfl 3 (by decide) hf55 (fun _ h9 => h9) rfl dX5_weir_107 ?_
          refine lv_aload_n hx hb dX5_weir_110 rfl (lv_at hl 0 rfl) ?_
          refine va_get (D := D) (ci := 5) (v := .int (nI c)) (C := RX5) (T := TX5) (N := 7) hx hb hts hinX5 hown hK hP (0) rfl rfl 2 (by decide) hf35 (fun _ h9 => h9) rfl dX5_weir_111 ?_
          refine lv_bipush (v := 20) hx hb dX5_weir_114 (by decide) ?_
          refine z_ast hx hb hK hP hD hS 7 (f := (up2 (up2 (up2 (up2 q 0 c x0) 3 c x2) 1 c x1) 2 c 100) 4) rfl c rfl (by omega) (by decide) (zW_q4 (k := c)) dX5_weir_116 (fun H locs hP hD hS => ?_)
          have hP : va_P D vwCl (zW Y Z Z2 y 0 t c (up2 (up2 (up2 (up2 (up2 q 0 c x0) 3 c x2) 1 c x1) 2 c 100) 4 c 20) b bc n ar fi rn T) H := hP
          have hD : va_D A (zW Y Z Z2 y 0 t c (up2 (up2 (up2 (up2 (up2 q 0 c x0) 3 c x2) 1 c x1) 2 c 100) 4 c 20) b bc n ar fi rn T) := hD
          refine lv_aload_n hx hb dX5_weir_117 rfl (lv_at hl 0 rfl) ?_
          refine lv_dup hx hb dX5_weir_118 rfl ?_
          refine va_get (D := D) (ci := 5) (v := .int (nI c)) (C := RX5) (T := TX5) (N := 7) hx hb hts hinX5 hown hK hP (0) rfl rfl 2 (by decide) hf35 (fun _ h9 => h9) rfl dX5_weir_119 ?_
          refine lv_iconst (v := 1) hx hb dX5_weir_122 (by decide) ?_
          refine lv_iadd hx hb dX5_weir_123 ?_
          refine zt_i (x' := nI (c + 1)) (nI_1 _) ?_
          refine va_put (D := D) (ci := 5) (v := .int (nI (c + 1))) (ty := .int) (C := RX5) (T := TX5) (N := 7) hx hb hts hinX5 tyX5 tyX5_ok nmX5 hown hK hP hD hS (0) rfl rfl 2 (by decide) hf35 (fun _ h9 => h9) rfl (by decide +kernel) rfl rfl (Nat.le_of_ble_eq_true rfl) dX5_weir_124 (fun H locs hP hD hS => ?_)
          have hP : va_P D vwCl (zW Y Z Z2 y 0 t (c + 1) (up2 (up2 (up2 (up2 (up2 q 0 c x0) 3 c x2) 1 c x1) 2 c 100) 4 c 20) b bc n ar fi rn T) H := hP
          have hD : va_D A (zW Y Z Z2 y 0 t (c + 1) (up2 (up2 (up2 (up2 (up2 q 0 c x0) 3 c x2) 1 c x1) 2 c 100) 4 c 20) b bc n ar fi rn T) := hD
          refine lv_aload_n hx hb dX5_weir_127 rfl (lv_at hl 0 rfl) ?_
          refine va_get (D := D) (ci := 5) (v := .int (nI (c + 1))) (C := RX5) (T := TX5) (N := 7) hx hb hts hinX5 hown hK hP (0) rfl rfl 2 (by decide) hf35 (fun _ h9 => h9) rfl dX5_weir_128 ?_
          refine lv_iconst (v := 1) hx hb dX5_weir_131 (by decide) ?_
          refine lv_isub hx hb dX5_weir_132 ?_
          refine zt_i (x' := nI c) (nI_pred _) ?_
          exact zM_i hx hb hr hlocks hS dX5_weir_133 rfl hP
        · exact absurd c4 (nI_ne (a := c) (b := 6) (by omega) (by omega) (by omega))
      · exact absurd (zb_f c3) (by rw [h3]; decide)
set_option maxHeartbeats 1000000 in
set_option maxRecDepth 100000 in
theorem c_X5_weir_N1 (l : Launch) (D : va_G) (y : Nat → ClassId) (Y Z Z2 : Nat → Nat) (th : Int32) (t : Nat → Int32) (c : Nat) (q b : Fld) (bc n : Nat) (ar fi rn : Int32) (T : Nst) (x0 x1 x2 : Int32) (hw : (inB 0 x0 39 && inB 1 x1 30 && inB 0 x2 50) = false) (sz : Nat) : zMN l yX5_weir wsX5_weir { frames := 1, cells := 0, slots := 0, locals := 22 } D y [.ref (Y 0), .int x0, .int x1, .int x2] (zW Y Z Z2 y th t c q b bc n ar fi rn T) sz (some (.int 0)) (zW Y Z Z2 y 1 t c q b bc n ar fi rn T) 0 0 := by
  refine zMN.of (cc := cX5_weir) (maxL := 4) (ret := (some .int)) (own := RX5) (by decide) rfl (Nat.le_of_ble_eq_true rfl) rfl ?_
  intro p e s m args below meth cd ls A H locs hx hb hr hml hown hts hlocks hP hK hD hA hS hN hl hin
  have hS0 := hS
  have hl : lv_has ls 4 [(0, .ref (Y 0)), (1, .int x0), (2, .int x1), (3, .int x2)] := hl
  have hf31 : (Cond.fieldLink RX5 31 "StakeWeirsModel" "thrown" "I").before args s = true := hts _ (by decide +kernel)
  have hinX5 : ∀ w ∈ wsX50, w ∈ wsX5_weir := by decide +kernel
  refine lv_aload_n hx hb dX5_weir_0 rfl (lv_at hl 0 rfl) ?_
  refine lv_iconst (v := 0) hx hb dX5_weir_1 (by decide) ?_
  refine va_put (D := D) (ci := 5) (v := .int 0) (ty := .int) (C := RX5) (T := TX5) (N := 7) hx hb hts hinX5 tyX5 tyX5_ok nmX5 hown hK hP hD hS (0) rfl rfl 0 (by decide) hf31 (fun _ h9 => h9) rfl (by decide +kernel) rfl rfl (Nat.le_of_ble_eq_true rfl) dX5_weir_2 (fun H locs hP hD hS => ?_)
  have hP : va_P D vwCl (zW Y Z Z2 y 0 t c q b bc n ar fi rn T) H := hP
  have hD : va_D A (zW Y Z Z2 y 0 t c q b bc n ar fi rn T) := hD
  refine lv_iload_n hx hb dX5_weir_5 rfl (lv_at hl 1 rfl) ?_
  refine lv_iconst (v := 0) hx hb dX5_weir_6 (by decide) ?_
  refine lv_bipush (v := 39) hx hb dX5_weir_7 (by decide) ?_
  refine zcRS (As := [.int x0, .int 0, .int 39]) (rest := []) (st1 := [.int (zb (inB 0 x0 39))]) ⟨hx, hb, hml, hown, hts⟩ (c_X5_isIn l D y x0 0 39) (cwS 3 hts gX5_weir_X5_isIn rfl rfl rfl (by decide +kernel) ⟨Nat.le_of_ble_eq_true rfl, Nat.le_of_ble_eq_true rfl⟩) hK va_P_nil rfl hl.1 rfl (lv_room (Nat.le_of_ble_eq_true rfl)) dX5_weir_9 ⟨Nat.le_of_ble_eq_true rfl, Nat.le_of_ble_eq_true rfl⟩ rfl ?_
  refine lv_if_eq (tgt := 35) hx hb dX5_weir_12 (by decide) (fun c1 => ?_) (fun c1 => ?_)
  · have c1 : inB 0 x0 39 = false := zb_f c1
    refine lv_aload_n hx hb dX5_weir_35 rfl (lv_at hl 0 rfl) ?_
    refine lv_iconst (v := 1) hx hb dX5_weir_36 (by decide) ?_
    refine zcMV (As := [.int 1]) (rest := []) (st1 := [.int 0]) (cells1 := 0) (slots1 := 0) ⟨hx, hb, hml, hown, hts⟩ (c_X5_no l D y Y Z Z2 0 t c q b bc n ar fi rn T 1 _) (cwV 1 hts gX5_weir_X5_no rfl rfl rfl (by decide +kernel) ⟨Nat.le_of_ble_eq_true rfl, Nat.le_of_ble_eq_true rfl⟩) hK hP (z_D_T hD) (ci := 5) (q0 := 0) rfl rfl rfl rfl hl.1 rfl (lv_room (Nat.le_of_ble_eq_true rfl)) dX5_weir_37 hS (z_sub_F hD hS hA z_in_r) ⟨Nat.le_of_ble_eq_true rfl, Nat.le_of_ble_eq_true rfl⟩ rfl rfl rfl (fun H locs hP1 hz hfr hS => ?_)
    have hD := z_D_adr hD (show (zW Y Z Z2 y 1 t c q b bc n ar fi rn T).map Prod.fst = _ from rfl)
    have hP := hP1
    exact zM_i hx hb hr hlocks hS dX5_weir_40 rfl hP
  · have c1 : inB 0 x0 39 = true := zb_t c1
    refine lv_iload_n hx hb dX5_weir_15 rfl (lv_at hl 2 rfl) ?_
    refine lv_iconst (v := 1) hx hb dX5_weir_16 (by decide) ?_
    refine lv_bipush (v := 30) hx hb dX5_weir_17 (by decide) ?_
    refine zcRS (As := [.int x1, .int 1, .int 30]) (rest := []) (st1 := [.int (zb (inB 1 x1 30))]) ⟨hx, hb, hml, hown, hts⟩ (c_X5_isIn l D y x1 1 30) (cwS 3 hts gX5_weir_X5_isIn rfl rfl rfl (by decide +kernel) ⟨Nat.le_of_ble_eq_true rfl, Nat.le_of_ble_eq_true rfl⟩) hK va_P_nil rfl hl.1 rfl (lv_room (Nat.le_of_ble_eq_true rfl)) dX5_weir_19 ⟨Nat.le_of_ble_eq_true rfl, Nat.le_of_ble_eq_true rfl⟩ rfl ?_
    refine lv_if_eq (tgt := 35) hx hb dX5_weir_22 (by decide) (fun c2 => ?_) (fun c2 => ?_)
    · have c2 : inB 1 x1 30 = false := zb_f c2
      refine lv_aload_n hx hb dX5_weir_35 rfl (lv_at hl 0 rfl) ?_
      refine lv_iconst (v := 1) hx hb dX5_weir_36 (by decide) ?_
      refine zcMV (As := [.int 1]) (rest := []) (st1 := [.int 0]) (cells1 := 0) (slots1 := 0) ⟨hx, hb, hml, hown, hts⟩ (c_X5_no l D y Y Z Z2 0 t c q b bc n ar fi rn T 1 _) (cwV 1 hts gX5_weir_X5_no rfl rfl rfl (by decide +kernel) ⟨Nat.le_of_ble_eq_true rfl, Nat.le_of_ble_eq_true rfl⟩) hK hP (z_D_T hD) (ci := 5) (q0 := 0) rfl rfl rfl rfl hl.1 rfl (lv_room (Nat.le_of_ble_eq_true rfl)) dX5_weir_37 hS (z_sub_F hD hS hA z_in_r) ⟨Nat.le_of_ble_eq_true rfl, Nat.le_of_ble_eq_true rfl⟩ rfl rfl rfl (fun H locs hP1 hz hfr hS => ?_)
      have hD := z_D_adr hD (show (zW Y Z Z2 y 1 t c q b bc n ar fi rn T).map Prod.fst = _ from rfl)
      have hP := hP1
      exact zM_i hx hb hr hlocks hS dX5_weir_40 rfl hP
    · have c2 : inB 1 x1 30 = true := zb_t c2
      refine lv_iload_n hx hb dX5_weir_25 rfl (lv_at hl 3 rfl) ?_
      refine lv_iconst (v := 0) hx hb dX5_weir_26 (by decide) ?_
      refine lv_bipush (v := 50) hx hb dX5_weir_27 (by decide) ?_
      refine zcRS (As := [.int x2, .int 0, .int 50]) (rest := []) (st1 := [.int (zb (inB 0 x2 50))]) ⟨hx, hb, hml, hown, hts⟩ (c_X5_isIn l D y x2 0 50) (cwS 3 hts gX5_weir_X5_isIn rfl rfl rfl (by decide +kernel) ⟨Nat.le_of_ble_eq_true rfl, Nat.le_of_ble_eq_true rfl⟩) hK va_P_nil rfl hl.1 rfl (lv_room (Nat.le_of_ble_eq_true rfl)) dX5_weir_29 ⟨Nat.le_of_ble_eq_true rfl, Nat.le_of_ble_eq_true rfl⟩ rfl ?_
      refine lv_if_ne (tgt := 41) hx hb dX5_weir_32 (by decide) (fun c3 => ?_) (fun c3 => ?_)
      · have c3 : inB 0 x2 50 = true := zb_t c3
        refine lv_aload_n hx hb dX5_weir_41 rfl (lv_at hl 0 rfl) ?_
        exact absurd hw (by rw [c1, c2, c3]; decide)
      · have c3 : inB 0 x2 50 = false := zb_f c3
        refine lv_aload_n hx hb dX5_weir_35 rfl (lv_at hl 0 rfl) ?_
        refine lv_iconst (v := 1) hx hb dX5_weir_36 (by decide) ?_
        refine zcMV (As := [.int 1]) (rest := []) (st1 := [.int 0]) (cells1 := 0) (slots1 := 0) ⟨hx, hb, hml, hown, hts⟩ (c_X5_no l D y Y Z Z2 0 t c q b bc n ar fi rn T 1 _) (cwV 1 hts gX5_weir_X5_no rfl rfl rfl (by decide +kernel) ⟨Nat.le_of_ble_eq_true rfl, Nat.le_of_ble_eq_true rfl⟩) hK hP (z_D_T hD) (ci := 5) (q0 := 0) rfl rfl rfl rfl hl.1 rfl (lv_room (Nat.le_of_ble_eq_true rfl)) dX5_weir_37 hS (z_sub_F hD hS hA z_in_r) ⟨Nat.le_of_ble_eq_true rfl, Nat.le_of_ble_eq_true rfl⟩ rfl rfl rfl (fun H locs hP1 hz hfr hS => ?_)
        have hD := z_D_adr hD (show (zW Y Z Z2 y 1 t c q b bc n ar fi rn T).map Prod.fst = _ from rfl)
        have hP := hP1
        exact zM_i hx hb hr hlocks hS dX5_weir_40 rfl hP
set_option maxHeartbeats 1000000 in
set_option maxRecDepth 100000 in
theorem c_X5_weir_N2 (l : Launch) (D : va_G) (y : Nat → ClassId) (Y Z Z2 : Nat → Nat) (th : Int32) (t : Nat → Int32) (c : Nat) (q b : Fld) (bc n : Nat) (ar fi rn : Int32) (T : Nst) (x0 x1 x2 : Int32) (h1 : inB 0 x0 39 = true) (h2 : inB 1 x1 30 = true) (h3 : inB 0 x2 50 = true) (hc : c = 6) (sz : Nat) : zMN l yX5_weir wsX5_weir { frames := 1, cells := 0, slots := 0, locals := 22 } D y [.ref (Y 0), .int x0, .int x1, .int x2] (zW Y Z Z2 y th t c q b bc n ar fi rn T) sz (some (.int 0)) (zW Y Z Z2 y 2 t c q b bc n ar fi rn T) 0 0 := by
  refine zMN.of (cc := cX5_weir) (maxL := 4) (ret := (some .int)) (own := RX5) (by decide) rfl (Nat.le_of_ble_eq_true rfl) rfl ?_
  intro p e s m args below meth cd ls A H locs hx hb hr hml hown hts hlocks hP hK hD hA hS hN hl hin
  have hS0 := hS
  have hl : lv_has ls 4 [(0, .ref (Y 0)), (1, .int x0), (2, .int x1), (3, .int x2)] := hl
  have hf31 : (Cond.fieldLink RX5 31 "StakeWeirsModel" "thrown" "I").before args s = true := hts _ (by decide +kernel)
  have hinX5 : ∀ w ∈ wsX50, w ∈ wsX5_weir := by decide +kernel
  have hf35 : (Cond.fieldLink RX5 35 "StakeWeirsModel" "weirs" "I").before args s = true := hts _ (by decide +kernel)
  refine lv_aload_n hx hb dX5_weir_0 rfl (lv_at hl 0 rfl) ?_
  refine lv_iconst (v := 0) hx hb dX5_weir_1 (by decide) ?_
  refine va_put (D := D) (ci := 5) (v := .int 0) (ty := .int) (C := RX5) (T := TX5) (N := 7) hx hb hts hinX5 tyX5 tyX5_ok nmX5 hown hK hP hD hS (0) rfl rfl 0 (by decide) hf31 (fun _ h9 => h9) rfl (by decide +kernel) rfl rfl (Nat.le_of_ble_eq_true rfl) dX5_weir_2 (fun H locs hP hD hS => ?_)
  have hP : va_P D vwCl (zW Y Z Z2 y 0 t c q b bc n ar fi rn T) H := hP
  have hD : va_D A (zW Y Z Z2 y 0 t c q b bc n ar fi rn T) := hD
  refine lv_iload_n hx hb dX5_weir_5 rfl (lv_at hl 1 rfl) ?_
  refine lv_iconst (v := 0) hx hb dX5_weir_6 (by decide) ?_
  refine lv_bipush (v := 39) hx hb dX5_weir_7 (by decide) ?_
  refine zcRS (As := [.int x0, .int 0, .int 39]) (rest := []) (st1 := [.int (zb (inB 0 x0 39))]) ⟨hx, hb, hml, hown, hts⟩ (c_X5_isIn l D y x0 0 39) (cwS 3 hts gX5_weir_X5_isIn rfl rfl rfl (by decide +kernel) ⟨Nat.le_of_ble_eq_true rfl, Nat.le_of_ble_eq_true rfl⟩) hK va_P_nil rfl hl.1 rfl (lv_room (Nat.le_of_ble_eq_true rfl)) dX5_weir_9 ⟨Nat.le_of_ble_eq_true rfl, Nat.le_of_ble_eq_true rfl⟩ rfl ?_
  refine lv_if_eq (tgt := 35) hx hb dX5_weir_12 (by decide) (fun c1 => ?_) (fun c1 => ?_)
  · exact absurd (zb_f c1) (by rw [h1]; decide)
  · have c1 := c1
    refine lv_iload_n hx hb dX5_weir_15 rfl (lv_at hl 2 rfl) ?_
    refine lv_iconst (v := 1) hx hb dX5_weir_16 (by decide) ?_
    refine lv_bipush (v := 30) hx hb dX5_weir_17 (by decide) ?_
    refine zcRS (As := [.int x1, .int 1, .int 30]) (rest := []) (st1 := [.int (zb (inB 1 x1 30))]) ⟨hx, hb, hml, hown, hts⟩ (c_X5_isIn l D y x1 1 30) (cwS 3 hts gX5_weir_X5_isIn rfl rfl rfl (by decide +kernel) ⟨Nat.le_of_ble_eq_true rfl, Nat.le_of_ble_eq_true rfl⟩) hK va_P_nil rfl hl.1 rfl (lv_room (Nat.le_of_ble_eq_true rfl)) dX5_weir_19 ⟨Nat.le_of_ble_eq_true rfl, Nat.le_of_ble_eq_true rfl⟩ rfl ?_
    refine lv_if_eq (tgt := 35) hx hb dX5_weir_22 (by decide) (fun c2 => ?_) (fun c2 => ?_)
    · exact absurd (zb_f c2) (by rw [h2]; decide)
    · have c2 := c2
      refine lv_iload_n hx hb dX5_weir_25 rfl (lv_at hl 3 rfl) ?_
      refine lv_iconst (v := 0) hx hb dX5_weir_26 (by decide) ?_
      refine lv_bipush (v := 50) hx hb dX5_weir_27 (by decide) ?_
      refine zcRS (As := [.int x2, .int 0, .int 50]) (rest := []) (st1 := [.int (zb (inB 0 x2 50))]) ⟨hx, hb, hml, hown, hts⟩ (c_X5_isIn l D y x2 0 50) (cwS 3 hts gX5_weir_X5_isIn rfl rfl rfl (by decide +kernel) ⟨Nat.le_of_ble_eq_true rfl, Nat.le_of_ble_eq_true rfl⟩) hK va_P_nil rfl hl.1 rfl (lv_room (Nat.le_of_ble_eq_true rfl)) dX5_weir_29 ⟨Nat.le_of_ble_eq_true rfl, Nat.le_of_ble_eq_true rfl⟩ rfl ?_
      refine lv_if_ne (tgt := 41) hx hb dX5_weir_32 (by decide) (fun c3 => ?_) (fun c3 => ?_)
      · have c3 := c3
        refine lv_aload_n hx hb dX5_weir_41 rfl (lv_at hl 0 rfl) ?_
        refine va_get (D := D) (ci := 5) (v := .int (nI c)) (C := RX5) (T := TX5) (N := 7) hx hb hts hinX5 hown hK hP (0) rfl rfl 2 (by decide) hf35 (fun _ h9 => h9) rfl dX5_weir_42 ?_
        refine lv_bipush (v := 6) hx hb dX5_weir_45 (by decide) ?_
        refine lv_icmp_ne (tgt := 56) hx hb dX5_weir_47 (by decide) (fun c4 => ?_) (fun c4 => ?_)
        · exact absurd c4 (fun h9 => h9 (by rw [hc]; rfl))
        · have d4 := c4
          refine lv_aload_n hx hb dX5_weir_50 rfl (lv_at hl 0 rfl) ?_
          refine lv_iconst (v := 2) hx hb dX5_weir_51 (by decide) ?_
          refine zcMV (As := [.int 2]) (rest := []) (st1 := [.int 0]) (cells1 := 0) (slots1 := 0) ⟨hx, hb, hml, hown, hts⟩ (c_X5_no l D y Y Z Z2 0 t c q b bc n ar fi rn T 2 _) (cwV 1 hts gX5_weir_X5_no rfl rfl rfl (by decide +kernel) ⟨Nat.le_of_ble_eq_true rfl, Nat.le_of_ble_eq_true rfl⟩) hK hP (z_D_T hD) (ci := 5) (q0 := 0) rfl rfl rfl rfl hl.1 rfl (lv_room (Nat.le_of_ble_eq_true rfl)) dX5_weir_52 hS (z_sub_F hD hS hA z_in_r) ⟨Nat.le_of_ble_eq_true rfl, Nat.le_of_ble_eq_true rfl⟩ rfl rfl rfl (fun H locs hP1 hz hfr hS => ?_)
          have hD := z_D_adr hD (show (zW Y Z Z2 y 2 t c q b bc n ar fi rn T).map Prod.fst = _ from rfl)
          have hP := hP1
          exact zM_i hx hb hr hlocks hS dX5_weir_55 rfl hP
      · exact absurd (zb_f c3) (by rw [h3]; decide)
set_option maxHeartbeats 1000000 in
set_option maxRecDepth 100000 in
theorem c_X5_gate (l : Launch) (D : va_G) (y : Nat → ClassId) (Y Z Z2 : Nat → Nat) (th : Int32) (t : Nat → Int32) (c : Nat) (q b : Fld) (bc n : Nat) (ar fi rn : Int32) (T : Nst) (k : Nat) (hk : k < c) (hh : heldB q k = true) (hc : c ≤ 6) (sz : Nat) : zMN l yX5_gate wsX5_gate { frames := 2, cells := 0, slots := 0, locals := 43 } D y [.ref (Y 0), .int (nI k)] (zW Y Z Z2 y th t c q b bc n ar fi rn T) sz (some (.int (if 1 - q 6 k = 1 then 1 else 0))) (zW Y Z Z2 y 0 t c (up2 q 6 k (1 - q 6 k)) b bc n ar fi rn T) 0 0 := by
  refine zMN.of (cc := cX5_gate) (maxL := 2) (ret := (some .boolean)) (own := RX5) (by decide) rfl (Nat.le_of_ble_eq_true rfl) rfl ?_
  intro p e s m args below meth cd ls A H locs hx hb hr hml hown hts hlocks hP hK hD hA hS hN hl hin
  have hS0 := hS
  have hl : lv_has ls 2 [(0, .ref (Y 0)), (1, .int (nI k))] := hl
  have hf24 : (Cond.fieldLink RX5 24 "StakeWeirsModel" "s" "LStakeWeirsModel$State;").before args s = true := hts _ (by decide +kernel)
  have hinX5 : ∀ w ∈ wsX50, w ∈ wsX5_gate := by decide +kernel
  have hf31 : (Cond.fieldLink RX5 31 "StakeWeirsModel" "thrown" "I").before args s = true := hts _ (by decide +kernel)
  have hf65 : (Cond.fieldLinkNest "StakeWeirsModel" 65 "StakeWeirsModel$State" "open" "[I" "StakeWeirsModel").before args s = true := va_Nw.use rfl (hN ("StakeWeirsModel", 65, "StakeWeirsModel$State", "open", "[I", "StakeWeirsModel") (by decide +kernel))
  have hinX4 : ∀ w ∈ wsX40, w ∈ wsX5_gate := by decide +kernel
  refine lv_aload_n hx hb dX5_gate_0 rfl (lv_at hl 0 rfl) ?_
  refine lv_aload_n hx hb dX5_gate_1 rfl (lv_at hl 0 rfl) ?_
  refine lv_iload_n hx hb dX5_gate_2 rfl (lv_at hl 1 rfl) ?_
  refine zcRV (As := [.int (nI k)]) (rest := [.ref (Y 0)]) (st1 := [.int (zb (inB 0 (nI k) (nI c - 1))), .ref (Y 0)]) ⟨hx, hb, hml, hown, hts⟩ (c_X5_isWeir l D y Y Z Z2 th t c q b bc n ar fi rn T (nI k)) (cwV 1 hts gX5_gate_X5_isWeir rfl rfl rfl (by decide +kernel) ⟨Nat.le_of_ble_eq_true rfl, Nat.le_of_ble_eq_true rfl⟩) hK hP (ci := 5) (q0 := 0) rfl rfl rfl rfl hl.1 rfl (lv_room (Nat.le_of_ble_eq_true rfl)) dX5_gate_3 ⟨Nat.le_of_ble_eq_true rfl, Nat.le_of_ble_eq_true rfl⟩ rfl ?_
  refine lv_if_ne (tgt := 13) hx hb dX5_gate_6 (by decide) (fun c1 => ?_) (fun c1 => ?_)
  · have c1 := c1
    refine lv_aload_n hx hb dX5_gate_13 rfl (lv_at hl 0 rfl) ?_
    refine va_get (D := D) (ci := 5) (v := .ref (Z 0)) (C := RX5) (T := TX5) (N := 7) hx hb hts hinX5 hown hK hP (0) rfl rfl 5 (by decide) hf24 (fun _ h9 => h9) rfl dX5_gate_14 ?_
    refine lv_iload_n hx hb dX5_gate_17 rfl (lv_at hl 1 rfl) ?_
    refine zcRV (As := [.int (nI k)]) (rest := [.ref (Y 0)]) (st1 := [.int (zb (heldB q k)), .ref (Y 0)]) ⟨hx, hb, hml, hown, hts⟩ (c_X4_isHeld l D y Y Z (Z 0) (Z2 0) th t c q b bc n ar fi rn k (by omega)) (cwV 1 hts gX5_gate_X4_isHeld rfl rfl rfl (by decide +kernel) ⟨Nat.le_of_ble_eq_true rfl, Nat.le_of_ble_eq_true rfl⟩) hK (zz_sP hP) (ci := 4) (q0 := 4) rfl rfl rfl rfl hl.1 rfl (lv_room (Nat.le_of_ble_eq_true rfl)) dX5_gate_18 ⟨Nat.le_of_ble_eq_true rfl, Nat.le_of_ble_eq_true rfl⟩ rfl ?_
    refine lv_if_eq (tgt := 28) hx hb dX5_gate_21 (by decide) (fun c2 => ?_) (fun c2 => ?_)
    · exact absurd (zb_f c2) (by rw [hh]; decide)
    · have c2 := c2
      refine lv_iconst (v := 0) hx hb dX5_gate_24 (by decide) ?_
      refine lv_goto (tgt := 29) hx hb dX5_gate_25 (by decide) ?_
      refine va_put (D := D) (ci := 5) (v := .int 0) (ty := .int) (C := RX5) (T := TX5) (N := 7) hx hb hts hinX5 tyX5 tyX5_ok nmX5 hown hK hP hD hS (0) rfl rfl 0 (by decide) hf31 (fun _ h9 => h9) rfl (by decide +kernel) rfl rfl (Nat.le_of_ble_eq_true rfl) dX5_gate_29 (fun H locs hP hD hS => ?_)
      have hP : va_P D vwCl (zW Y Z Z2 y 0 t c q b bc n ar fi rn T) H := hP
      have hD : va_D A (zW Y Z Z2 y 0 t c q b bc n ar fi rn T) := hD
      refine lv_aload_n hx hb dX5_gate_32 rfl (lv_at hl 0 rfl) ?_
      refine va_get (D := D) (ci := 5) (v := .int 0) (C := RX5) (T := TX5) (N := 7) hx hb hts hinX5 hown hK hP (0) rfl rfl 0 (by decide) hf31 (fun _ h9 => h9) rfl dX5_gate_33 ?_
      refine lv_if_eq (tgt := 41) hx hb dX5_gate_36 (by decide) (fun c3 => ?_) (fun c3 => ?_)
      · have d3 := c3
        refine lv_aload_n hx hb dX5_gate_41 rfl (lv_at hl 0 rfl) ?_
        refine va_get (D := D) (ci := 5) (v := .ref (Z 0)) (C := RX5) (T := TX5) (N := 7) hx hb hts hinX5 hown hK hP (0) rfl rfl 5 (by decide) hf24 (fun _ h9 => h9) rfl dX5_gate_42 ?_
        refine va_getN (D := D) (ci := 4) (v := .ref (Z 5)) (C := RX4) (T := TX4) (N := 16) hx hb hts hinX4 hown hK hP (4) rfl rfl 5 (by decide) hf65 (fun _ h9 => h9) rfl dX5_gate_45 ?_
        refine lv_iload_n hx hb dX5_gate_48 rfl (lv_at hl 1 rfl) ?_
        refine lv_iconst (v := 1) hx hb dX5_gate_49 (by decide) ?_
        refine lv_aload_n hx hb dX5_gate_50 rfl (lv_at hl 0 rfl) ?_
        refine va_get (D := D) (ci := 5) (v := .ref (Z 0)) (C := RX5) (T := TX5) (N := 7) hx hb hts hinX5 hown hK hP (0) rfl rfl 5 (by decide) hf24 (fun _ h9 => h9) rfl dX5_gate_51 ?_
        refine va_getN (D := D) (ci := 4) (v := .ref (Z 5)) (C := RX4) (T := TX4) (N := 16) hx hb hts hinX4 hown hK hP (4) rfl rfl 5 (by decide) hf65 (fun _ h9 => h9) rfl dX5_gate_54 ?_
        refine lv_iload_n hx hb dX5_gate_57 rfl (lv_at hl 1 rfl) ?_
        refine z_ald hx hb hK hP 9 (f := q 6) rfl k rfl (by omega) (by decide) dX5_gate_58 ?_
        refine lv_isub hx hb dX5_gate_59 ?_
        refine z_ast hx hb hK hP hD hS 9 (f := q 6) rfl k rfl (by omega) (by decide) (zW_q6 (k := k)) dX5_gate_60 (fun H locs hP hD hS => ?_)
        have hP : va_P D vwCl (zW Y Z Z2 y 0 t c (up2 q 6 k (1 - (q 6 k))) b bc n ar fi rn T) H := hP
        have hD : va_D A (zW Y Z Z2 y 0 t c (up2 q 6 k (1 - (q 6 k))) b bc n ar fi rn T) := hD
        refine lv_aload_n hx hb dX5_gate_61 rfl (lv_at hl 0 rfl) ?_
        refine va_get (D := D) (ci := 5) (v := .ref (Z 0)) (C := RX5) (T := TX5) (N := 7) hx hb hts hinX5 hown hK hP (0) rfl rfl 5 (by decide) hf24 (fun _ h9 => h9) rfl dX5_gate_62 ?_
        refine va_getN (D := D) (ci := 4) (v := .ref (Z 5)) (C := RX4) (T := TX4) (N := 16) hx hb hts hinX4 hown hK hP (4) rfl rfl 5 (by decide) hf65 (fun _ h9 => h9) rfl dX5_gate_65 ?_
        refine lv_iload_n hx hb dX5_gate_68 rfl (lv_at hl 1 rfl) ?_
        refine z_ald hx hb hK hP 9 (f := (up2 q 6 k (1 - (q 6 k))) 6) rfl k rfl (by omega) (by decide) dX5_gate_69 ?_
        refine zt_i (x' := (1 - (q 6 k))) (up2_s _ _ _ _) ?_
        refine lv_iconst (v := 1) hx hb dX5_gate_70 (by decide) ?_
        refine lv_icmp_ne (tgt := 78) hx hb dX5_gate_71 (by decide) (fun c4 => ?_) (fun c4 => ?_)
        · have d4 := c4
          refine lv_iconst (v := 0) hx hb dX5_gate_78 (by decide) ?_
          exact zM_z hx hb hr hlocks hS dX5_gate_79 (Or.inl rfl) (by simp [c4, d4]) hP
        · have d4 := c4
          refine lv_iconst (v := 1) hx hb dX5_gate_74 (by decide) ?_
          refine lv_goto (tgt := 79) hx hb dX5_gate_75 (by decide) ?_
          exact zM_z hx hb hr hlocks hS dX5_gate_79 (Or.inr rfl) (by simp [c4, d4]) hP
      · exact absurd (by decide) c3
  · exact absurd (zb_f c1) (by rw [(inW_t hk hc)]; decide)
set_option maxHeartbeats 1000000 in
set_option maxRecDepth 100000 in
theorem c_X5_gate_N1 (l : Launch) (D : va_G) (y : Nat → ClassId) (Y Z Z2 : Nat → Nat) (th : Int32) (t : Nat → Int32) (c : Nat) (q b : Fld) (bc n : Nat) (ar fi rn : Int32) (T : Nst) (x : Int32) (hx0 : x < 0 ∨ nI c ≤ x) (hc : c ≤ 6) (sz : Nat) : zMN l yX5_gate wsX5_gate { frames := 2, cells := 0, slots := 0, locals := 43 } D y [.ref (Y 0), .int x] (zW Y Z Z2 y th t c q b bc n ar fi rn T) sz (some (.int 0)) (zW Y Z Z2 y 1 t c q b bc n ar fi rn T) 0 0 := by
  refine zMN.of (cc := cX5_gate) (maxL := 2) (ret := (some .boolean)) (own := RX5) (by decide) rfl (Nat.le_of_ble_eq_true rfl) rfl ?_
  intro p e s m args below meth cd ls A H locs hx hb hr hml hown hts hlocks hP hK hD hA hS hN hl hin
  have hS0 := hS
  have hl : lv_has ls 2 [(0, .ref (Y 0)), (1, .int x)] := hl
  have hf31 : (Cond.fieldLink RX5 31 "StakeWeirsModel" "thrown" "I").before args s = true := hts _ (by decide +kernel)
  have hinX5 : ∀ w ∈ wsX50, w ∈ wsX5_gate := by decide +kernel
  refine lv_aload_n hx hb dX5_gate_0 rfl (lv_at hl 0 rfl) ?_
  refine lv_aload_n hx hb dX5_gate_1 rfl (lv_at hl 0 rfl) ?_
  refine lv_iload_n hx hb dX5_gate_2 rfl (lv_at hl 1 rfl) ?_
  refine zcRV (As := [.int x]) (rest := [.ref (Y 0)]) (st1 := [.int (zb (inB 0 x (nI c - 1))), .ref (Y 0)]) ⟨hx, hb, hml, hown, hts⟩ (c_X5_isWeir l D y Y Z Z2 th t c q b bc n ar fi rn T x) (cwV 1 hts gX5_gate_X5_isWeir rfl rfl rfl (by decide +kernel) ⟨Nat.le_of_ble_eq_true rfl, Nat.le_of_ble_eq_true rfl⟩) hK hP (ci := 5) (q0 := 0) rfl rfl rfl rfl hl.1 rfl (lv_room (Nat.le_of_ble_eq_true rfl)) dX5_gate_3 ⟨Nat.le_of_ble_eq_true rfl, Nat.le_of_ble_eq_true rfl⟩ rfl ?_
  refine lv_if_ne (tgt := 13) hx hb dX5_gate_6 (by decide) (fun c1 => ?_) (fun c1 => ?_)
  · exact absurd (zb_t c1) (by rw [(inW_f hx0 hc)]; decide)
  · have c1 := c1
    refine lv_iconst (v := 1) hx hb dX5_gate_9 (by decide) ?_
    refine lv_goto (tgt := 29) hx hb dX5_gate_10 (by decide) ?_
    refine va_put (D := D) (ci := 5) (v := .int 1) (ty := .int) (C := RX5) (T := TX5) (N := 7) hx hb hts hinX5 tyX5 tyX5_ok nmX5 hown hK hP hD hS (0) rfl rfl 0 (by decide) hf31 (fun _ h9 => h9) rfl (by decide +kernel) rfl rfl (Nat.le_of_ble_eq_true rfl) dX5_gate_29 (fun H locs hP hD hS => ?_)
    have hP : va_P D vwCl (zW Y Z Z2 y 1 t c q b bc n ar fi rn T) H := hP
    have hD : va_D A (zW Y Z Z2 y 1 t c q b bc n ar fi rn T) := hD
    refine lv_aload_n hx hb dX5_gate_32 rfl (lv_at hl 0 rfl) ?_
    refine va_get (D := D) (ci := 5) (v := .int 1) (C := RX5) (T := TX5) (N := 7) hx hb hts hinX5 hown hK hP (0) rfl rfl 0 (by decide) hf31 (fun _ h9 => h9) rfl dX5_gate_33 ?_
    refine lv_if_eq (tgt := 41) hx hb dX5_gate_36 (by decide) (fun c2 => ?_) (fun c2 => ?_)
    · exact absurd c2 (by decide)
    · have d2 := c2
      refine lv_iconst (v := 0) hx hb dX5_gate_39 (by decide) ?_
      exact zM_z hx hb hr hlocks hS dX5_gate_40 (Or.inl rfl) rfl hP
set_option maxHeartbeats 1000000 in
set_option maxRecDepth 100000 in
theorem c_X5_gate_N2 (l : Launch) (D : va_G) (y : Nat → ClassId) (Y Z Z2 : Nat → Nat) (th : Int32) (t : Nat → Int32) (c : Nat) (q b : Fld) (bc n : Nat) (ar fi rn : Int32) (T : Nst) (k : Nat) (hk : k < c) (hh : heldB q k = false) (hc : c ≤ 6) (sz : Nat) : zMN l yX5_gate wsX5_gate { frames := 2, cells := 0, slots := 0, locals := 43 } D y [.ref (Y 0), .int (nI k)] (zW Y Z Z2 y th t c q b bc n ar fi rn T) sz (some (.int 0)) (zW Y Z Z2 y 2 t c q b bc n ar fi rn T) 0 0 := by
  refine zMN.of (cc := cX5_gate) (maxL := 2) (ret := (some .boolean)) (own := RX5) (by decide) rfl (Nat.le_of_ble_eq_true rfl) rfl ?_
  intro p e s m args below meth cd ls A H locs hx hb hr hml hown hts hlocks hP hK hD hA hS hN hl hin
  have hS0 := hS
  have hl : lv_has ls 2 [(0, .ref (Y 0)), (1, .int (nI k))] := hl
  have hf24 : (Cond.fieldLink RX5 24 "StakeWeirsModel" "s" "LStakeWeirsModel$State;").before args s = true := hts _ (by decide +kernel)
  have hinX5 : ∀ w ∈ wsX50, w ∈ wsX5_gate := by decide +kernel
  have hf31 : (Cond.fieldLink RX5 31 "StakeWeirsModel" "thrown" "I").before args s = true := hts _ (by decide +kernel)
  refine lv_aload_n hx hb dX5_gate_0 rfl (lv_at hl 0 rfl) ?_
  refine lv_aload_n hx hb dX5_gate_1 rfl (lv_at hl 0 rfl) ?_
  refine lv_iload_n hx hb dX5_gate_2 rfl (lv_at hl 1 rfl) ?_
  refine zcRV (As := [.int (nI k)]) (rest := [.ref (Y 0)]) (st1 := [.int (zb (inB 0 (nI k) (nI c - 1))), .ref (Y 0)]) ⟨hx, hb, hml, hown, hts⟩ (c_X5_isWeir l D y Y Z Z2 th t c q b bc n ar fi rn T (nI k)) (cwV 1 hts gX5_gate_X5_isWeir rfl rfl rfl (by decide +kernel) ⟨Nat.le_of_ble_eq_true rfl, Nat.le_of_ble_eq_true rfl⟩) hK hP (ci := 5) (q0 := 0) rfl rfl rfl rfl hl.1 rfl (lv_room (Nat.le_of_ble_eq_true rfl)) dX5_gate_3 ⟨Nat.le_of_ble_eq_true rfl, Nat.le_of_ble_eq_true rfl⟩ rfl ?_
  refine lv_if_ne (tgt := 13) hx hb dX5_gate_6 (by decide) (fun c1 => ?_) (fun c1 => ?_)
  · have c1 := c1
    refine lv_aload_n hx hb dX5_gate_13 rfl (lv_at hl 0 rfl) ?_
    refine va_get (D := D) (ci := 5) (v := .ref (Z 0)) (C := RX5) (T := TX5) (N := 7) hx hb hts hinX5 hown hK hP (0) rfl rfl 5 (by decide) hf24 (fun _ h9 => h9) rfl dX5_gate_14 ?_
    refine lv_iload_n hx hb dX5_gate_17 rfl (lv_at hl 1 rfl) ?_
    refine zcRV (As := [.int (nI k)]) (rest := [.ref (Y 0)]) (st1 := [.int (zb (heldB q k)), .ref (Y 0)]) ⟨hx, hb, hml, hown, hts⟩ (c_X4_isHeld l D y Y Z (Z 0) (Z2 0) th t c q b bc n ar fi rn k (by omega)) (cwV 1 hts gX5_gate_X4_isHeld rfl rfl rfl (by decide +kernel) ⟨Nat.le_of_ble_eq_true rfl, Nat.le_of_ble_eq_true rfl⟩) hK (zz_sP hP) (ci := 4) (q0 := 4) rfl rfl rfl rfl hl.1 rfl (lv_room (Nat.le_of_ble_eq_true rfl)) dX5_gate_18 ⟨Nat.le_of_ble_eq_true rfl, Nat.le_of_ble_eq_true rfl⟩ rfl ?_
    refine lv_if_eq (tgt := 28) hx hb dX5_gate_21 (by decide) (fun c2 => ?_) (fun c2 => ?_)
    · have c2 := c2
      refine lv_iconst (v := 2) hx hb dX5_gate_28 (by decide) ?_
      refine va_put (D := D) (ci := 5) (v := .int 2) (ty := .int) (C := RX5) (T := TX5) (N := 7) hx hb hts hinX5 tyX5 tyX5_ok nmX5 hown hK hP hD hS (0) rfl rfl 0 (by decide) hf31 (fun _ h9 => h9) rfl (by decide +kernel) rfl rfl (Nat.le_of_ble_eq_true rfl) dX5_gate_29 (fun H locs hP hD hS => ?_)
      have hP : va_P D vwCl (zW Y Z Z2 y 2 t c q b bc n ar fi rn T) H := hP
      have hD : va_D A (zW Y Z Z2 y 2 t c q b bc n ar fi rn T) := hD
      refine lv_aload_n hx hb dX5_gate_32 rfl (lv_at hl 0 rfl) ?_
      refine va_get (D := D) (ci := 5) (v := .int 2) (C := RX5) (T := TX5) (N := 7) hx hb hts hinX5 hown hK hP (0) rfl rfl 0 (by decide) hf31 (fun _ h9 => h9) rfl dX5_gate_33 ?_
      refine lv_if_eq (tgt := 41) hx hb dX5_gate_36 (by decide) (fun c3 => ?_) (fun c3 => ?_)
      · exact absurd c3 (by decide)
      · have d3 := c3
        refine lv_iconst (v := 0) hx hb dX5_gate_39 (by decide) ?_
        exact zM_z hx hb hr hlocks hS dX5_gate_40 (Or.inl rfl) rfl hP
    · exact absurd (zb_t c2) (by rw [hh]; decide)
  · exact absurd (zb_f c1) (by rw [(inW_t hk hc)]; decide)
set_option maxHeartbeats 1000000 in
set_option maxRecDepth 100000 in
theorem c_X5_mend (l : Launch) (D : va_G) (y : Nat → ClassId) (Y Z Z2 : Nat → Nat) (th : Int32) (t : Nat → Int32) (c : Nat) (q b : Fld) (bc n : Nat) (ar fi rn : Int32) (T : Nst) (k : Nat) (hk : k < c) (x : Int32) (hw : inB 1 x 100 = true) (hh : heldB q k = true) (h1 : ¬ 100 < q 2 k + x) (h2 : ¬ q 4 k < ((x + 4) / 5)) (hc : c ≤ 6) (sz : Nat) : zMN l yX5_mend wsX5_mend { frames := 2, cells := 0, slots := 0, locals := 43 } D y [.ref (Y 0), .int (nI k), .int x] (zW Y Z Z2 y th t c q b bc n ar fi rn T) sz (some (.int (q 2 k + x))) (zW Y Z Z2 y 0 t c (up2 (up2 q 4 k (q 4 k - ((x + 4) / 5))) 2 k (q 2 k + x)) b bc n ar fi rn T) 0 0 := by
  refine zMN.of (cc := cX5_mend) (maxL := 4) (ret := (some .int)) (own := RX5) (by decide) rfl (Nat.le_of_ble_eq_true rfl) rfl ?_
  intro p e s m args below meth cd ls A H locs hx hb hr hml hown hts hlocks hP hK hD hA hS hN hl hin
  have hS0 := hS
  have hl : lv_has ls 4 [(0, .ref (Y 0)), (1, .int (nI k)), (2, .int x)] := hl
  have hf31 : (Cond.fieldLink RX5 31 "StakeWeirsModel" "thrown" "I").before args s = true := hts _ (by decide +kernel)
  have hinX5 : ∀ w ∈ wsX50, w ∈ wsX5_mend := by decide +kernel
  have hf24 : (Cond.fieldLink RX5 24 "StakeWeirsModel" "s" "LStakeWeirsModel$State;").before args s = true := hts _ (by decide +kernel)
  have hf52 : (Cond.fieldLinkNest "StakeWeirsModel" 52 "StakeWeirsModel$State" "wattle" "[I" "StakeWeirsModel").before args s = true := va_Nw.use rfl (hN ("StakeWeirsModel", 52, "StakeWeirsModel$State", "wattle", "[I", "StakeWeirsModel") (by decide +kernel))
  have hinX4 : ∀ w ∈ wsX40, w ∈ wsX5_mend := by decide +kernel
  have hf55 : (Cond.fieldLinkNest "StakeWeirsModel" 55 "StakeWeirsModel$State" "coins" "[I" "StakeWeirsModel").before args s = true := va_Nw.use rfl (hN ("StakeWeirsModel", 55, "StakeWeirsModel$State", "coins", "[I", "StakeWeirsModel") (by decide +kernel))
  refine lv_aload_n hx hb dX5_mend_0 rfl (lv_at hl 0 rfl) ?_
  refine lv_iconst (v := 0) hx hb dX5_mend_1 (by decide) ?_
  refine va_put (D := D) (ci := 5) (v := .int 0) (ty := .int) (C := RX5) (T := TX5) (N := 7) hx hb hts hinX5 tyX5 tyX5_ok nmX5 hown hK hP hD hS (0) rfl rfl 0 (by decide) hf31 (fun _ h9 => h9) rfl (by decide +kernel) rfl rfl (Nat.le_of_ble_eq_true rfl) dX5_mend_2 (fun H locs hP hD hS => ?_)
  have hP : va_P D vwCl (zW Y Z Z2 y 0 t c q b bc n ar fi rn T) H := hP
  have hD : va_D A (zW Y Z Z2 y 0 t c q b bc n ar fi rn T) := hD
  refine lv_aload_n hx hb dX5_mend_5 rfl (lv_at hl 0 rfl) ?_
  refine lv_iload_n hx hb dX5_mend_6 rfl (lv_at hl 1 rfl) ?_
  refine zcRV (As := [.int (nI k)]) (rest := []) (st1 := [.int (zb (inB 0 (nI k) (nI c - 1)))]) ⟨hx, hb, hml, hown, hts⟩ (c_X5_isWeir l D y Y Z Z2 0 t c q b bc n ar fi rn T (nI k)) (cwV 1 hts gX5_mend_X5_isWeir rfl rfl rfl (by decide +kernel) ⟨Nat.le_of_ble_eq_true rfl, Nat.le_of_ble_eq_true rfl⟩) hK hP (ci := 5) (q0 := 0) rfl rfl rfl rfl hl.1 rfl (lv_room (Nat.le_of_ble_eq_true rfl)) dX5_mend_7 ⟨Nat.le_of_ble_eq_true rfl, Nat.le_of_ble_eq_true rfl⟩ rfl ?_
  refine lv_if_ne (tgt := 19) hx hb dX5_mend_10 (by decide) (fun c1 => ?_) (fun c1 => ?_)
  · have c1 := c1
    refine lv_iload_n hx hb dX5_mend_19 rfl (lv_at hl 2 rfl) ?_
    refine lv_iconst (v := 1) hx hb dX5_mend_20 (by decide) ?_
    refine lv_bipush (v := 100) hx hb dX5_mend_21 (by decide) ?_
    refine zcRS (As := [.int x, .int 1, .int 100]) (rest := []) (st1 := [.int (zb (inB 1 x 100))]) ⟨hx, hb, hml, hown, hts⟩ (c_X5_isIn l D y x 1 100) (cwS 3 hts gX5_mend_X5_isIn rfl rfl rfl (by decide +kernel) ⟨Nat.le_of_ble_eq_true rfl, Nat.le_of_ble_eq_true rfl⟩) hK va_P_nil rfl hl.1 rfl (lv_room (Nat.le_of_ble_eq_true rfl)) dX5_mend_23 ⟨Nat.le_of_ble_eq_true rfl, Nat.le_of_ble_eq_true rfl⟩ rfl ?_
    refine lv_if_ne (tgt := 35) hx hb dX5_mend_26 (by decide) (fun c2 => ?_) (fun c2 => ?_)
    · have c2 := c2
      refine lv_iload_n hx hb dX5_mend_35 rfl (lv_at hl 2 rfl) ?_
      refine lv_iconst (v := 4) hx hb dX5_mend_36 (by decide) ?_
      refine lv_iadd hx hb dX5_mend_37 ?_
      refine lv_iconst (v := 5) hx hb dX5_mend_38 (by decide) ?_
      refine lv_idiv hx hb dX5_mend_39 (by decide) ?_
      refine lv_istore_n (lv' := [(3, .int (((x + 4) / 5))), (0, .ref (Y 0)), (1, .int (nI k)), (2, .int x)]) hx hb dX5_mend_40 rfl hl (by decide) rfl (fun ls hl => ?_)
      refine lv_aload_n hx hb dX5_mend_41 rfl (lv_at hl 1 rfl) ?_
      refine va_get (D := D) (ci := 5) (v := .ref (Z 0)) (C := RX5) (T := TX5) (N := 7) hx hb hts hinX5 hown hK hP (0) rfl rfl 5 (by decide) hf24 (fun _ h9 => h9) rfl dX5_mend_42 ?_
      refine lv_iload_n hx hb dX5_mend_45 rfl (lv_at hl 2 rfl) ?_
      refine zcRV (As := [.int (nI k)]) (rest := []) (st1 := [.int (zb (heldB q k))]) ⟨hx, hb, hml, hown, hts⟩ (c_X4_isHeld l D y Y Z (Z 0) (Z2 0) 0 t c q b bc n ar fi rn k (by omega)) (cwV 1 hts gX5_mend_X4_isHeld rfl rfl rfl (by decide +kernel) ⟨Nat.le_of_ble_eq_true rfl, Nat.le_of_ble_eq_true rfl⟩) hK (zz_sP hP) (ci := 4) (q0 := 4) rfl rfl rfl rfl hl.1 rfl (lv_room (Nat.le_of_ble_eq_true rfl)) dX5_mend_46 ⟨Nat.le_of_ble_eq_true rfl, Nat.le_of_ble_eq_true rfl⟩ rfl ?_
      refine lv_if_eq (tgt := 81) hx hb dX5_mend_49 (by decide) (fun c3 => ?_) (fun c3 => ?_)
      · exact absurd (zb_f c3) (by rw [hh]; decide)
      · have c3 := c3
        refine lv_aload_n hx hb dX5_mend_52 rfl (lv_at hl 1 rfl) ?_
        refine va_get (D := D) (ci := 5) (v := .ref (Z 0)) (C := RX5) (T := TX5) (N := 7) hx hb hts hinX5 hown hK hP (0) rfl rfl 5 (by decide) hf24 (fun _ h9 => h9) rfl dX5_mend_53 ?_
        refine va_getN (D := D) (ci := 4) (v := .ref (Z 2)) (C := RX4) (T := TX4) (N := 16) hx hb hts hinX4 hown hK hP (4) rfl rfl 2 (by decide) hf52 (fun _ h9 => h9) rfl dX5_mend_56 ?_
        refine lv_iload_n hx hb dX5_mend_59 rfl (lv_at hl 2 rfl) ?_
        refine z_ald hx hb hK hP 6 (f := q 2) rfl k rfl (by omega) (by decide) dX5_mend_60 ?_
        refine lv_iload_n hx hb dX5_mend_61 rfl (lv_at hl 3 rfl) ?_
        refine lv_iadd hx hb dX5_mend_62 ?_
        refine lv_bipush (v := 100) hx hb dX5_mend_63 (by decide) ?_
        refine lv_icmp_gt (tgt := 81) hx hb dX5_mend_65 (by decide) (fun c4 => ?_) (fun c4 => ?_)
        · exact absurd c4 h1
        · have d4 := Int32.not_lt.mp c4
          refine lv_aload_n hx hb dX5_mend_68 rfl (lv_at hl 1 rfl) ?_
          refine va_get (D := D) (ci := 5) (v := .ref (Z 0)) (C := RX5) (T := TX5) (N := 7) hx hb hts hinX5 hown hK hP (0) rfl rfl 5 (by decide) hf24 (fun _ h9 => h9) rfl dX5_mend_69 ?_
          refine va_getN (D := D) (ci := 4) (v := .ref (Z 3)) (C := RX4) (T := TX4) (N := 16) hx hb hts hinX4 hown hK hP (4) rfl rfl 3 (by decide) hf55 (fun _ h9 => h9) rfl dX5_mend_72 ?_
          refine lv_iload_n hx hb dX5_mend_75 rfl (lv_at hl 2 rfl) ?_
          refine z_ald hx hb hK hP 7 (f := q 4) rfl k rfl (by omega) (by decide) dX5_mend_76 ?_
          refine lv_iload_n hx hb dX5_mend_77 rfl (lv_at hl 0 rfl) ?_
          refine lv_icmp_ge (tgt := 87) hx hb dX5_mend_78 (by decide) (fun c5 => ?_) (fun c5 => ?_)
          · have d5 := Int32.not_lt.mpr c5
            refine lv_aload_n hx hb dX5_mend_87 rfl (lv_at hl 1 rfl) ?_
            refine va_get (D := D) (ci := 5) (v := .ref (Z 0)) (C := RX5) (T := TX5) (N := 7) hx hb hts hinX5 hown hK hP (0) rfl rfl 5 (by decide) hf24 (fun _ h9 => h9) rfl dX5_mend_88 ?_
            refine va_getN (D := D) (ci := 4) (v := .ref (Z 3)) (C := RX4) (T := TX4) (N := 16) hx hb hts hinX4 hown hK hP (4) rfl rfl 3 (by decide) hf55 (fun _ h9 => h9) rfl dX5_mend_91 ?_
            refine lv_iload_n hx hb dX5_mend_94 rfl (lv_at hl 2 rfl) ?_
            refine lv_dup2_11 hx hb dX5_mend_95 rfl rfl ?_
            refine z_ald hx hb hK hP 7 (f := q 4) rfl k rfl (by omega) (by decide) dX5_mend_96 ?_
            refine lv_iload_n hx hb dX5_mend_97 rfl (lv_at hl 0 rfl) ?_
            refine lv_isub hx hb dX5_mend_98 ?_
            refine z_ast hx hb hK hP hD hS 7 (f := q 4) rfl k rfl (by omega) (by decide) (zW_q4 (k := k)) dX5_mend_99 (fun H locs hP hD hS => ?_)
            have hP : va_P D vwCl (zW Y Z Z2 y 0 t c (up2 q 4 k ((q 4 k) - ((x + 4) / 5))) b bc n ar fi rn T) H := hP
            have hD : va_D A (zW Y Z Z2 y 0 t c (up2 q 4 k ((q 4 k) - ((x + 4) / 5))) b bc n ar fi rn T) := hD
            refine lv_aload_n hx hb dX5_mend_100 rfl (lv_at hl 1 rfl) ?_
            refine va_get (D := D) (ci := 5) (v := .ref (Z 0)) (C := RX5) (T := TX5) (N := 7) hx hb hts hinX5 hown hK hP (0) rfl rfl 5 (by decide) hf24 (fun _ h9 => h9) rfl dX5_mend_101 ?_
            refine va_getN (D := D) (ci := 4) (v := .ref (Z 2)) (C := RX4) (T := TX4) (N := 16) hx hb hts hinX4 hown hK hP (4) rfl rfl 2 (by decide) hf52 (fun _ h9 => h9) rfl dX5_mend_104 ?_
            refine lv_iload_n hx hb dX5_mend_107 rfl (lv_at hl 2 rfl) ?_
            refine lv_dup2_11 hx hb dX5_mend_108 rfl rfl ?_
            refine z_ald hx hb hK hP 6 (f := q 2) rfl k rfl (by omega) (by decide) dX5_mend_109 ?_
            refine lv_iload_n hx hb dX5_mend_110 rfl (lv_at hl 3 rfl) ?_
            refine lv_iadd hx hb dX5_mend_111 ?_
            refine z_ast hx hb hK hP hD hS 6 (f := (up2 q 4 k ((q 4 k) - ((x + 4) / 5))) 2) rfl k rfl (by omega) (by decide) (zW_q2 (k := k)) dX5_mend_112 (fun H locs hP hD hS => ?_)
            have hP : va_P D vwCl (zW Y Z Z2 y 0 t c (up2 (up2 q 4 k ((q 4 k) - ((x + 4) / 5))) 2 k ((q 2 k) + x)) b bc n ar fi rn T) H := hP
            have hD : va_D A (zW Y Z Z2 y 0 t c (up2 (up2 q 4 k ((q 4 k) - ((x + 4) / 5))) 2 k ((q 2 k) + x)) b bc n ar fi rn T) := hD
            refine lv_aload_n hx hb dX5_mend_113 rfl (lv_at hl 1 rfl) ?_
            refine va_get (D := D) (ci := 5) (v := .ref (Z 0)) (C := RX5) (T := TX5) (N := 7) hx hb hts hinX5 hown hK hP (0) rfl rfl 5 (by decide) hf24 (fun _ h9 => h9) rfl dX5_mend_114 ?_
            refine va_getN (D := D) (ci := 4) (v := .ref (Z 2)) (C := RX4) (T := TX4) (N := 16) hx hb hts hinX4 hown hK hP (4) rfl rfl 2 (by decide) hf52 (fun _ h9 => h9) rfl dX5_mend_117 ?_
            refine lv_iload_n hx hb dX5_mend_120 rfl (lv_at hl 2 rfl) ?_
            refine z_ald hx hb hK hP 6 (f := (up2 (up2 q 4 k ((q 4 k) - ((x + 4) / 5))) 2 k ((q 2 k) + x)) 2) rfl k rfl (by omega) (by decide) dX5_mend_121 ?_
            refine zt_i (x' := ((q 2 k) + x)) (up2_s _ _ _ _) ?_
            exact zM_i hx hb hr hlocks hS dX5_mend_122 rfl hP
          · exact absurd (Int32.not_lt.mp h2) c5
    · exact absurd (zb_f c2) (by rw [hw]; decide)
  · exact absurd (zb_f c1) (by rw [(inW_t hk hc)]; decide)
set_option maxHeartbeats 1000000 in
set_option maxRecDepth 100000 in
theorem c_X5_mend_N1 (l : Launch) (D : va_G) (y : Nat → ClassId) (Y Z Z2 : Nat → Nat) (th : Int32) (t : Nat → Int32) (c : Nat) (q b : Fld) (bc n : Nat) (ar fi rn : Int32) (T : Nst) (x : Int32) (hx0 : x < 0 ∨ nI c ≤ x) (z : Int32) (hc : c ≤ 6) (sz : Nat) : zMN l yX5_mend wsX5_mend { frames := 2, cells := 0, slots := 0, locals := 43 } D y [.ref (Y 0), .int x, .int z] (zW Y Z Z2 y th t c q b bc n ar fi rn T) sz (some (.int 0)) (zW Y Z Z2 y 1 t c q b bc n ar fi rn T) 0 0 := by
  refine zMN.of (cc := cX5_mend) (maxL := 4) (ret := (some .int)) (own := RX5) (by decide) rfl (Nat.le_of_ble_eq_true rfl) rfl ?_
  intro p e s m args below meth cd ls A H locs hx hb hr hml hown hts hlocks hP hK hD hA hS hN hl hin
  have hS0 := hS
  have hl : lv_has ls 4 [(0, .ref (Y 0)), (1, .int x), (2, .int z)] := hl
  have hf31 : (Cond.fieldLink RX5 31 "StakeWeirsModel" "thrown" "I").before args s = true := hts _ (by decide +kernel)
  have hinX5 : ∀ w ∈ wsX50, w ∈ wsX5_mend := by decide +kernel
  refine lv_aload_n hx hb dX5_mend_0 rfl (lv_at hl 0 rfl) ?_
  refine lv_iconst (v := 0) hx hb dX5_mend_1 (by decide) ?_
  refine va_put (D := D) (ci := 5) (v := .int 0) (ty := .int) (C := RX5) (T := TX5) (N := 7) hx hb hts hinX5 tyX5 tyX5_ok nmX5 hown hK hP hD hS (0) rfl rfl 0 (by decide) hf31 (fun _ h9 => h9) rfl (by decide +kernel) rfl rfl (Nat.le_of_ble_eq_true rfl) dX5_mend_2 (fun H locs hP hD hS => ?_)
  have hP : va_P D vwCl (zW Y Z Z2 y 0 t c q b bc n ar fi rn T) H := hP
  have hD : va_D A (zW Y Z Z2 y 0 t c q b bc n ar fi rn T) := hD
  refine lv_aload_n hx hb dX5_mend_5 rfl (lv_at hl 0 rfl) ?_
  refine lv_iload_n hx hb dX5_mend_6 rfl (lv_at hl 1 rfl) ?_
  refine zcRV (As := [.int x]) (rest := []) (st1 := [.int (zb (inB 0 x (nI c - 1)))]) ⟨hx, hb, hml, hown, hts⟩ (c_X5_isWeir l D y Y Z Z2 0 t c q b bc n ar fi rn T x) (cwV 1 hts gX5_mend_X5_isWeir rfl rfl rfl (by decide +kernel) ⟨Nat.le_of_ble_eq_true rfl, Nat.le_of_ble_eq_true rfl⟩) hK hP (ci := 5) (q0 := 0) rfl rfl rfl rfl hl.1 rfl (lv_room (Nat.le_of_ble_eq_true rfl)) dX5_mend_7 ⟨Nat.le_of_ble_eq_true rfl, Nat.le_of_ble_eq_true rfl⟩ rfl ?_
  refine lv_if_ne (tgt := 19) hx hb dX5_mend_10 (by decide) (fun c1 => ?_) (fun c1 => ?_)
  · exact absurd (zb_t c1) (by rw [(inW_f hx0 hc)]; decide)
  · have c1 := c1
    refine lv_aload_n hx hb dX5_mend_13 rfl (lv_at hl 0 rfl) ?_
    refine lv_iconst (v := 1) hx hb dX5_mend_14 (by decide) ?_
    refine zcMV (As := [.int 1]) (rest := []) (st1 := [.int 0]) (cells1 := 0) (slots1 := 0) ⟨hx, hb, hml, hown, hts⟩ (c_X5_no l D y Y Z Z2 0 t c q b bc n ar fi rn T 1 _) (cwV 1 hts gX5_mend_X5_no rfl rfl rfl (by decide +kernel) ⟨Nat.le_of_ble_eq_true rfl, Nat.le_of_ble_eq_true rfl⟩) hK hP (z_D_T hD) (ci := 5) (q0 := 0) rfl rfl rfl rfl hl.1 rfl (lv_room (Nat.le_of_ble_eq_true rfl)) dX5_mend_15 hS (z_sub_F hD hS hA z_in_r) ⟨Nat.le_of_ble_eq_true rfl, Nat.le_of_ble_eq_true rfl⟩ rfl rfl rfl (fun H locs hP1 hz hfr hS => ?_)
    have hD := z_D_adr hD (show (zW Y Z Z2 y 1 t c q b bc n ar fi rn T).map Prod.fst = _ from rfl)
    have hP := hP1
    exact zM_i hx hb hr hlocks hS dX5_mend_18 rfl hP
set_option maxHeartbeats 1000000 in
set_option maxRecDepth 100000 in
theorem c_X5_mend_N2 (l : Launch) (D : va_G) (y : Nat → ClassId) (Y Z Z2 : Nat → Nat) (th : Int32) (t : Nat → Int32) (c : Nat) (q b : Fld) (bc n : Nat) (ar fi rn : Int32) (T : Nst) (k : Nat) (hk : k < c) (x : Int32) (hw : inB 1 x 100 = false) (hc : c ≤ 6) (sz : Nat) : zMN l yX5_mend wsX5_mend { frames := 2, cells := 0, slots := 0, locals := 43 } D y [.ref (Y 0), .int (nI k), .int x] (zW Y Z Z2 y th t c q b bc n ar fi rn T) sz (some (.int 0)) (zW Y Z Z2 y 2 t c q b bc n ar fi rn T) 0 0 := by
  refine zMN.of (cc := cX5_mend) (maxL := 4) (ret := (some .int)) (own := RX5) (by decide) rfl (Nat.le_of_ble_eq_true rfl) rfl ?_
  intro p e s m args below meth cd ls A H locs hx hb hr hml hown hts hlocks hP hK hD hA hS hN hl hin
  have hS0 := hS
  have hl : lv_has ls 4 [(0, .ref (Y 0)), (1, .int (nI k)), (2, .int x)] := hl
  have hf31 : (Cond.fieldLink RX5 31 "StakeWeirsModel" "thrown" "I").before args s = true := hts _ (by decide +kernel)
  have hinX5 : ∀ w ∈ wsX50, w ∈ wsX5_mend := by decide +kernel
  refine lv_aload_n hx hb dX5_mend_0 rfl (lv_at hl 0 rfl) ?_
  refine lv_iconst (v := 0) hx hb dX5_mend_1 (by decide) ?_
  refine va_put (D := D) (ci := 5) (v := .int 0) (ty := .int) (C := RX5) (T := TX5) (N := 7) hx hb hts hinX5 tyX5 tyX5_ok nmX5 hown hK hP hD hS (0) rfl rfl 0 (by decide) hf31 (fun _ h9 => h9) rfl (by decide +kernel) rfl rfl (Nat.le_of_ble_eq_true rfl) dX5_mend_2 (fun H locs hP hD hS => ?_)
  have hP : va_P D vwCl (zW Y Z Z2 y 0 t c q b bc n ar fi rn T) H := hP
  have hD : va_D A (zW Y Z Z2 y 0 t c q b bc n ar fi rn T) := hD
  refine lv_aload_n hx hb dX5_mend_5 rfl (lv_at hl 0 rfl) ?_
  refine lv_iload_n hx hb dX5_mend_6 rfl (lv_at hl 1 rfl) ?_
  refine zcRV (As := [.int (nI k)]) (rest := []) (st1 := [.int (zb (inB 0 (nI k) (nI c - 1)))]) ⟨hx, hb, hml, hown, hts⟩ (c_X5_isWeir l D y Y Z Z2 0 t c q b bc n ar fi rn T (nI k)) (cwV 1 hts gX5_mend_X5_isWeir rfl rfl rfl (by decide +kernel) ⟨Nat.le_of_ble_eq_true rfl, Nat.le_of_ble_eq_true rfl⟩) hK hP (ci := 5) (q0 := 0) rfl rfl rfl rfl hl.1 rfl (lv_room (Nat.le_of_ble_eq_true rfl)) dX5_mend_7 ⟨Nat.le_of_ble_eq_true rfl, Nat.le_of_ble_eq_true rfl⟩ rfl ?_
  refine lv_if_ne (tgt := 19) hx hb dX5_mend_10 (by decide) (fun c1 => ?_) (fun c1 => ?_)
  · have c1 := c1
    refine lv_iload_n hx hb dX5_mend_19 rfl (lv_at hl 2 rfl) ?_
    refine lv_iconst (v := 1) hx hb dX5_mend_20 (by decide) ?_
    refine lv_bipush (v := 100) hx hb dX5_mend_21 (by decide) ?_
    refine zcRS (As := [.int x, .int 1, .int 100]) (rest := []) (st1 := [.int (zb (inB 1 x 100))]) ⟨hx, hb, hml, hown, hts⟩ (c_X5_isIn l D y x 1 100) (cwS 3 hts gX5_mend_X5_isIn rfl rfl rfl (by decide +kernel) ⟨Nat.le_of_ble_eq_true rfl, Nat.le_of_ble_eq_true rfl⟩) hK va_P_nil rfl hl.1 rfl (lv_room (Nat.le_of_ble_eq_true rfl)) dX5_mend_23 ⟨Nat.le_of_ble_eq_true rfl, Nat.le_of_ble_eq_true rfl⟩ rfl ?_
    refine lv_if_ne (tgt := 35) hx hb dX5_mend_26 (by decide) (fun c2 => ?_) (fun c2 => ?_)
    · exact absurd (zb_t c2) (by rw [hw]; decide)
    · have c2 := c2
      refine lv_aload_n hx hb dX5_mend_29 rfl (lv_at hl 0 rfl) ?_
      refine lv_iconst (v := 2) hx hb dX5_mend_30 (by decide) ?_
      refine zcMV (As := [.int 2]) (rest := []) (st1 := [.int 0]) (cells1 := 0) (slots1 := 0) ⟨hx, hb, hml, hown, hts⟩ (c_X5_no l D y Y Z Z2 0 t c q b bc n ar fi rn T 2 _) (cwV 1 hts gX5_mend_X5_no rfl rfl rfl (by decide +kernel) ⟨Nat.le_of_ble_eq_true rfl, Nat.le_of_ble_eq_true rfl⟩) hK hP (z_D_T hD) (ci := 5) (q0 := 0) rfl rfl rfl rfl hl.1 rfl (lv_room (Nat.le_of_ble_eq_true rfl)) dX5_mend_31 hS (z_sub_F hD hS hA z_in_r) ⟨Nat.le_of_ble_eq_true rfl, Nat.le_of_ble_eq_true rfl⟩ rfl rfl rfl (fun H locs hP1 hz hfr hS => ?_)
      have hD := z_D_adr hD (show (zW Y Z Z2 y 2 t c q b bc n ar fi rn T).map Prod.fst = _ from rfl)
      have hP := hP1
      exact zM_i hx hb hr hlocks hS dX5_mend_34 rfl hP
  · exact absurd (zb_f c1) (by rw [(inW_t hk hc)]; decide)
set_option maxHeartbeats 1000000 in
set_option maxRecDepth 100000 in
theorem c_X5_mend_N3 (l : Launch) (D : va_G) (y : Nat → ClassId) (Y Z Z2 : Nat → Nat) (th : Int32) (t : Nat → Int32) (c : Nat) (q b : Fld) (bc n : Nat) (ar fi rn : Int32) (T : Nst) (k : Nat) (hk : k < c) (x : Int32) (hw : inB 1 x 100 = true) (hh : heldB q k = false ∨ 100 < q 2 k + x ∨ q 4 k < ((x + 4) / 5)) (hc : c ≤ 6) (sz : Nat) : zMN l yX5_mend wsX5_mend { frames := 2, cells := 0, slots := 0, locals := 43 } D y [.ref (Y 0), .int (nI k), .int x] (zW Y Z Z2 y th t c q b bc n ar fi rn T) sz (some (.int 0)) (zW Y Z Z2 y 3 t c q b bc n ar fi rn T) 0 0 := by
  refine zMN.of (cc := cX5_mend) (maxL := 4) (ret := (some .int)) (own := RX5) (by decide) rfl (Nat.le_of_ble_eq_true rfl) rfl ?_
  intro p e s m args below meth cd ls A H locs hx hb hr hml hown hts hlocks hP hK hD hA hS hN hl hin
  have hS0 := hS
  have hl : lv_has ls 4 [(0, .ref (Y 0)), (1, .int (nI k)), (2, .int x)] := hl
  have hf31 : (Cond.fieldLink RX5 31 "StakeWeirsModel" "thrown" "I").before args s = true := hts _ (by decide +kernel)
  have hinX5 : ∀ w ∈ wsX50, w ∈ wsX5_mend := by decide +kernel
  have hf24 : (Cond.fieldLink RX5 24 "StakeWeirsModel" "s" "LStakeWeirsModel$State;").before args s = true := hts _ (by decide +kernel)
  have hf52 : (Cond.fieldLinkNest "StakeWeirsModel" 52 "StakeWeirsModel$State" "wattle" "[I" "StakeWeirsModel").before args s = true := va_Nw.use rfl (hN ("StakeWeirsModel", 52, "StakeWeirsModel$State", "wattle", "[I", "StakeWeirsModel") (by decide +kernel))
  have hinX4 : ∀ w ∈ wsX40, w ∈ wsX5_mend := by decide +kernel
  have hf55 : (Cond.fieldLinkNest "StakeWeirsModel" 55 "StakeWeirsModel$State" "coins" "[I" "StakeWeirsModel").before args s = true := va_Nw.use rfl (hN ("StakeWeirsModel", 55, "StakeWeirsModel$State", "coins", "[I", "StakeWeirsModel") (by decide +kernel))
  refine lv_aload_n hx hb dX5_mend_0 rfl (lv_at hl 0 rfl) ?_
  refine lv_iconst (v := 0) hx hb dX5_mend_1 (by decide) ?_
  refine va_put (D := D) (ci := 5) (v := .int 0) (ty := .int) (C := RX5) (T := TX5) (N := 7) hx hb hts hinX5 tyX5 tyX5_ok nmX5 hown hK hP hD hS (0) rfl rfl 0 (by decide) hf31 (fun _ h9 => h9) rfl (by decide +kernel) rfl rfl (Nat.le_of_ble_eq_true rfl) dX5_mend_2 (fun H locs hP hD hS => ?_)
  have hP : va_P D vwCl (zW Y Z Z2 y 0 t c q b bc n ar fi rn T) H := hP
  have hD : va_D A (zW Y Z Z2 y 0 t c q b bc n ar fi rn T) := hD
  refine lv_aload_n hx hb dX5_mend_5 rfl (lv_at hl 0 rfl) ?_
  refine lv_iload_n hx hb dX5_mend_6 rfl (lv_at hl 1 rfl) ?_
  refine zcRV (As := [.int (nI k)]) (rest := []) (st1 := [.int (zb (inB 0 (nI k) (nI c - 1)))]) ⟨hx, hb, hml, hown, hts⟩ (c_X5_isWeir l D y Y Z Z2 0 t c q b bc n ar fi rn T (nI k)) (cwV 1 hts gX5_mend_X5_isWeir rfl rfl rfl (by decide +kernel) ⟨Nat.le_of_ble_eq_true rfl, Nat.le_of_ble_eq_true rfl⟩) hK hP (ci := 5) (q0 := 0) rfl rfl rfl rfl hl.1 rfl (lv_room (Nat.le_of_ble_eq_true rfl)) dX5_mend_7 ⟨Nat.le_of_ble_eq_true rfl, Nat.le_of_ble_eq_true rfl⟩ rfl ?_
  refine lv_if_ne (tgt := 19) hx hb dX5_mend_10 (by decide) (fun c1 => ?_) (fun c1 => ?_)
  · have c1 := c1
    refine lv_iload_n hx hb dX5_mend_19 rfl (lv_at hl 2 rfl) ?_
    refine lv_iconst (v := 1) hx hb dX5_mend_20 (by decide) ?_
    refine lv_bipush (v := 100) hx hb dX5_mend_21 (by decide) ?_
    refine zcRS (As := [.int x, .int 1, .int 100]) (rest := []) (st1 := [.int (zb (inB 1 x 100))]) ⟨hx, hb, hml, hown, hts⟩ (c_X5_isIn l D y x 1 100) (cwS 3 hts gX5_mend_X5_isIn rfl rfl rfl (by decide +kernel) ⟨Nat.le_of_ble_eq_true rfl, Nat.le_of_ble_eq_true rfl⟩) hK va_P_nil rfl hl.1 rfl (lv_room (Nat.le_of_ble_eq_true rfl)) dX5_mend_23 ⟨Nat.le_of_ble_eq_true rfl, Nat.le_of_ble_eq_true rfl⟩ rfl ?_
    refine lv_if_ne (tgt := 35) hx hb dX5_mend_26 (by decide) (fun c2 => ?_) (fun c2 => ?_)
    · have c2 := c2
      refine lv_iload_n hx hb dX5_mend_35 rfl (lv_at hl 2 rfl) ?_
      refine lv_iconst (v := 4) hx hb dX5_mend_36 (by decide) ?_
      refine lv_iadd hx hb dX5_mend_37 ?_
      refine lv_iconst (v := 5) hx hb dX5_mend_38 (by decide) ?_
      refine lv_idiv hx hb dX5_mend_39 (by decide) ?_
      refine lv_istore_n (lv' := [(3, .int (((x + 4) / 5))), (0, .ref (Y 0)), (1, .int (nI k)), (2, .int x)]) hx hb dX5_mend_40 rfl hl (by decide) rfl (fun ls hl => ?_)
      refine lv_aload_n hx hb dX5_mend_41 rfl (lv_at hl 1 rfl) ?_
      refine va_get (D := D) (ci := 5) (v := .ref (Z 0)) (C := RX5) (T := TX5) (N := 7) hx hb hts hinX5 hown hK hP (0) rfl rfl 5 (by decide) hf24 (fun _ h9 => h9) rfl dX5_mend_42 ?_
      refine lv_iload_n hx hb dX5_mend_45 rfl (lv_at hl 2 rfl) ?_
      refine zcRV (As := [.int (nI k)]) (rest := []) (st1 := [.int (zb (heldB q k))]) ⟨hx, hb, hml, hown, hts⟩ (c_X4_isHeld l D y Y Z (Z 0) (Z2 0) 0 t c q b bc n ar fi rn k (by omega)) (cwV 1 hts gX5_mend_X4_isHeld rfl rfl rfl (by decide +kernel) ⟨Nat.le_of_ble_eq_true rfl, Nat.le_of_ble_eq_true rfl⟩) hK (zz_sP hP) (ci := 4) (q0 := 4) rfl rfl rfl rfl hl.1 rfl (lv_room (Nat.le_of_ble_eq_true rfl)) dX5_mend_46 ⟨Nat.le_of_ble_eq_true rfl, Nat.le_of_ble_eq_true rfl⟩ rfl ?_
      refine lv_if_eq (tgt := 81) hx hb dX5_mend_49 (by decide) (fun c3 => ?_) (fun c3 => ?_)
      · have c3 : heldB q k = false := zb_f c3
        refine lv_aload_n hx hb dX5_mend_81 rfl (lv_at hl 1 rfl) ?_
        refine lv_iconst (v := 3) hx hb dX5_mend_82 (by decide) ?_
        refine zcMV (As := [.int 3]) (rest := []) (st1 := [.int 0]) (cells1 := 0) (slots1 := 0) ⟨hx, hb, hml, hown, hts⟩ (c_X5_no l D y Y Z Z2 0 t c q b bc n ar fi rn T 3 _) (cwV 1 hts gX5_mend_X5_no rfl rfl rfl (by decide +kernel) ⟨Nat.le_of_ble_eq_true rfl, Nat.le_of_ble_eq_true rfl⟩) hK hP (z_D_T hD) (ci := 5) (q0 := 0) rfl rfl rfl rfl hl.1 rfl (lv_room (Nat.le_of_ble_eq_true rfl)) dX5_mend_83 hS (z_sub_F hD hS hA z_in_r) ⟨Nat.le_of_ble_eq_true rfl, Nat.le_of_ble_eq_true rfl⟩ rfl rfl rfl (fun H locs hP1 hz hfr hS => ?_)
        have hD := z_D_adr hD (show (zW Y Z Z2 y 3 t c q b bc n ar fi rn T).map Prod.fst = _ from rfl)
        have hP := hP1
        exact zM_i hx hb hr hlocks hS dX5_mend_86 rfl hP
      · have c3 : heldB q k = true := zb_t c3
        refine lv_aload_n hx hb dX5_mend_52 rfl (lv_at hl 1 rfl) ?_
        refine va_get (D := D) (ci := 5) (v := .ref (Z 0)) (C := RX5) (T := TX5) (N := 7) hx hb hts hinX5 hown hK hP (0) rfl rfl 5 (by decide) hf24 (fun _ h9 => h9) rfl dX5_mend_53 ?_
        refine va_getN (D := D) (ci := 4) (v := .ref (Z 2)) (C := RX4) (T := TX4) (N := 16) hx hb hts hinX4 hown hK hP (4) rfl rfl 2 (by decide) hf52 (fun _ h9 => h9) rfl dX5_mend_56 ?_
        refine lv_iload_n hx hb dX5_mend_59 rfl (lv_at hl 2 rfl) ?_
        refine z_ald hx hb hK hP 6 (f := q 2) rfl k rfl (by omega) (by decide) dX5_mend_60 ?_
        refine lv_iload_n hx hb dX5_mend_61 rfl (lv_at hl 3 rfl) ?_
        refine lv_iadd hx hb dX5_mend_62 ?_
        refine lv_bipush (v := 100) hx hb dX5_mend_63 (by decide) ?_
        refine lv_icmp_gt (tgt := 81) hx hb dX5_mend_65 (by decide) (fun c4 => ?_) (fun c4 => ?_)
        · have d4 := Int32.not_le.mpr c4
          refine lv_aload_n hx hb dX5_mend_81 rfl (lv_at hl 1 rfl) ?_
          refine lv_iconst (v := 3) hx hb dX5_mend_82 (by decide) ?_
          refine zcMV (As := [.int 3]) (rest := []) (st1 := [.int 0]) (cells1 := 0) (slots1 := 0) ⟨hx, hb, hml, hown, hts⟩ (c_X5_no l D y Y Z Z2 0 t c q b bc n ar fi rn T 3 _) (cwV 1 hts gX5_mend_X5_no rfl rfl rfl (by decide +kernel) ⟨Nat.le_of_ble_eq_true rfl, Nat.le_of_ble_eq_true rfl⟩) hK hP (z_D_T hD) (ci := 5) (q0 := 0) rfl rfl rfl rfl hl.1 rfl (lv_room (Nat.le_of_ble_eq_true rfl)) dX5_mend_83 hS (z_sub_F hD hS hA z_in_r) ⟨Nat.le_of_ble_eq_true rfl, Nat.le_of_ble_eq_true rfl⟩ rfl rfl rfl (fun H locs hP1 hz hfr hS => ?_)
          have hD := z_D_adr hD (show (zW Y Z Z2 y 3 t c q b bc n ar fi rn T).map Prod.fst = _ from rfl)
          have hP := hP1
          exact zM_i hx hb hr hlocks hS dX5_mend_86 rfl hP
        · have d4 := Int32.not_lt.mp c4
          refine lv_aload_n hx hb dX5_mend_68 rfl (lv_at hl 1 rfl) ?_
          refine va_get (D := D) (ci := 5) (v := .ref (Z 0)) (C := RX5) (T := TX5) (N := 7) hx hb hts hinX5 hown hK hP (0) rfl rfl 5 (by decide) hf24 (fun _ h9 => h9) rfl dX5_mend_69 ?_
          refine va_getN (D := D) (ci := 4) (v := .ref (Z 3)) (C := RX4) (T := TX4) (N := 16) hx hb hts hinX4 hown hK hP (4) rfl rfl 3 (by decide) hf55 (fun _ h9 => h9) rfl dX5_mend_72 ?_
          refine lv_iload_n hx hb dX5_mend_75 rfl (lv_at hl 2 rfl) ?_
          refine z_ald hx hb hK hP 7 (f := q 4) rfl k rfl (by omega) (by decide) dX5_mend_76 ?_
          refine lv_iload_n hx hb dX5_mend_77 rfl (lv_at hl 0 rfl) ?_
          refine lv_icmp_ge (tgt := 87) hx hb dX5_mend_78 (by decide) (fun c5 => ?_) (fun c5 => ?_)
          · have d5 := Int32.not_lt.mpr c5
            exact (hh.elim (fun h9 => absurd (h9.symm.trans c3) (by decide)) (fun h9 => h9.elim (fun h9 => absurd h9 c4) (fun h9 => absurd h9 (Int32.not_lt.mpr c5))) : False).elim
          · have d5 := Int32.not_le.mp c5
            refine lv_aload_n hx hb dX5_mend_81 rfl (lv_at hl 1 rfl) ?_
            refine lv_iconst (v := 3) hx hb dX5_mend_82 (by decide) ?_
            refine zcMV (As := [.int 3]) (rest := []) (st1 := [.int 0]) (cells1 := 0) (slots1 := 0) ⟨hx, hb, hml, hown, hts⟩ (c_X5_no l D y Y Z Z2 0 t c q b bc n ar fi rn T 3 _) (cwV 1 hts gX5_mend_X5_no rfl rfl rfl (by decide +kernel) ⟨Nat.le_of_ble_eq_true rfl, Nat.le_of_ble_eq_true rfl⟩) hK hP (z_D_T hD) (ci := 5) (q0 := 0) rfl rfl rfl rfl hl.1 rfl (lv_room (Nat.le_of_ble_eq_true rfl)) dX5_mend_83 hS (z_sub_F hD hS hA z_in_r) ⟨Nat.le_of_ble_eq_true rfl, Nat.le_of_ble_eq_true rfl⟩ rfl rfl rfl (fun H locs hP1 hz hfr hS => ?_)
            have hD := z_D_adr hD (show (zW Y Z Z2 y 3 t c q b bc n ar fi rn T).map Prod.fst = _ from rfl)
            have hP := hP1
            exact zM_i hx hb hr hlocks hS dX5_mend_86 rfl hP
    · exact absurd (zb_f c2) (by rw [hw]; decide)
  · exact absurd (zb_f c1) (by rw [(inW_t hk hc)]; decide)
set_option maxHeartbeats 1000000 in
set_option maxRecDepth 100000 in
theorem c_X5_drive (l : Launch) (D : va_G) (y : Nat → ClassId) (Y Z Z2 : Nat → Nat) (th : Int32) (t : Nat → Int32) (c : Nat) (q b : Fld) (bc n : Nat) (ar fi rn : Int32) (T : Nst) (k : Nat) (hk : k < c) (x : Int32) (hw : inB 1 x 30 = true) (hh : heldB q k = true) (h1 : ¬ 30 < q 1 k + x) (h2 : ¬ q 4 k < (2 * x)) (hc : c ≤ 6) (sz : Nat) : zMN l yX5_drive wsX5_drive { frames := 2, cells := 0, slots := 0, locals := 43 } D y [.ref (Y 0), .int (nI k), .int x] (zW Y Z Z2 y th t c q b bc n ar fi rn T) sz (some (.int (q 1 k + x))) (zW Y Z Z2 y 0 t c (up2 (up2 q 4 k (q 4 k - (2 * x))) 1 k (q 1 k + x)) b bc n ar fi rn T) 0 0 := by
  refine zMN.of (cc := cX5_drive) (maxL := 3) (ret := (some .int)) (own := RX5) (by decide) rfl (Nat.le_of_ble_eq_true rfl) rfl ?_
  intro p e s m args below meth cd ls A H locs hx hb hr hml hown hts hlocks hP hK hD hA hS hN hl hin
  have hS0 := hS
  have hl : lv_has ls 3 [(0, .ref (Y 0)), (1, .int (nI k)), (2, .int x)] := hl
  have hf31 : (Cond.fieldLink RX5 31 "StakeWeirsModel" "thrown" "I").before args s = true := hts _ (by decide +kernel)
  have hinX5 : ∀ w ∈ wsX50, w ∈ wsX5_drive := by decide +kernel
  have hf24 : (Cond.fieldLink RX5 24 "StakeWeirsModel" "s" "LStakeWeirsModel$State;").before args s = true := hts _ (by decide +kernel)
  have hf49 : (Cond.fieldLinkNest "StakeWeirsModel" 49 "StakeWeirsModel$State" "stakes" "[I" "StakeWeirsModel").before args s = true := va_Nw.use rfl (hN ("StakeWeirsModel", 49, "StakeWeirsModel$State", "stakes", "[I", "StakeWeirsModel") (by decide +kernel))
  have hinX4 : ∀ w ∈ wsX40, w ∈ wsX5_drive := by decide +kernel
  have hf55 : (Cond.fieldLinkNest "StakeWeirsModel" 55 "StakeWeirsModel$State" "coins" "[I" "StakeWeirsModel").before args s = true := va_Nw.use rfl (hN ("StakeWeirsModel", 55, "StakeWeirsModel$State", "coins", "[I", "StakeWeirsModel") (by decide +kernel))
  refine lv_aload_n hx hb dX5_drive_0 rfl (lv_at hl 0 rfl) ?_
  refine lv_iconst (v := 0) hx hb dX5_drive_1 (by decide) ?_
  refine va_put (D := D) (ci := 5) (v := .int 0) (ty := .int) (C := RX5) (T := TX5) (N := 7) hx hb hts hinX5 tyX5 tyX5_ok nmX5 hown hK hP hD hS (0) rfl rfl 0 (by decide) hf31 (fun _ h9 => h9) rfl (by decide +kernel) rfl rfl (Nat.le_of_ble_eq_true rfl) dX5_drive_2 (fun H locs hP hD hS => ?_)
  have hP : va_P D vwCl (zW Y Z Z2 y 0 t c q b bc n ar fi rn T) H := hP
  have hD : va_D A (zW Y Z Z2 y 0 t c q b bc n ar fi rn T) := hD
  refine lv_aload_n hx hb dX5_drive_5 rfl (lv_at hl 0 rfl) ?_
  refine lv_iload_n hx hb dX5_drive_6 rfl (lv_at hl 1 rfl) ?_
  refine zcRV (As := [.int (nI k)]) (rest := []) (st1 := [.int (zb (inB 0 (nI k) (nI c - 1)))]) ⟨hx, hb, hml, hown, hts⟩ (c_X5_isWeir l D y Y Z Z2 0 t c q b bc n ar fi rn T (nI k)) (cwV 1 hts gX5_drive_X5_isWeir rfl rfl rfl (by decide +kernel) ⟨Nat.le_of_ble_eq_true rfl, Nat.le_of_ble_eq_true rfl⟩) hK hP (ci := 5) (q0 := 0) rfl rfl rfl rfl hl.1 rfl (lv_room (Nat.le_of_ble_eq_true rfl)) dX5_drive_7 ⟨Nat.le_of_ble_eq_true rfl, Nat.le_of_ble_eq_true rfl⟩ rfl ?_
  refine lv_if_ne (tgt := 19) hx hb dX5_drive_10 (by decide) (fun c1 => ?_) (fun c1 => ?_)
  · have c1 := c1
    refine lv_iload_n hx hb dX5_drive_19 rfl (lv_at hl 2 rfl) ?_
    refine lv_iconst (v := 1) hx hb dX5_drive_20 (by decide) ?_
    refine lv_bipush (v := 30) hx hb dX5_drive_21 (by decide) ?_
    refine zcRS (As := [.int x, .int 1, .int 30]) (rest := []) (st1 := [.int (zb (inB 1 x 30))]) ⟨hx, hb, hml, hown, hts⟩ (c_X5_isIn l D y x 1 30) (cwS 3 hts gX5_drive_X5_isIn rfl rfl rfl (by decide +kernel) ⟨Nat.le_of_ble_eq_true rfl, Nat.le_of_ble_eq_true rfl⟩) hK va_P_nil rfl hl.1 rfl (lv_room (Nat.le_of_ble_eq_true rfl)) dX5_drive_23 ⟨Nat.le_of_ble_eq_true rfl, Nat.le_of_ble_eq_true rfl⟩ rfl ?_
    refine lv_if_ne (tgt := 35) hx hb dX5_drive_26 (by decide) (fun c2 => ?_) (fun c2 => ?_)
    · have c2 := c2
      refine lv_aload_n hx hb dX5_drive_35 rfl (lv_at hl 0 rfl) ?_
      refine va_get (D := D) (ci := 5) (v := .ref (Z 0)) (C := RX5) (T := TX5) (N := 7) hx hb hts hinX5 hown hK hP (0) rfl rfl 5 (by decide) hf24 (fun _ h9 => h9) rfl dX5_drive_36 ?_
      refine lv_iload_n hx hb dX5_drive_39 rfl (lv_at hl 1 rfl) ?_
      refine zcRV (As := [.int (nI k)]) (rest := []) (st1 := [.int (zb (heldB q k))]) ⟨hx, hb, hml, hown, hts⟩ (c_X4_isHeld l D y Y Z (Z 0) (Z2 0) 0 t c q b bc n ar fi rn k (by omega)) (cwV 1 hts gX5_drive_X4_isHeld rfl rfl rfl (by decide +kernel) ⟨Nat.le_of_ble_eq_true rfl, Nat.le_of_ble_eq_true rfl⟩) hK (zz_sP hP) (ci := 4) (q0 := 4) rfl rfl rfl rfl hl.1 rfl (lv_room (Nat.le_of_ble_eq_true rfl)) dX5_drive_40 ⟨Nat.le_of_ble_eq_true rfl, Nat.le_of_ble_eq_true rfl⟩ rfl ?_
      refine lv_if_eq (tgt := 77) hx hb dX5_drive_43 (by decide) (fun c3 => ?_) (fun c3 => ?_)
      · exact absurd (zb_f c3) (by rw [hh]; decide)
      · have c3 := c3
        refine lv_aload_n hx hb dX5_drive_46 rfl (lv_at hl 0 rfl) ?_
        refine va_get (D := D) (ci := 5) (v := .ref (Z 0)) (C := RX5) (T := TX5) (N := 7) hx hb hts hinX5 hown hK hP (0) rfl rfl 5 (by decide) hf24 (fun _ h9 => h9) rfl dX5_drive_47 ?_
        refine va_getN (D := D) (ci := 4) (v := .ref (Z 1)) (C := RX4) (T := TX4) (N := 16) hx hb hts hinX4 hown hK hP (4) rfl rfl 1 (by decide) hf49 (fun _ h9 => h9) rfl dX5_drive_50 ?_
        refine lv_iload_n hx hb dX5_drive_53 rfl (lv_at hl 1 rfl) ?_
        refine z_ald hx hb hK hP 5 (f := q 1) rfl k rfl (by omega) (by decide) dX5_drive_54 ?_
        refine lv_iload_n hx hb dX5_drive_55 rfl (lv_at hl 2 rfl) ?_
        refine lv_iadd hx hb dX5_drive_56 ?_
        refine lv_bipush (v := 30) hx hb dX5_drive_57 (by decide) ?_
        refine lv_icmp_gt (tgt := 77) hx hb dX5_drive_59 (by decide) (fun c4 => ?_) (fun c4 => ?_)
        · exact absurd c4 h1
        · have d4 := Int32.not_lt.mp c4
          refine lv_aload_n hx hb dX5_drive_62 rfl (lv_at hl 0 rfl) ?_
          refine va_get (D := D) (ci := 5) (v := .ref (Z 0)) (C := RX5) (T := TX5) (N := 7) hx hb hts hinX5 hown hK hP (0) rfl rfl 5 (by decide) hf24 (fun _ h9 => h9) rfl dX5_drive_63 ?_
          refine va_getN (D := D) (ci := 4) (v := .ref (Z 3)) (C := RX4) (T := TX4) (N := 16) hx hb hts hinX4 hown hK hP (4) rfl rfl 3 (by decide) hf55 (fun _ h9 => h9) rfl dX5_drive_66 ?_
          refine lv_iload_n hx hb dX5_drive_69 rfl (lv_at hl 1 rfl) ?_
          refine z_ald hx hb hK hP 7 (f := q 4) rfl k rfl (by omega) (by decide) dX5_drive_70 ?_
          refine lv_iconst (v := 2) hx hb dX5_drive_71 (by decide) ?_
          refine lv_iload_n hx hb dX5_drive_72 rfl (lv_at hl 2 rfl) ?_
          refine lv_imul hx hb dX5_drive_73 ?_
          refine lv_icmp_ge (tgt := 83) hx hb dX5_drive_74 (by decide) (fun c5 => ?_) (fun c5 => ?_)
          · have d5 := Int32.not_lt.mpr c5
            refine lv_aload_n hx hb dX5_drive_83 rfl (lv_at hl 0 rfl) ?_
            refine va_get (D := D) (ci := 5) (v := .ref (Z 0)) (C := RX5) (T := TX5) (N := 7) hx hb hts hinX5 hown hK hP (0) rfl rfl 5 (by decide) hf24 (fun _ h9 => h9) rfl dX5_drive_84 ?_
            refine va_getN (D := D) (ci := 4) (v := .ref (Z 3)) (C := RX4) (T := TX4) (N := 16) hx hb hts hinX4 hown hK hP (4) rfl rfl 3 (by decide) hf55 (fun _ h9 => h9) rfl dX5_drive_87 ?_
            refine lv_iload_n hx hb dX5_drive_90 rfl (lv_at hl 1 rfl) ?_
            refine lv_dup2_11 hx hb dX5_drive_91 rfl rfl ?_
            refine z_ald hx hb hK hP 7 (f := q 4) rfl k rfl (by omega) (by decide) dX5_drive_92 ?_
            refine lv_iconst (v := 2) hx hb dX5_drive_93 (by decide) ?_
            refine lv_iload_n hx hb dX5_drive_94 rfl (lv_at hl 2 rfl) ?_
            refine lv_imul hx hb dX5_drive_95 ?_
            refine lv_isub hx hb dX5_drive_96 ?_
            refine z_ast hx hb hK hP hD hS 7 (f := q 4) rfl k rfl (by omega) (by decide) (zW_q4 (k := k)) dX5_drive_97 (fun H locs hP hD hS => ?_)
            have hP : va_P D vwCl (zW Y Z Z2 y 0 t c (up2 q 4 k ((q 4 k) - (2 * x))) b bc n ar fi rn T) H := hP
            have hD : va_D A (zW Y Z Z2 y 0 t c (up2 q 4 k ((q 4 k) - (2 * x))) b bc n ar fi rn T) := hD
            refine lv_aload_n hx hb dX5_drive_98 rfl (lv_at hl 0 rfl) ?_
            refine va_get (D := D) (ci := 5) (v := .ref (Z 0)) (C := RX5) (T := TX5) (N := 7) hx hb hts hinX5 hown hK hP (0) rfl rfl 5 (by decide) hf24 (fun _ h9 => h9) rfl dX5_drive_99 ?_
            refine va_getN (D := D) (ci := 4) (v := .ref (Z 1)) (C := RX4) (T := TX4) (N := 16) hx hb hts hinX4 hown hK hP (4) rfl rfl 1 (by decide) hf49 (fun _ h9 => h9) rfl dX5_drive_102 ?_
            refine lv_iload_n hx hb dX5_drive_105 rfl (lv_at hl 1 rfl) ?_
            refine lv_dup2_11 hx hb dX5_drive_106 rfl rfl ?_
            refine z_ald hx hb hK hP 5 (f := q 1) rfl k rfl (by omega) (by decide) dX5_drive_107 ?_
            refine lv_iload_n hx hb dX5_drive_108 rfl (lv_at hl 2 rfl) ?_
            refine lv_iadd hx hb dX5_drive_109 ?_
            refine z_ast hx hb hK hP hD hS 5 (f := (up2 q 4 k ((q 4 k) - (2 * x))) 1) rfl k rfl (by omega) (by decide) (zW_q1 (k := k)) dX5_drive_110 (fun H locs hP hD hS => ?_)
            have hP : va_P D vwCl (zW Y Z Z2 y 0 t c (up2 (up2 q 4 k ((q 4 k) - (2 * x))) 1 k ((q 1 k) + x)) b bc n ar fi rn T) H := hP
            have hD : va_D A (zW Y Z Z2 y 0 t c (up2 (up2 q 4 k ((q 4 k) - (2 * x))) 1 k ((q 1 k) + x)) b bc n ar fi rn T) := hD
            refine lv_aload_n hx hb dX5_drive_111 rfl (lv_at hl 0 rfl) ?_
            refine va_get (D := D) (ci := 5) (v := .ref (Z 0)) (C := RX5) (T := TX5) (N := 7) hx hb hts hinX5 hown hK hP (0) rfl rfl 5 (by decide) hf24 (fun _ h9 => h9) rfl dX5_drive_112 ?_
            refine va_getN (D := D) (ci := 4) (v := .ref (Z 1)) (C := RX4) (T := TX4) (N := 16) hx hb hts hinX4 hown hK hP (4) rfl rfl 1 (by decide) hf49 (fun _ h9 => h9) rfl dX5_drive_115 ?_
            refine lv_iload_n hx hb dX5_drive_118 rfl (lv_at hl 1 rfl) ?_
            refine z_ald hx hb hK hP 5 (f := (up2 (up2 q 4 k ((q 4 k) - (2 * x))) 1 k ((q 1 k) + x)) 1) rfl k rfl (by omega) (by decide) dX5_drive_119 ?_
            refine zt_i (x' := ((q 1 k) + x)) (up2_s _ _ _ _) ?_
            exact zM_i hx hb hr hlocks hS dX5_drive_120 rfl hP
          · exact absurd (Int32.not_lt.mp h2) c5
    · exact absurd (zb_f c2) (by rw [hw]; decide)
  · exact absurd (zb_f c1) (by rw [(inW_t hk hc)]; decide)
set_option maxHeartbeats 1000000 in
set_option maxRecDepth 100000 in
theorem c_X5_drive_N1 (l : Launch) (D : va_G) (y : Nat → ClassId) (Y Z Z2 : Nat → Nat) (th : Int32) (t : Nat → Int32) (c : Nat) (q b : Fld) (bc n : Nat) (ar fi rn : Int32) (T : Nst) (x : Int32) (hx0 : x < 0 ∨ nI c ≤ x) (z : Int32) (hc : c ≤ 6) (sz : Nat) : zMN l yX5_drive wsX5_drive { frames := 2, cells := 0, slots := 0, locals := 43 } D y [.ref (Y 0), .int x, .int z] (zW Y Z Z2 y th t c q b bc n ar fi rn T) sz (some (.int 0)) (zW Y Z Z2 y 1 t c q b bc n ar fi rn T) 0 0 := by
  refine zMN.of (cc := cX5_drive) (maxL := 3) (ret := (some .int)) (own := RX5) (by decide) rfl (Nat.le_of_ble_eq_true rfl) rfl ?_
  intro p e s m args below meth cd ls A H locs hx hb hr hml hown hts hlocks hP hK hD hA hS hN hl hin
  have hS0 := hS
  have hl : lv_has ls 3 [(0, .ref (Y 0)), (1, .int x), (2, .int z)] := hl
  have hf31 : (Cond.fieldLink RX5 31 "StakeWeirsModel" "thrown" "I").before args s = true := hts _ (by decide +kernel)
  have hinX5 : ∀ w ∈ wsX50, w ∈ wsX5_drive := by decide +kernel
  refine lv_aload_n hx hb dX5_drive_0 rfl (lv_at hl 0 rfl) ?_
  refine lv_iconst (v := 0) hx hb dX5_drive_1 (by decide) ?_
  refine va_put (D := D) (ci := 5) (v := .int 0) (ty := .int) (C := RX5) (T := TX5) (N := 7) hx hb hts hinX5 tyX5 tyX5_ok nmX5 hown hK hP hD hS (0) rfl rfl 0 (by decide) hf31 (fun _ h9 => h9) rfl (by decide +kernel) rfl rfl (Nat.le_of_ble_eq_true rfl) dX5_drive_2 (fun H locs hP hD hS => ?_)
  have hP : va_P D vwCl (zW Y Z Z2 y 0 t c q b bc n ar fi rn T) H := hP
  have hD : va_D A (zW Y Z Z2 y 0 t c q b bc n ar fi rn T) := hD
  refine lv_aload_n hx hb dX5_drive_5 rfl (lv_at hl 0 rfl) ?_
  refine lv_iload_n hx hb dX5_drive_6 rfl (lv_at hl 1 rfl) ?_
  refine zcRV (As := [.int x]) (rest := []) (st1 := [.int (zb (inB 0 x (nI c - 1)))]) ⟨hx, hb, hml, hown, hts⟩ (c_X5_isWeir l D y Y Z Z2 0 t c q b bc n ar fi rn T x) (cwV 1 hts gX5_drive_X5_isWeir rfl rfl rfl (by decide +kernel) ⟨Nat.le_of_ble_eq_true rfl, Nat.le_of_ble_eq_true rfl⟩) hK hP (ci := 5) (q0 := 0) rfl rfl rfl rfl hl.1 rfl (lv_room (Nat.le_of_ble_eq_true rfl)) dX5_drive_7 ⟨Nat.le_of_ble_eq_true rfl, Nat.le_of_ble_eq_true rfl⟩ rfl ?_
  refine lv_if_ne (tgt := 19) hx hb dX5_drive_10 (by decide) (fun c1 => ?_) (fun c1 => ?_)
  · exact absurd (zb_t c1) (by rw [(inW_f hx0 hc)]; decide)
  · have c1 := c1
    refine lv_aload_n hx hb dX5_drive_13 rfl (lv_at hl 0 rfl) ?_
    refine lv_iconst (v := 1) hx hb dX5_drive_14 (by decide) ?_
    refine zcMV (As := [.int 1]) (rest := []) (st1 := [.int 0]) (cells1 := 0) (slots1 := 0) ⟨hx, hb, hml, hown, hts⟩ (c_X5_no l D y Y Z Z2 0 t c q b bc n ar fi rn T 1 _) (cwV 1 hts gX5_drive_X5_no rfl rfl rfl (by decide +kernel) ⟨Nat.le_of_ble_eq_true rfl, Nat.le_of_ble_eq_true rfl⟩) hK hP (z_D_T hD) (ci := 5) (q0 := 0) rfl rfl rfl rfl hl.1 rfl (lv_room (Nat.le_of_ble_eq_true rfl)) dX5_drive_15 hS (z_sub_F hD hS hA z_in_r) ⟨Nat.le_of_ble_eq_true rfl, Nat.le_of_ble_eq_true rfl⟩ rfl rfl rfl (fun H locs hP1 hz hfr hS => ?_)
    have hD := z_D_adr hD (show (zW Y Z Z2 y 1 t c q b bc n ar fi rn T).map Prod.fst = _ from rfl)
    have hP := hP1
    exact zM_i hx hb hr hlocks hS dX5_drive_18 rfl hP
set_option maxHeartbeats 1000000 in
set_option maxRecDepth 100000 in
theorem c_X5_drive_N2 (l : Launch) (D : va_G) (y : Nat → ClassId) (Y Z Z2 : Nat → Nat) (th : Int32) (t : Nat → Int32) (c : Nat) (q b : Fld) (bc n : Nat) (ar fi rn : Int32) (T : Nst) (k : Nat) (hk : k < c) (x : Int32) (hw : inB 1 x 30 = false) (hc : c ≤ 6) (sz : Nat) : zMN l yX5_drive wsX5_drive { frames := 2, cells := 0, slots := 0, locals := 43 } D y [.ref (Y 0), .int (nI k), .int x] (zW Y Z Z2 y th t c q b bc n ar fi rn T) sz (some (.int 0)) (zW Y Z Z2 y 2 t c q b bc n ar fi rn T) 0 0 := by
  refine zMN.of (cc := cX5_drive) (maxL := 3) (ret := (some .int)) (own := RX5) (by decide) rfl (Nat.le_of_ble_eq_true rfl) rfl ?_
  intro p e s m args below meth cd ls A H locs hx hb hr hml hown hts hlocks hP hK hD hA hS hN hl hin
  have hS0 := hS
  have hl : lv_has ls 3 [(0, .ref (Y 0)), (1, .int (nI k)), (2, .int x)] := hl
  have hf31 : (Cond.fieldLink RX5 31 "StakeWeirsModel" "thrown" "I").before args s = true := hts _ (by decide +kernel)
  have hinX5 : ∀ w ∈ wsX50, w ∈ wsX5_drive := by decide +kernel
  refine lv_aload_n hx hb dX5_drive_0 rfl (lv_at hl 0 rfl) ?_
  refine lv_iconst (v := 0) hx hb dX5_drive_1 (by decide) ?_
  refine va_put (D := D) (ci := 5) (v := .int 0) (ty := .int) (C := RX5) (T := TX5) (N := 7) hx hb hts hinX5 tyX5 tyX5_ok nmX5 hown hK hP hD hS (0) rfl rfl 0 (by decide) hf31 (fun _ h9 => h9) rfl (by decide +kernel) rfl rfl (Nat.le_of_ble_eq_true rfl) dX5_drive_2 (fun H locs hP hD hS => ?_)
  have hP : va_P D vwCl (zW Y Z Z2 y 0 t c q b bc n ar fi rn T) H := hP
  have hD : va_D A (zW Y Z Z2 y 0 t c q b bc n ar fi rn T) := hD
  refine lv_aload_n hx hb dX5_drive_5 rfl (lv_at hl 0 rfl) ?_
  refine lv_iload_n hx hb dX5_drive_6 rfl (lv_at hl 1 rfl) ?_
  refine zcRV (As := [.int (nI k)]) (rest := []) (st1 := [.int (zb (inB 0 (nI k) (nI c - 1)))]) ⟨hx, hb, hml, hown, hts⟩ (c_X5_isWeir l D y Y Z Z2 0 t c q b bc n ar fi rn T (nI k)) (cwV 1 hts gX5_drive_X5_isWeir rfl rfl rfl (by decide +kernel) ⟨Nat.le_of_ble_eq_true rfl, Nat.le_of_ble_eq_true rfl⟩) hK hP (ci := 5) (q0 := 0) rfl rfl rfl rfl hl.1 rfl (lv_room (Nat.le_of_ble_eq_true rfl)) dX5_drive_7 ⟨Nat.le_of_ble_eq_true rfl, Nat.le_of_ble_eq_true rfl⟩ rfl ?_
  refine lv_if_ne (tgt := 19) hx hb dX5_drive_10 (by decide) (fun c1 => ?_) (fun c1 => ?_)
  · have c1 := c1
    refine lv_iload_n hx hb dX5_drive_19 rfl (lv_at hl 2 rfl) ?_
    refine lv_iconst (v := 1) hx hb dX5_drive_20 (by decide) ?_
    refine lv_bipush (v := 30) hx hb dX5_drive_21 (by decide) ?_
    refine zcRS (As := [.int x, .int 1, .int 30]) (rest := []) (st1 := [.int (zb (inB 1 x 30))]) ⟨hx, hb, hml, hown, hts⟩ (c_X5_isIn l D y x 1 30) (cwS 3 hts gX5_drive_X5_isIn rfl rfl rfl (by decide +kernel) ⟨Nat.le_of_ble_eq_true rfl, Nat.le_of_ble_eq_true rfl⟩) hK va_P_nil rfl hl.1 rfl (lv_room (Nat.le_of_ble_eq_true rfl)) dX5_drive_23 ⟨Nat.le_of_ble_eq_true rfl, Nat.le_of_ble_eq_true rfl⟩ rfl ?_
    refine lv_if_ne (tgt := 35) hx hb dX5_drive_26 (by decide) (fun c2 => ?_) (fun c2 => ?_)
    · exact absurd (zb_t c2) (by rw [hw]; decide)
    · have c2 := c2
      refine lv_aload_n hx hb dX5_drive_29 rfl (lv_at hl 0 rfl) ?_
      refine lv_iconst (v := 2) hx hb dX5_drive_30 (by decide) ?_
      refine zcMV (As := [.int 2]) (rest := []) (st1 := [.int 0]) (cells1 := 0) (slots1 := 0) ⟨hx, hb, hml, hown, hts⟩ (c_X5_no l D y Y Z Z2 0 t c q b bc n ar fi rn T 2 _) (cwV 1 hts gX5_drive_X5_no rfl rfl rfl (by decide +kernel) ⟨Nat.le_of_ble_eq_true rfl, Nat.le_of_ble_eq_true rfl⟩) hK hP (z_D_T hD) (ci := 5) (q0 := 0) rfl rfl rfl rfl hl.1 rfl (lv_room (Nat.le_of_ble_eq_true rfl)) dX5_drive_31 hS (z_sub_F hD hS hA z_in_r) ⟨Nat.le_of_ble_eq_true rfl, Nat.le_of_ble_eq_true rfl⟩ rfl rfl rfl (fun H locs hP1 hz hfr hS => ?_)
      have hD := z_D_adr hD (show (zW Y Z Z2 y 2 t c q b bc n ar fi rn T).map Prod.fst = _ from rfl)
      have hP := hP1
      exact zM_i hx hb hr hlocks hS dX5_drive_34 rfl hP
  · exact absurd (zb_f c1) (by rw [(inW_t hk hc)]; decide)
set_option maxHeartbeats 1000000 in
set_option maxRecDepth 100000 in
theorem c_X5_drive_N3 (l : Launch) (D : va_G) (y : Nat → ClassId) (Y Z Z2 : Nat → Nat) (th : Int32) (t : Nat → Int32) (c : Nat) (q b : Fld) (bc n : Nat) (ar fi rn : Int32) (T : Nst) (k : Nat) (hk : k < c) (x : Int32) (hw : inB 1 x 30 = true) (hh : heldB q k = false ∨ 30 < q 1 k + x ∨ q 4 k < (2 * x)) (hc : c ≤ 6) (sz : Nat) : zMN l yX5_drive wsX5_drive { frames := 2, cells := 0, slots := 0, locals := 43 } D y [.ref (Y 0), .int (nI k), .int x] (zW Y Z Z2 y th t c q b bc n ar fi rn T) sz (some (.int 0)) (zW Y Z Z2 y 3 t c q b bc n ar fi rn T) 0 0 := by
  refine zMN.of (cc := cX5_drive) (maxL := 3) (ret := (some .int)) (own := RX5) (by decide) rfl (Nat.le_of_ble_eq_true rfl) rfl ?_
  intro p e s m args below meth cd ls A H locs hx hb hr hml hown hts hlocks hP hK hD hA hS hN hl hin
  have hS0 := hS
  have hl : lv_has ls 3 [(0, .ref (Y 0)), (1, .int (nI k)), (2, .int x)] := hl
  have hf31 : (Cond.fieldLink RX5 31 "StakeWeirsModel" "thrown" "I").before args s = true := hts _ (by decide +kernel)
  have hinX5 : ∀ w ∈ wsX50, w ∈ wsX5_drive := by decide +kernel
  have hf24 : (Cond.fieldLink RX5 24 "StakeWeirsModel" "s" "LStakeWeirsModel$State;").before args s = true := hts _ (by decide +kernel)
  have hf49 : (Cond.fieldLinkNest "StakeWeirsModel" 49 "StakeWeirsModel$State" "stakes" "[I" "StakeWeirsModel").before args s = true := va_Nw.use rfl (hN ("StakeWeirsModel", 49, "StakeWeirsModel$State", "stakes", "[I", "StakeWeirsModel") (by decide +kernel))
  have hinX4 : ∀ w ∈ wsX40, w ∈ wsX5_drive := by decide +kernel
  have hf55 : (Cond.fieldLinkNest "StakeWeirsModel" 55 "StakeWeirsModel$State" "coins" "[I" "StakeWeirsModel").before args s = true := va_Nw.use rfl (hN ("StakeWeirsModel", 55, "StakeWeirsModel$State", "coins", "[I", "StakeWeirsModel") (by decide +kernel))
  refine lv_aload_n hx hb dX5_drive_0 rfl (lv_at hl 0 rfl) ?_
  refine lv_iconst (v := 0) hx hb dX5_drive_1 (by decide) ?_
  refine va_put (D := D) (ci := 5) (v := .int 0) (ty := .int) (C := RX5) (T := TX5) (N := 7) hx hb hts hinX5 tyX5 tyX5_ok nmX5 hown hK hP hD hS (0) rfl rfl 0 (by decide) hf31 (fun _ h9 => h9) rfl (by decide +kernel) rfl rfl (Nat.le_of_ble_eq_true rfl) dX5_drive_2 (fun H locs hP hD hS => ?_)
  have hP : va_P D vwCl (zW Y Z Z2 y 0 t c q b bc n ar fi rn T) H := hP
  have hD : va_D A (zW Y Z Z2 y 0 t c q b bc n ar fi rn T) := hD
  refine lv_aload_n hx hb dX5_drive_5 rfl (lv_at hl 0 rfl) ?_
  refine lv_iload_n hx hb dX5_drive_6 rfl (lv_at hl 1 rfl) ?_
  refine zcRV (As := [.int (nI k)]) (rest := []) (st1 := [.int (zb (inB 0 (nI k) (nI c - 1)))]) ⟨hx, hb, hml, hown, hts⟩ (c_X5_isWeir l D y Y Z Z2 0 t c q b bc n ar fi rn T (nI k)) (cwV 1 hts gX5_drive_X5_isWeir rfl rfl rfl (by decide +kernel) ⟨Nat.le_of_ble_eq_true rfl, Nat.le_of_ble_eq_true rfl⟩) hK hP (ci := 5) (q0 := 0) rfl rfl rfl rfl hl.1 rfl (lv_room (Nat.le_of_ble_eq_true rfl)) dX5_drive_7 ⟨Nat.le_of_ble_eq_true rfl, Nat.le_of_ble_eq_true rfl⟩ rfl ?_
  refine lv_if_ne (tgt := 19) hx hb dX5_drive_10 (by decide) (fun c1 => ?_) (fun c1 => ?_)
  · have c1 := c1
    refine lv_iload_n hx hb dX5_drive_19 rfl (lv_at hl 2 rfl) ?_
    refine lv_iconst (v := 1) hx hb dX5_drive_20 (by decide) ?_
    refine lv_bipush (v := 30) hx hb dX5_drive_21 (by decide) ?_
    refine zcRS (As := [.int x, .int 1, .int 30]) (rest := []) (st1 := [.int (zb (inB 1 x 30))]) ⟨hx, hb, hml, hown, hts⟩ (c_X5_isIn l D y x 1 30) (cwS 3 hts gX5_drive_X5_isIn rfl rfl rfl (by decide +kernel) ⟨Nat.le_of_ble_eq_true rfl, Nat.le_of_ble_eq_true rfl⟩) hK va_P_nil rfl hl.1 rfl (lv_room (Nat.le_of_ble_eq_true rfl)) dX5_drive_23 ⟨Nat.le_of_ble_eq_true rfl, Nat.le_of_ble_eq_true rfl⟩ rfl ?_
    refine lv_if_ne (tgt := 35) hx hb dX5_drive_26 (by decide) (fun c2 => ?_) (fun c2 => ?_)
    · have c2 := c2
      refine lv_aload_n hx hb dX5_drive_35 rfl (lv_at hl 0 rfl) ?_
      refine va_get (D := D) (ci := 5) (v := .ref (Z 0)) (C := RX5) (T := TX5) (N := 7) hx hb hts hinX5 hown hK hP (0) rfl rfl 5 (by decide) hf24 (fun _ h9 => h9) rfl dX5_drive_36 ?_
      refine lv_iload_n hx hb dX5_drive_39 rfl (lv_at hl 1 rfl) ?_
      refine zcRV (As := [.int (nI k)]) (rest := []) (st1 := [.int (zb (heldB q k))]) ⟨hx, hb, hml, hown, hts⟩ (c_X4_isHeld l D y Y Z (Z 0) (Z2 0) 0 t c q b bc n ar fi rn k (by omega)) (cwV 1 hts gX5_drive_X4_isHeld rfl rfl rfl (by decide +kernel) ⟨Nat.le_of_ble_eq_true rfl, Nat.le_of_ble_eq_true rfl⟩) hK (zz_sP hP) (ci := 4) (q0 := 4) rfl rfl rfl rfl hl.1 rfl (lv_room (Nat.le_of_ble_eq_true rfl)) dX5_drive_40 ⟨Nat.le_of_ble_eq_true rfl, Nat.le_of_ble_eq_true rfl⟩ rfl ?_
      refine lv_if_eq (tgt := 77) hx hb dX5_drive_43 (by decide) (fun c3 => ?_) (fun c3 => ?_)
      · have c3 : heldB q k = false := zb_f c3
        refine lv_aload_n hx hb dX5_drive_77 rfl (lv_at hl 0 rfl) ?_
        refine lv_iconst (v := 3) hx hb dX5_drive_78 (by decide) ?_
        refine zcMV (As := [.int 3]) (rest := []) (st1 := [.int 0]) (cells1 := 0) (slots1 := 0) ⟨hx, hb, hml, hown, hts⟩ (c_X5_no l D y Y Z Z2 0 t c q b bc n ar fi rn T 3 _) (cwV 1 hts gX5_drive_X5_no rfl rfl rfl (by decide +kernel) ⟨Nat.le_of_ble_eq_true rfl, Nat.le_of_ble_eq_true rfl⟩) hK hP (z_D_T hD) (ci := 5) (q0 := 0) rfl rfl rfl rfl hl.1 rfl (lv_room (Nat.le_of_ble_eq_true rfl)) dX5_drive_79 hS (z_sub_F hD hS hA z_in_r) ⟨Nat.le_of_ble_eq_true rfl, Nat.le_of_ble_eq_true rfl⟩ rfl rfl rfl (fun H locs hP1 hz hfr hS => ?_)
        have hD := z_D_adr hD (show (zW Y Z Z2 y 3 t c q b bc n ar fi rn T).map Prod.fst = _ from rfl)
        have hP := hP1
        exact zM_i hx hb hr hlocks hS dX5_drive_82 rfl hP
      · have c3 : heldB q k = true := zb_t c3
        refine lv_aload_n hx hb dX5_drive_46 rfl (lv_at hl 0 rfl) ?_
        refine va_get (D := D) (ci := 5) (v := .ref (Z 0)) (C := RX5) (T := TX5) (N := 7) hx hb hts hinX5 hown hK hP (0) rfl rfl 5 (by decide) hf24 (fun _ h9 => h9) rfl dX5_drive_47 ?_
        refine va_getN (D := D) (ci := 4) (v := .ref (Z 1)) (C := RX4) (T := TX4) (N := 16) hx hb hts hinX4 hown hK hP (4) rfl rfl 1 (by decide) hf49 (fun _ h9 => h9) rfl dX5_drive_50 ?_
        refine lv_iload_n hx hb dX5_drive_53 rfl (lv_at hl 1 rfl) ?_
        refine z_ald hx hb hK hP 5 (f := q 1) rfl k rfl (by omega) (by decide) dX5_drive_54 ?_
        refine lv_iload_n hx hb dX5_drive_55 rfl (lv_at hl 2 rfl) ?_
        refine lv_iadd hx hb dX5_drive_56 ?_
        refine lv_bipush (v := 30) hx hb dX5_drive_57 (by decide) ?_
        refine lv_icmp_gt (tgt := 77) hx hb dX5_drive_59 (by decide) (fun c4 => ?_) (fun c4 => ?_)
        · have d4 := Int32.not_le.mpr c4
          refine lv_aload_n hx hb dX5_drive_77 rfl (lv_at hl 0 rfl) ?_
          refine lv_iconst (v := 3) hx hb dX5_drive_78 (by decide) ?_
          refine zcMV (As := [.int 3]) (rest := []) (st1 := [.int 0]) (cells1 := 0) (slots1 := 0) ⟨hx, hb, hml, hown, hts⟩ (c_X5_no l D y Y Z Z2 0 t c q b bc n ar fi rn T 3 _) (cwV 1 hts gX5_drive_X5_no rfl rfl rfl (by decide +kernel) ⟨Nat.le_of_ble_eq_true rfl, Nat.le_of_ble_eq_true rfl⟩) hK hP (z_D_T hD) (ci := 5) (q0 := 0) rfl rfl rfl rfl hl.1 rfl (lv_room (Nat.le_of_ble_eq_true rfl)) dX5_drive_79 hS (z_sub_F hD hS hA z_in_r) ⟨Nat.le_of_ble_eq_true rfl, Nat.le_of_ble_eq_true rfl⟩ rfl rfl rfl (fun H locs hP1 hz hfr hS => ?_)
          have hD := z_D_adr hD (show (zW Y Z Z2 y 3 t c q b bc n ar fi rn T).map Prod.fst = _ from rfl)
          have hP := hP1
          exact zM_i hx hb hr hlocks hS dX5_drive_82 rfl hP
        · have d4 := Int32.not_lt.mp c4
          refine lv_aload_n hx hb dX5_drive_62 rfl (lv_at hl 0 rfl) ?_
          refine va_get (D := D) (ci := 5) (v := .ref (Z 0)) (C := RX5) (T := TX5) (N := 7) hx hb hts hinX5 hown hK hP (0) rfl rfl 5 (by decide) hf24 (fun _ h9 => h9) rfl dX5_drive_63 ?_
          refine va_getN (D := D) (ci := 4) (v := .ref (Z 3)) (C := RX4) (T := TX4) (N := 16) hx hb hts hinX4 hown hK hP (4) rfl rfl 3 (by decide) hf55 (fun _ h9 => h9) rfl dX5_drive_66 ?_
          refine lv_iload_n hx hb dX5_drive_69 rfl (lv_at hl 1 rfl) ?_
          refine z_ald hx hb hK hP 7 (f := q 4) rfl k rfl (by omega) (by decide) dX5_drive_70 ?_
          refine lv_iconst (v := 2) hx hb dX5_drive_71 (by decide) ?_
          refine lv_iload_n hx hb dX5_drive_72 rfl (lv_at hl 2 rfl) ?_
          refine lv_imul hx hb dX5_drive_73 ?_
          refine lv_icmp_ge (tgt := 83) hx hb dX5_drive_74 (by decide) (fun c5 => ?_) (fun c5 => ?_)
          · have d5 := Int32.not_lt.mpr c5
            exact (hh.elim (fun h9 => absurd (h9.symm.trans c3) (by decide)) (fun h9 => h9.elim (fun h9 => absurd h9 c4) (fun h9 => absurd h9 (Int32.not_lt.mpr c5))) : False).elim
          · have d5 := Int32.not_le.mp c5
            refine lv_aload_n hx hb dX5_drive_77 rfl (lv_at hl 0 rfl) ?_
            refine lv_iconst (v := 3) hx hb dX5_drive_78 (by decide) ?_
            refine zcMV (As := [.int 3]) (rest := []) (st1 := [.int 0]) (cells1 := 0) (slots1 := 0) ⟨hx, hb, hml, hown, hts⟩ (c_X5_no l D y Y Z Z2 0 t c q b bc n ar fi rn T 3 _) (cwV 1 hts gX5_drive_X5_no rfl rfl rfl (by decide +kernel) ⟨Nat.le_of_ble_eq_true rfl, Nat.le_of_ble_eq_true rfl⟩) hK hP (z_D_T hD) (ci := 5) (q0 := 0) rfl rfl rfl rfl hl.1 rfl (lv_room (Nat.le_of_ble_eq_true rfl)) dX5_drive_79 hS (z_sub_F hD hS hA z_in_r) ⟨Nat.le_of_ble_eq_true rfl, Nat.le_of_ble_eq_true rfl⟩ rfl rfl rfl (fun H locs hP1 hz hfr hS => ?_)
            have hD := z_D_adr hD (show (zW Y Z Z2 y 3 t c q b bc n ar fi rn T).map Prod.fst = _ from rfl)
            have hP := hP1
            exact zM_i hx hb hr hlocks hS dX5_drive_82 rfl hP
    · exact absurd (zb_f c2) (by rw [hw]; decide)
  · exact absurd (zb_f c1) (by rw [(inW_t hk hc)]; decide)
set_option maxHeartbeats 1000000 in
set_option maxRecDepth 100000 in
theorem c_X5_sell (l : Launch) (D : va_G) (y : Nat → ClassId) (Y Z Z2 : Nat → Nat) (th : Int32) (t : Nat → Int32) (c : Nat) (q b : Fld) (bc n : Nat) (ar fi rn : Int32) (T : Nst) (k : Nat) (hk : k < c) (hh : heldB q k = true) (he : ¬ q 5 k = 0) (hc : c ≤ 6) (hn : n < 2147483648) (sz : Nat) : zMN l yX5_sell wsX5_sell { frames := 2, cells := 0, slots := 0, locals := 43 } D y [.ref (Y 0), .int (nI k)] (zW Y Z Z2 y th t c q b bc n ar fi rn T) sz (some (.int (priceI (q 5 k) (moonI n)))) (zW Y Z Z2 y 0 t c (up2 (up2 q 5 k 0) 4 k (q 4 k + priceI (q 5 k) (moonI n))) b bc n ar fi rn T) 0 0 := by
  refine zMN.of (cc := cX5_sell) (maxL := 4) (ret := (some .int)) (own := RX5) (by decide) rfl (Nat.le_of_ble_eq_true rfl) rfl ?_
  intro p e s m args below meth cd ls A H locs hx hb hr hml hown hts hlocks hP hK hD hA hS hN hl hin
  have hS0 := hS
  have hl : lv_has ls 4 [(0, .ref (Y 0)), (1, .int (nI k))] := hl
  have hf31 : (Cond.fieldLink RX5 31 "StakeWeirsModel" "thrown" "I").before args s = true := hts _ (by decide +kernel)
  have hinX5 : ∀ w ∈ wsX50, w ∈ wsX5_sell := by decide +kernel
  have hf24 : (Cond.fieldLink RX5 24 "StakeWeirsModel" "s" "LStakeWeirsModel$State;").before args s = true := hts _ (by decide +kernel)
  have hf68 : (Cond.fieldLinkNest "StakeWeirsModel" 68 "StakeWeirsModel$State" "eels" "[I" "StakeWeirsModel").before args s = true := va_Nw.use rfl (hN ("StakeWeirsModel", 68, "StakeWeirsModel$State", "eels", "[I", "StakeWeirsModel") (by decide +kernel))
  have hinX4 : ∀ w ∈ wsX40, w ∈ wsX5_sell := by decide +kernel
  have hf55 : (Cond.fieldLinkNest "StakeWeirsModel" 55 "StakeWeirsModel$State" "coins" "[I" "StakeWeirsModel").before args s = true := va_Nw.use rfl (hN ("StakeWeirsModel", 55, "StakeWeirsModel$State", "coins", "[I", "StakeWeirsModel") (by decide +kernel))
  refine lv_aload_n hx hb dX5_sell_0 rfl (lv_at hl 0 rfl) ?_
  refine lv_iconst (v := 0) hx hb dX5_sell_1 (by decide) ?_
  refine va_put (D := D) (ci := 5) (v := .int 0) (ty := .int) (C := RX5) (T := TX5) (N := 7) hx hb hts hinX5 tyX5 tyX5_ok nmX5 hown hK hP hD hS (0) rfl rfl 0 (by decide) hf31 (fun _ h9 => h9) rfl (by decide +kernel) rfl rfl (Nat.le_of_ble_eq_true rfl) dX5_sell_2 (fun H locs hP hD hS => ?_)
  have hP : va_P D vwCl (zW Y Z Z2 y 0 t c q b bc n ar fi rn T) H := hP
  have hD : va_D A (zW Y Z Z2 y 0 t c q b bc n ar fi rn T) := hD
  refine lv_aload_n hx hb dX5_sell_5 rfl (lv_at hl 0 rfl) ?_
  refine lv_iload_n hx hb dX5_sell_6 rfl (lv_at hl 1 rfl) ?_
  refine zcRV (As := [.int (nI k)]) (rest := []) (st1 := [.int (zb (inB 0 (nI k) (nI c - 1)))]) ⟨hx, hb, hml, hown, hts⟩ (c_X5_isWeir l D y Y Z Z2 0 t c q b bc n ar fi rn T (nI k)) (cwV 1 hts gX5_sell_X5_isWeir rfl rfl rfl (by decide +kernel) ⟨Nat.le_of_ble_eq_true rfl, Nat.le_of_ble_eq_true rfl⟩) hK hP (ci := 5) (q0 := 0) rfl rfl rfl rfl hl.1 rfl (lv_room (Nat.le_of_ble_eq_true rfl)) dX5_sell_7 ⟨Nat.le_of_ble_eq_true rfl, Nat.le_of_ble_eq_true rfl⟩ rfl ?_
  refine lv_if_ne (tgt := 19) hx hb dX5_sell_10 (by decide) (fun c1 => ?_) (fun c1 => ?_)
  · have c1 := c1
    refine lv_aload_n hx hb dX5_sell_19 rfl (lv_at hl 0 rfl) ?_
    refine va_get (D := D) (ci := 5) (v := .ref (Z 0)) (C := RX5) (T := TX5) (N := 7) hx hb hts hinX5 hown hK hP (0) rfl rfl 5 (by decide) hf24 (fun _ h9 => h9) rfl dX5_sell_20 ?_
    refine lv_iload_n hx hb dX5_sell_23 rfl (lv_at hl 1 rfl) ?_
    refine zcRV (As := [.int (nI k)]) (rest := []) (st1 := [.int (zb (heldB q k))]) ⟨hx, hb, hml, hown, hts⟩ (c_X4_isHeld l D y Y Z (Z 0) (Z2 0) 0 t c q b bc n ar fi rn k (by omega)) (cwV 1 hts gX5_sell_X4_isHeld rfl rfl rfl (by decide +kernel) ⟨Nat.le_of_ble_eq_true rfl, Nat.le_of_ble_eq_true rfl⟩) hK (zz_sP hP) (ci := 4) (q0 := 4) rfl rfl rfl rfl hl.1 rfl (lv_room (Nat.le_of_ble_eq_true rfl)) dX5_sell_24 ⟨Nat.le_of_ble_eq_true rfl, Nat.le_of_ble_eq_true rfl⟩ rfl ?_
    refine lv_if_eq (tgt := 42) hx hb dX5_sell_27 (by decide) (fun c2 => ?_) (fun c2 => ?_)
    · exact absurd (zb_f c2) (by rw [hh]; decide)
    · have c2 := c2
      refine lv_aload_n hx hb dX5_sell_30 rfl (lv_at hl 0 rfl) ?_
      refine va_get (D := D) (ci := 5) (v := .ref (Z 0)) (C := RX5) (T := TX5) (N := 7) hx hb hts hinX5 hown hK hP (0) rfl rfl 5 (by decide) hf24 (fun _ h9 => h9) rfl dX5_sell_31 ?_
      refine va_getN (D := D) (ci := 4) (v := .ref (Z 4)) (C := RX4) (T := TX4) (N := 16) hx hb hts hinX4 hown hK hP (4) rfl rfl 4 (by decide) hf68 (fun _ h9 => h9) rfl dX5_sell_34 ?_
      refine lv_iload_n hx hb dX5_sell_37 rfl (lv_at hl 1 rfl) ?_
      refine z_ald hx hb hK hP 8 (f := q 5) rfl k rfl (by omega) (by decide) dX5_sell_38 ?_
      refine lv_if_ne (tgt := 48) hx hb dX5_sell_39 (by decide) (fun c3 => ?_) (fun c3 => ?_)
      · have d3 := c3
        refine lv_aload_n hx hb dX5_sell_48 rfl (lv_at hl 0 rfl) ?_
        refine va_get (D := D) (ci := 5) (v := .ref (Z 0)) (C := RX5) (T := TX5) (N := 7) hx hb hts hinX5 hown hK hP (0) rfl rfl 5 (by decide) hf24 (fun _ h9 => h9) rfl dX5_sell_49 ?_
        refine va_getN (D := D) (ci := 4) (v := .ref (Z 4)) (C := RX4) (T := TX4) (N := 16) hx hb hts hinX4 hown hK hP (4) rfl rfl 4 (by decide) hf68 (fun _ h9 => h9) rfl dX5_sell_52 ?_
        refine lv_iload_n hx hb dX5_sell_55 rfl (lv_at hl 1 rfl) ?_
        refine z_ald hx hb hK hP 8 (f := q 5) rfl k rfl (by omega) (by decide) dX5_sell_56 ?_
        refine lv_istore_n (lv' := [(2, .int ((q 5 k))), (0, .ref (Y 0)), (1, .int (nI k))]) hx hb dX5_sell_57 rfl hl (by decide) rfl (fun ls hl => ?_)
        refine lv_aload_n hx hb dX5_sell_58 rfl (lv_at hl 1 rfl) ?_
        refine va_get (D := D) (ci := 5) (v := .ref (Z 0)) (C := RX5) (T := TX5) (N := 7) hx hb hts hinX5 hown hK hP (0) rfl rfl 5 (by decide) hf24 (fun _ h9 => h9) rfl dX5_sell_59 ?_
        refine zcRV (As := []) (rest := []) (st1 := [.int ((moonI n))]) ⟨hx, hb, hml, hown, hts⟩ (c_X4_moon l D y Y Z (Z 0) (Z2 0) 0 t c q b bc n ar fi rn  (by omega)) (cwV 0 hts gX5_sell_X4_moon rfl rfl rfl (by decide +kernel) ⟨Nat.le_of_ble_eq_true rfl, Nat.le_of_ble_eq_true rfl⟩) hK (zz_sP hP) (ci := 4) (q0 := 4) rfl rfl rfl rfl hl.1 rfl (lv_room (Nat.le_of_ble_eq_true rfl)) dX5_sell_62 ⟨Nat.le_of_ble_eq_true rfl, Nat.le_of_ble_eq_true rfl⟩ rfl ?_
        refine lv_if_ne (tgt := 74) hx hb dX5_sell_65 (by decide) (fun c4 => ?_) (fun c4 => ?_)
        · have d4 := c4
          refine lv_aload_n hx hb dX5_sell_74 rfl (lv_at hl 1 rfl) ?_
          refine va_get (D := D) (ci := 5) (v := .ref (Z 0)) (C := RX5) (T := TX5) (N := 7) hx hb hts hinX5 hown hK hP (0) rfl rfl 5 (by decide) hf24 (fun _ h9 => h9) rfl dX5_sell_75 ?_
          refine zcRV (As := []) (rest := []) (st1 := [.int ((moonI n))]) ⟨hx, hb, hml, hown, hts⟩ (c_X4_moon l D y Y Z (Z 0) (Z2 0) 0 t c q b bc n ar fi rn  (by omega)) (cwV 0 hts gX5_sell_X4_moon rfl rfl rfl (by decide +kernel) ⟨Nat.le_of_ble_eq_true rfl, Nat.le_of_ble_eq_true rfl⟩) hK (zz_sP hP) (ci := 4) (q0 := 4) rfl rfl rfl rfl hl.1 rfl (lv_room (Nat.le_of_ble_eq_true rfl)) dX5_sell_78 ⟨Nat.le_of_ble_eq_true rfl, Nat.le_of_ble_eq_true rfl⟩ rfl ?_
          refine lv_iconst (v := 1) hx hb dX5_sell_81 (by decide) ?_
          refine lv_icmp_ne (tgt := 89) hx hb dX5_sell_82 (by decide) (fun c5 => ?_) (fun c5 => ?_)
          · have d5 := c5
            refine lv_iload_n hx hb dX5_sell_89 rfl (lv_at hl 0 rfl) ?_
            refine lv_iload_n hx hb dX5_sell_90 rfl (lv_at hl 0 rfl) ?_
            refine lv_iconst (v := 2) hx hb dX5_sell_91 (by decide) ?_
            refine lv_idiv hx hb dX5_sell_92 (by decide) ?_
            refine lv_iadd hx hb dX5_sell_93 ?_
            refine lv_istore_n (lv' := [(3, .int (((q 5 k) + ((q 5 k) / 2)))), (2, .int ((q 5 k))), (0, .ref (Y 0)), (1, .int (nI k))]) hx hb dX5_sell_94 rfl hl (by decide) rfl (fun ls hl => ?_)
            refine lv_aload_n hx hb dX5_sell_95 rfl (lv_at hl 2 rfl) ?_
            refine va_get (D := D) (ci := 5) (v := .ref (Z 0)) (C := RX5) (T := TX5) (N := 7) hx hb hts hinX5 hown hK hP (0) rfl rfl 5 (by decide) hf24 (fun _ h9 => h9) rfl dX5_sell_96 ?_
            refine va_getN (D := D) (ci := 4) (v := .ref (Z 4)) (C := RX4) (T := TX4) (N := 16) hx hb hts hinX4 hown hK hP (4) rfl rfl 4 (by decide) hf68 (fun _ h9 => h9) rfl dX5_sell_99 ?_
            refine lv_iload_n hx hb dX5_sell_102 rfl (lv_at hl 3 rfl) ?_
            refine lv_iconst (v := 0) hx hb dX5_sell_103 (by decide) ?_
            refine z_ast hx hb hK hP hD hS 8 (f := q 5) rfl k rfl (by omega) (by decide) (zW_q5 (k := k)) dX5_sell_104 (fun H locs hP hD hS => ?_)
            have hP : va_P D vwCl (zW Y Z Z2 y 0 t c (up2 q 5 k 0) b bc n ar fi rn T) H := hP
            have hD : va_D A (zW Y Z Z2 y 0 t c (up2 q 5 k 0) b bc n ar fi rn T) := hD
            refine lv_aload_n hx hb dX5_sell_105 rfl (lv_at hl 2 rfl) ?_
            refine va_get (D := D) (ci := 5) (v := .ref (Z 0)) (C := RX5) (T := TX5) (N := 7) hx hb hts hinX5 hown hK hP (0) rfl rfl 5 (by decide) hf24 (fun _ h9 => h9) rfl dX5_sell_106 ?_
            refine va_getN (D := D) (ci := 4) (v := .ref (Z 3)) (C := RX4) (T := TX4) (N := 16) hx hb hts hinX4 hown hK hP (4) rfl rfl 3 (by decide) hf55 (fun _ h9 => h9) rfl dX5_sell_109 ?_
            refine lv_iload_n hx hb dX5_sell_112 rfl (lv_at hl 3 rfl) ?_
            refine lv_dup2_11 hx hb dX5_sell_113 rfl rfl ?_
            refine z_ald hx hb hK hP 7 (f := q 4) rfl k rfl (by omega) (by decide) dX5_sell_114 ?_
            refine lv_iload_n hx hb dX5_sell_115 rfl (lv_at hl 0 rfl) ?_
            refine lv_iadd hx hb dX5_sell_116 ?_
            refine z_ast hx hb hK hP hD hS 7 (f := (up2 q 5 k 0) 4) rfl k rfl (by omega) (by decide) (zW_q4 (k := k)) dX5_sell_117 (fun H locs hP hD hS => ?_)
            have hP : va_P D vwCl (zW Y Z Z2 y 0 t c (up2 (up2 q 5 k 0) 4 k ((q 4 k) + ((q 5 k) + ((q 5 k) / 2)))) b bc n ar fi rn T) H := hP
            have hD : va_D A (zW Y Z Z2 y 0 t c (up2 (up2 q 5 k 0) 4 k ((q 4 k) + ((q 5 k) + ((q 5 k) / 2)))) b bc n ar fi rn T) := hD
            refine lv_iload_n hx hb dX5_sell_118 rfl (lv_at hl 0 rfl) ?_
            exact zM_i hx hb hr hlocks hS dX5_sell_119 (by simp [priceI, c4, d4, c5, d5]) (by rw [show priceI (q 5 k) (moonI n) = ((q 5 k) + ((q 5 k) / 2)) from by simp [priceI, c4, d4, c5, d5]]; exact hP)
          · have d5 := c5
            refine lv_iload_n hx hb dX5_sell_85 rfl (lv_at hl 0 rfl) ?_
            refine lv_goto (tgt := 94) hx hb dX5_sell_86 (by decide) ?_
            refine lv_istore_n (lv' := [(3, .int ((q 5 k))), (2, .int ((q 5 k))), (0, .ref (Y 0)), (1, .int (nI k))]) hx hb dX5_sell_94 rfl hl (by decide) rfl (fun ls hl => ?_)
            refine lv_aload_n hx hb dX5_sell_95 rfl (lv_at hl 2 rfl) ?_
            refine va_get (D := D) (ci := 5) (v := .ref (Z 0)) (C := RX5) (T := TX5) (N := 7) hx hb hts hinX5 hown hK hP (0) rfl rfl 5 (by decide) hf24 (fun _ h9 => h9) rfl dX5_sell_96 ?_
            refine va_getN (D := D) (ci := 4) (v := .ref (Z 4)) (C := RX4) (T := TX4) (N := 16) hx hb hts hinX4 hown hK hP (4) rfl rfl 4 (by decide) hf68 (fun _ h9 => h9) rfl dX5_sell_99 ?_
            refine lv_iload_n hx hb dX5_sell_102 rfl (lv_at hl 3 rfl) ?_
            refine lv_iconst (v := 0) hx hb dX5_sell_103 (by decide) ?_
            refine z_ast hx hb hK hP hD hS 8 (f := q 5) rfl k rfl (by omega) (by decide) (zW_q5 (k := k)) dX5_sell_104 (fun H locs hP hD hS => ?_)
            have hP : va_P D vwCl (zW Y Z Z2 y 0 t c (up2 q 5 k 0) b bc n ar fi rn T) H := hP
            have hD : va_D A (zW Y Z Z2 y 0 t c (up2 q 5 k 0) b bc n ar fi rn T) := hD
            refine lv_aload_n hx hb dX5_sell_105 rfl (lv_at hl 2 rfl) ?_
            refine va_get (D := D) (ci := 5) (v := .ref (Z 0)) (C := RX5) (T := TX5) (N := 7) hx hb hts hinX5 hown hK hP (0) rfl rfl 5 (by decide) hf24 (fun _ h9 => h9) rfl dX5_sell_106 ?_
            refine va_getN (D := D) (ci := 4) (v := .ref (Z 3)) (C := RX4) (T := TX4) (N := 16) hx hb hts hinX4 hown hK hP (4) rfl rfl 3 (by decide) hf55 (fun _ h9 => h9) rfl dX5_sell_109 ?_
            refine lv_iload_n hx hb dX5_sell_112 rfl (lv_at hl 3 rfl) ?_
            refine lv_dup2_11 hx hb dX5_sell_113 rfl rfl ?_
            refine z_ald hx hb hK hP 7 (f := q 4) rfl k rfl (by omega) (by decide) dX5_sell_114 ?_
            refine lv_iload_n hx hb dX5_sell_115 rfl (lv_at hl 0 rfl) ?_
            refine lv_iadd hx hb dX5_sell_116 ?_
            refine z_ast hx hb hK hP hD hS 7 (f := (up2 q 5 k 0) 4) rfl k rfl (by omega) (by decide) (zW_q4 (k := k)) dX5_sell_117 (fun H locs hP hD hS => ?_)
            have hP : va_P D vwCl (zW Y Z Z2 y 0 t c (up2 (up2 q 5 k 0) 4 k ((q 4 k) + (q 5 k))) b bc n ar fi rn T) H := hP
            have hD : va_D A (zW Y Z Z2 y 0 t c (up2 (up2 q 5 k 0) 4 k ((q 4 k) + (q 5 k))) b bc n ar fi rn T) := hD
            refine lv_iload_n hx hb dX5_sell_118 rfl (lv_at hl 0 rfl) ?_
            exact zM_i hx hb hr hlocks hS dX5_sell_119 (by simp [priceI, c4, d4, c5, d5]) (by rw [show priceI (q 5 k) (moonI n) = (q 5 k) from by simp [priceI, c4, d4, c5, d5]]; exact hP)
        · have d4 := c4
          refine lv_iload_n hx hb dX5_sell_68 rfl (lv_at hl 0 rfl) ?_
          refine lv_iconst (v := 2) hx hb dX5_sell_69 (by decide) ?_
          refine lv_idiv hx hb dX5_sell_70 (by decide) ?_
          refine lv_goto (tgt := 94) hx hb dX5_sell_71 (by decide) ?_
          refine lv_istore_n (lv' := [(3, .int (((q 5 k) / 2))), (2, .int ((q 5 k))), (0, .ref (Y 0)), (1, .int (nI k))]) hx hb dX5_sell_94 rfl hl (by decide) rfl (fun ls hl => ?_)
          refine lv_aload_n hx hb dX5_sell_95 rfl (lv_at hl 2 rfl) ?_
          refine va_get (D := D) (ci := 5) (v := .ref (Z 0)) (C := RX5) (T := TX5) (N := 7) hx hb hts hinX5 hown hK hP (0) rfl rfl 5 (by decide) hf24 (fun _ h9 => h9) rfl dX5_sell_96 ?_
          refine va_getN (D := D) (ci := 4) (v := .ref (Z 4)) (C := RX4) (T := TX4) (N := 16) hx hb hts hinX4 hown hK hP (4) rfl rfl 4 (by decide) hf68 (fun _ h9 => h9) rfl dX5_sell_99 ?_
          refine lv_iload_n hx hb dX5_sell_102 rfl (lv_at hl 3 rfl) ?_
          refine lv_iconst (v := 0) hx hb dX5_sell_103 (by decide) ?_
          refine z_ast hx hb hK hP hD hS 8 (f := q 5) rfl k rfl (by omega) (by decide) (zW_q5 (k := k)) dX5_sell_104 (fun H locs hP hD hS => ?_)
          have hP : va_P D vwCl (zW Y Z Z2 y 0 t c (up2 q 5 k 0) b bc n ar fi rn T) H := hP
          have hD : va_D A (zW Y Z Z2 y 0 t c (up2 q 5 k 0) b bc n ar fi rn T) := hD
          refine lv_aload_n hx hb dX5_sell_105 rfl (lv_at hl 2 rfl) ?_
          refine va_get (D := D) (ci := 5) (v := .ref (Z 0)) (C := RX5) (T := TX5) (N := 7) hx hb hts hinX5 hown hK hP (0) rfl rfl 5 (by decide) hf24 (fun _ h9 => h9) rfl dX5_sell_106 ?_
          refine va_getN (D := D) (ci := 4) (v := .ref (Z 3)) (C := RX4) (T := TX4) (N := 16) hx hb hts hinX4 hown hK hP (4) rfl rfl 3 (by decide) hf55 (fun _ h9 => h9) rfl dX5_sell_109 ?_
          refine lv_iload_n hx hb dX5_sell_112 rfl (lv_at hl 3 rfl) ?_
          refine lv_dup2_11 hx hb dX5_sell_113 rfl rfl ?_
          refine z_ald hx hb hK hP 7 (f := q 4) rfl k rfl (by omega) (by decide) dX5_sell_114 ?_
          refine lv_iload_n hx hb dX5_sell_115 rfl (lv_at hl 0 rfl) ?_
          refine lv_iadd hx hb dX5_sell_116 ?_
          refine z_ast hx hb hK hP hD hS 7 (f := (up2 q 5 k 0) 4) rfl k rfl (by omega) (by decide) (zW_q4 (k := k)) dX5_sell_117 (fun H locs hP hD hS => ?_)
          have hP : va_P D vwCl (zW Y Z Z2 y 0 t c (up2 (up2 q 5 k 0) 4 k ((q 4 k) + ((q 5 k) / 2))) b bc n ar fi rn T) H := hP
          have hD : va_D A (zW Y Z Z2 y 0 t c (up2 (up2 q 5 k 0) 4 k ((q 4 k) + ((q 5 k) / 2))) b bc n ar fi rn T) := hD
          refine lv_iload_n hx hb dX5_sell_118 rfl (lv_at hl 0 rfl) ?_
          exact zM_i hx hb hr hlocks hS dX5_sell_119 (by simp [priceI, c4, d4]) (by rw [show priceI (q 5 k) (moonI n) = ((q 5 k) / 2) from by simp [priceI, c4, d4]]; exact hP)
      · exact absurd c3 he
  · exact absurd (zb_f c1) (by rw [(inW_t hk hc)]; decide)
set_option maxHeartbeats 1000000 in
set_option maxRecDepth 100000 in
theorem c_X5_sell_N1 (l : Launch) (D : va_G) (y : Nat → ClassId) (Y Z Z2 : Nat → Nat) (th : Int32) (t : Nat → Int32) (c : Nat) (q b : Fld) (bc n : Nat) (ar fi rn : Int32) (T : Nst) (x : Int32) (hx0 : x < 0 ∨ nI c ≤ x) (hc : c ≤ 6) (sz : Nat) : zMN l yX5_sell wsX5_sell { frames := 2, cells := 0, slots := 0, locals := 43 } D y [.ref (Y 0), .int x] (zW Y Z Z2 y th t c q b bc n ar fi rn T) sz (some (.int 0)) (zW Y Z Z2 y 1 t c q b bc n ar fi rn T) 0 0 := by
  refine zMN.of (cc := cX5_sell) (maxL := 4) (ret := (some .int)) (own := RX5) (by decide) rfl (Nat.le_of_ble_eq_true rfl) rfl ?_
  intro p e s m args below meth cd ls A H locs hx hb hr hml hown hts hlocks hP hK hD hA hS hN hl hin
  have hS0 := hS
  have hl : lv_has ls 4 [(0, .ref (Y 0)), (1, .int x)] := hl
  have hf31 : (Cond.fieldLink RX5 31 "StakeWeirsModel" "thrown" "I").before args s = true := hts _ (by decide +kernel)
  have hinX5 : ∀ w ∈ wsX50, w ∈ wsX5_sell := by decide +kernel
  refine lv_aload_n hx hb dX5_sell_0 rfl (lv_at hl 0 rfl) ?_
  refine lv_iconst (v := 0) hx hb dX5_sell_1 (by decide) ?_
  refine va_put (D := D) (ci := 5) (v := .int 0) (ty := .int) (C := RX5) (T := TX5) (N := 7) hx hb hts hinX5 tyX5 tyX5_ok nmX5 hown hK hP hD hS (0) rfl rfl 0 (by decide) hf31 (fun _ h9 => h9) rfl (by decide +kernel) rfl rfl (Nat.le_of_ble_eq_true rfl) dX5_sell_2 (fun H locs hP hD hS => ?_)
  have hP : va_P D vwCl (zW Y Z Z2 y 0 t c q b bc n ar fi rn T) H := hP
  have hD : va_D A (zW Y Z Z2 y 0 t c q b bc n ar fi rn T) := hD
  refine lv_aload_n hx hb dX5_sell_5 rfl (lv_at hl 0 rfl) ?_
  refine lv_iload_n hx hb dX5_sell_6 rfl (lv_at hl 1 rfl) ?_
  refine zcRV (As := [.int x]) (rest := []) (st1 := [.int (zb (inB 0 x (nI c - 1)))]) ⟨hx, hb, hml, hown, hts⟩ (c_X5_isWeir l D y Y Z Z2 0 t c q b bc n ar fi rn T x) (cwV 1 hts gX5_sell_X5_isWeir rfl rfl rfl (by decide +kernel) ⟨Nat.le_of_ble_eq_true rfl, Nat.le_of_ble_eq_true rfl⟩) hK hP (ci := 5) (q0 := 0) rfl rfl rfl rfl hl.1 rfl (lv_room (Nat.le_of_ble_eq_true rfl)) dX5_sell_7 ⟨Nat.le_of_ble_eq_true rfl, Nat.le_of_ble_eq_true rfl⟩ rfl ?_
  refine lv_if_ne (tgt := 19) hx hb dX5_sell_10 (by decide) (fun c1 => ?_) (fun c1 => ?_)
  · exact absurd (zb_t c1) (by rw [(inW_f hx0 hc)]; decide)
  · have c1 := c1
    refine lv_aload_n hx hb dX5_sell_13 rfl (lv_at hl 0 rfl) ?_
    refine lv_iconst (v := 1) hx hb dX5_sell_14 (by decide) ?_
    refine zcMV (As := [.int 1]) (rest := []) (st1 := [.int 0]) (cells1 := 0) (slots1 := 0) ⟨hx, hb, hml, hown, hts⟩ (c_X5_no l D y Y Z Z2 0 t c q b bc n ar fi rn T 1 _) (cwV 1 hts gX5_sell_X5_no rfl rfl rfl (by decide +kernel) ⟨Nat.le_of_ble_eq_true rfl, Nat.le_of_ble_eq_true rfl⟩) hK hP (z_D_T hD) (ci := 5) (q0 := 0) rfl rfl rfl rfl hl.1 rfl (lv_room (Nat.le_of_ble_eq_true rfl)) dX5_sell_15 hS (z_sub_F hD hS hA z_in_r) ⟨Nat.le_of_ble_eq_true rfl, Nat.le_of_ble_eq_true rfl⟩ rfl rfl rfl (fun H locs hP1 hz hfr hS => ?_)
    have hD := z_D_adr hD (show (zW Y Z Z2 y 1 t c q b bc n ar fi rn T).map Prod.fst = _ from rfl)
    have hP := hP1
    exact zM_i hx hb hr hlocks hS dX5_sell_18 rfl hP
set_option maxHeartbeats 1000000 in
set_option maxRecDepth 100000 in
theorem c_X5_sell_N2 (l : Launch) (D : va_G) (y : Nat → ClassId) (Y Z Z2 : Nat → Nat) (th : Int32) (t : Nat → Int32) (c : Nat) (q b : Fld) (bc n : Nat) (ar fi rn : Int32) (T : Nst) (k : Nat) (hk : k < c) (hh : heldB q k = false ∨ q 5 k = 0) (hc : c ≤ 6) (sz : Nat) : zMN l yX5_sell wsX5_sell { frames := 2, cells := 0, slots := 0, locals := 43 } D y [.ref (Y 0), .int (nI k)] (zW Y Z Z2 y th t c q b bc n ar fi rn T) sz (some (.int 0)) (zW Y Z Z2 y 2 t c q b bc n ar fi rn T) 0 0 := by
  refine zMN.of (cc := cX5_sell) (maxL := 4) (ret := (some .int)) (own := RX5) (by decide) rfl (Nat.le_of_ble_eq_true rfl) rfl ?_
  intro p e s m args below meth cd ls A H locs hx hb hr hml hown hts hlocks hP hK hD hA hS hN hl hin
  have hS0 := hS
  have hl : lv_has ls 4 [(0, .ref (Y 0)), (1, .int (nI k))] := hl
  have hf31 : (Cond.fieldLink RX5 31 "StakeWeirsModel" "thrown" "I").before args s = true := hts _ (by decide +kernel)
  have hinX5 : ∀ w ∈ wsX50, w ∈ wsX5_sell := by decide +kernel
  have hf24 : (Cond.fieldLink RX5 24 "StakeWeirsModel" "s" "LStakeWeirsModel$State;").before args s = true := hts _ (by decide +kernel)
  have hf68 : (Cond.fieldLinkNest "StakeWeirsModel" 68 "StakeWeirsModel$State" "eels" "[I" "StakeWeirsModel").before args s = true := va_Nw.use rfl (hN ("StakeWeirsModel", 68, "StakeWeirsModel$State", "eels", "[I", "StakeWeirsModel") (by decide +kernel))
  have hinX4 : ∀ w ∈ wsX40, w ∈ wsX5_sell := by decide +kernel
  refine lv_aload_n hx hb dX5_sell_0 rfl (lv_at hl 0 rfl) ?_
  refine lv_iconst (v := 0) hx hb dX5_sell_1 (by decide) ?_
  refine va_put (D := D) (ci := 5) (v := .int 0) (ty := .int) (C := RX5) (T := TX5) (N := 7) hx hb hts hinX5 tyX5 tyX5_ok nmX5 hown hK hP hD hS (0) rfl rfl 0 (by decide) hf31 (fun _ h9 => h9) rfl (by decide +kernel) rfl rfl (Nat.le_of_ble_eq_true rfl) dX5_sell_2 (fun H locs hP hD hS => ?_)
  have hP : va_P D vwCl (zW Y Z Z2 y 0 t c q b bc n ar fi rn T) H := hP
  have hD : va_D A (zW Y Z Z2 y 0 t c q b bc n ar fi rn T) := hD
  refine lv_aload_n hx hb dX5_sell_5 rfl (lv_at hl 0 rfl) ?_
  refine lv_iload_n hx hb dX5_sell_6 rfl (lv_at hl 1 rfl) ?_
  refine zcRV (As := [.int (nI k)]) (rest := []) (st1 := [.int (zb (inB 0 (nI k) (nI c - 1)))]) ⟨hx, hb, hml, hown, hts⟩ (c_X5_isWeir l D y Y Z Z2 0 t c q b bc n ar fi rn T (nI k)) (cwV 1 hts gX5_sell_X5_isWeir rfl rfl rfl (by decide +kernel) ⟨Nat.le_of_ble_eq_true rfl, Nat.le_of_ble_eq_true rfl⟩) hK hP (ci := 5) (q0 := 0) rfl rfl rfl rfl hl.1 rfl (lv_room (Nat.le_of_ble_eq_true rfl)) dX5_sell_7 ⟨Nat.le_of_ble_eq_true rfl, Nat.le_of_ble_eq_true rfl⟩ rfl ?_
  refine lv_if_ne (tgt := 19) hx hb dX5_sell_10 (by decide) (fun c1 => ?_) (fun c1 => ?_)
  · have c1 := c1
    refine lv_aload_n hx hb dX5_sell_19 rfl (lv_at hl 0 rfl) ?_
    refine va_get (D := D) (ci := 5) (v := .ref (Z 0)) (C := RX5) (T := TX5) (N := 7) hx hb hts hinX5 hown hK hP (0) rfl rfl 5 (by decide) hf24 (fun _ h9 => h9) rfl dX5_sell_20 ?_
    refine lv_iload_n hx hb dX5_sell_23 rfl (lv_at hl 1 rfl) ?_
    refine zcRV (As := [.int (nI k)]) (rest := []) (st1 := [.int (zb (heldB q k))]) ⟨hx, hb, hml, hown, hts⟩ (c_X4_isHeld l D y Y Z (Z 0) (Z2 0) 0 t c q b bc n ar fi rn k (by omega)) (cwV 1 hts gX5_sell_X4_isHeld rfl rfl rfl (by decide +kernel) ⟨Nat.le_of_ble_eq_true rfl, Nat.le_of_ble_eq_true rfl⟩) hK (zz_sP hP) (ci := 4) (q0 := 4) rfl rfl rfl rfl hl.1 rfl (lv_room (Nat.le_of_ble_eq_true rfl)) dX5_sell_24 ⟨Nat.le_of_ble_eq_true rfl, Nat.le_of_ble_eq_true rfl⟩ rfl ?_
    refine lv_if_eq (tgt := 42) hx hb dX5_sell_27 (by decide) (fun c2 => ?_) (fun c2 => ?_)
    · have c2 : heldB q k = false := zb_f c2
      refine lv_aload_n hx hb dX5_sell_42 rfl (lv_at hl 0 rfl) ?_
      refine lv_iconst (v := 2) hx hb dX5_sell_43 (by decide) ?_
      refine zcMV (As := [.int 2]) (rest := []) (st1 := [.int 0]) (cells1 := 0) (slots1 := 0) ⟨hx, hb, hml, hown, hts⟩ (c_X5_no l D y Y Z Z2 0 t c q b bc n ar fi rn T 2 _) (cwV 1 hts gX5_sell_X5_no rfl rfl rfl (by decide +kernel) ⟨Nat.le_of_ble_eq_true rfl, Nat.le_of_ble_eq_true rfl⟩) hK hP (z_D_T hD) (ci := 5) (q0 := 0) rfl rfl rfl rfl hl.1 rfl (lv_room (Nat.le_of_ble_eq_true rfl)) dX5_sell_44 hS (z_sub_F hD hS hA z_in_r) ⟨Nat.le_of_ble_eq_true rfl, Nat.le_of_ble_eq_true rfl⟩ rfl rfl rfl (fun H locs hP1 hz hfr hS => ?_)
      have hD := z_D_adr hD (show (zW Y Z Z2 y 2 t c q b bc n ar fi rn T).map Prod.fst = _ from rfl)
      have hP := hP1
      exact zM_i hx hb hr hlocks hS dX5_sell_47 rfl hP
    · have c2 : heldB q k = true := zb_t c2
      refine lv_aload_n hx hb dX5_sell_30 rfl (lv_at hl 0 rfl) ?_
      refine va_get (D := D) (ci := 5) (v := .ref (Z 0)) (C := RX5) (T := TX5) (N := 7) hx hb hts hinX5 hown hK hP (0) rfl rfl 5 (by decide) hf24 (fun _ h9 => h9) rfl dX5_sell_31 ?_
      refine va_getN (D := D) (ci := 4) (v := .ref (Z 4)) (C := RX4) (T := TX4) (N := 16) hx hb hts hinX4 hown hK hP (4) rfl rfl 4 (by decide) hf68 (fun _ h9 => h9) rfl dX5_sell_34 ?_
      refine lv_iload_n hx hb dX5_sell_37 rfl (lv_at hl 1 rfl) ?_
      refine z_ald hx hb hK hP 8 (f := q 5) rfl k rfl (by omega) (by decide) dX5_sell_38 ?_
      refine lv_if_ne (tgt := 48) hx hb dX5_sell_39 (by decide) (fun c3 => ?_) (fun c3 => ?_)
      · have d3 := c3
        exact (hh.elim (fun h9 => absurd (h9.symm.trans c2) (by decide)) (fun h9 => absurd h9 c3) : False).elim
      · have d3 := c3
        refine lv_aload_n hx hb dX5_sell_42 rfl (lv_at hl 0 rfl) ?_
        refine lv_iconst (v := 2) hx hb dX5_sell_43 (by decide) ?_
        refine zcMV (As := [.int 2]) (rest := []) (st1 := [.int 0]) (cells1 := 0) (slots1 := 0) ⟨hx, hb, hml, hown, hts⟩ (c_X5_no l D y Y Z Z2 0 t c q b bc n ar fi rn T 2 _) (cwV 1 hts gX5_sell_X5_no rfl rfl rfl (by decide +kernel) ⟨Nat.le_of_ble_eq_true rfl, Nat.le_of_ble_eq_true rfl⟩) hK hP (z_D_T hD) (ci := 5) (q0 := 0) rfl rfl rfl rfl hl.1 rfl (lv_room (Nat.le_of_ble_eq_true rfl)) dX5_sell_44 hS (z_sub_F hD hS hA z_in_r) ⟨Nat.le_of_ble_eq_true rfl, Nat.le_of_ble_eq_true rfl⟩ rfl rfl rfl (fun H locs hP1 hz hfr hS => ?_)
        have hD := z_D_adr hD (show (zW Y Z Z2 y 2 t c q b bc n ar fi rn T).map Prod.fst = _ from rfl)
        have hP := hP1
        exact zM_i hx hb hr hlocks hS dX5_sell_47 rfl hP
  · exact absurd (zb_f c1) (by rw [(inW_t hk hc)]; decide)
set_option maxHeartbeats 1000000 in
set_option maxRecDepth 100000 in
theorem c_X5_setRun (l : Launch) (D : va_G) (y : Nat → ClassId) (Y Z Z2 : Nat → Nat) (th : Int32) (t : Nat → Int32) (c : Nat) (q b : Fld) (bc n : Nat) (ar fi rn : Int32) (T : Nst) (k : Nat) (x : Int32) (hk : k < 7) (hi : inB 0 (nI k) 6 = true) (hw : inB 0 x 99 = true) (sz : Nat) : zMN l yX5_setRun wsX5_setRun { frames := 1, cells := 0, slots := 0, locals := 22 } D y [.ref (Y 0), .int (nI k), .int x] (zW Y Z Z2 y th t c q b bc n ar fi rn T) sz (some (.int (t k))) (zW Y Z Z2 y 0 (upd t k x) c q b bc n ar fi rn T) 0 0 := by
  refine zMN.of (cc := cX5_setRun) (maxL := 4) (ret := (some .int)) (own := RX5) (by decide) rfl (Nat.le_of_ble_eq_true rfl) rfl ?_
  intro p e s m args below meth cd ls A H locs hx hb hr hml hown hts hlocks hP hK hD hA hS hN hl hin
  have hS0 := hS
  have hl : lv_has ls 4 [(0, .ref (Y 0)), (1, .int (nI k)), (2, .int x)] := hl
  have hf31 : (Cond.fieldLink RX5 31 "StakeWeirsModel" "thrown" "I").before args s = true := hts _ (by decide +kernel)
  have hinX5 : ∀ w ∈ wsX50, w ∈ wsX5_setRun := by decide +kernel
  have hf7 : (Cond.fieldLink RX5 7 "StakeWeirsModel" "table" "[I").before args s = true := hts _ (by decide +kernel)
  refine lv_aload_n hx hb dX5_setRun_0 rfl (lv_at hl 0 rfl) ?_
  refine lv_iconst (v := 0) hx hb dX5_setRun_1 (by decide) ?_
  refine va_put (D := D) (ci := 5) (v := .int 0) (ty := .int) (C := RX5) (T := TX5) (N := 7) hx hb hts hinX5 tyX5 tyX5_ok nmX5 hown hK hP hD hS (0) rfl rfl 0 (by decide) hf31 (fun _ h9 => h9) rfl (by decide +kernel) rfl rfl (Nat.le_of_ble_eq_true rfl) dX5_setRun_2 (fun H locs hP hD hS => ?_)
  have hP : va_P D vwCl (zW Y Z Z2 y 0 t c q b bc n ar fi rn T) H := hP
  have hD : va_D A (zW Y Z Z2 y 0 t c q b bc n ar fi rn T) := hD
  refine lv_iload_n hx hb dX5_setRun_5 rfl (lv_at hl 1 rfl) ?_
  refine lv_iconst (v := 0) hx hb dX5_setRun_6 (by decide) ?_
  refine lv_bipush (v := 6) hx hb dX5_setRun_7 (by decide) ?_
  refine zcRS (As := [.int (nI k), .int 0, .int 6]) (rest := []) (st1 := [.int (zb (inB 0 (nI k) 6))]) ⟨hx, hb, hml, hown, hts⟩ (c_X5_isIn l D y (nI k) 0 6) (cwS 3 hts gX5_setRun_X5_isIn rfl rfl rfl (by decide +kernel) ⟨Nat.le_of_ble_eq_true rfl, Nat.le_of_ble_eq_true rfl⟩) hK va_P_nil rfl hl.1 rfl (lv_room (Nat.le_of_ble_eq_true rfl)) dX5_setRun_9 ⟨Nat.le_of_ble_eq_true rfl, Nat.le_of_ble_eq_true rfl⟩ rfl ?_
  refine lv_if_ne (tgt := 21) hx hb dX5_setRun_12 (by decide) (fun c1 => ?_) (fun c1 => ?_)
  · have c1 := c1
    refine lv_iload_n hx hb dX5_setRun_21 rfl (lv_at hl 2 rfl) ?_
    refine lv_iconst (v := 0) hx hb dX5_setRun_22 (by decide) ?_
    refine lv_bipush (v := 99) hx hb dX5_setRun_23 (by decide) ?_
    refine zcRS (As := [.int x, .int 0, .int 99]) (rest := []) (st1 := [.int (zb (inB 0 x 99))]) ⟨hx, hb, hml, hown, hts⟩ (c_X5_isIn l D y x 0 99) (cwS 3 hts gX5_setRun_X5_isIn rfl rfl rfl (by decide +kernel) ⟨Nat.le_of_ble_eq_true rfl, Nat.le_of_ble_eq_true rfl⟩) hK va_P_nil rfl hl.1 rfl (lv_room (Nat.le_of_ble_eq_true rfl)) dX5_setRun_25 ⟨Nat.le_of_ble_eq_true rfl, Nat.le_of_ble_eq_true rfl⟩ rfl ?_
    refine lv_if_ne (tgt := 37) hx hb dX5_setRun_28 (by decide) (fun c2 => ?_) (fun c2 => ?_)
    · have c2 := c2
      refine lv_aload_n hx hb dX5_setRun_37 rfl (lv_at hl 0 rfl) ?_
      refine va_get (D := D) (ci := 5) (v := .ref (Y 1)) (C := RX5) (T := TX5) (N := 7) hx hb hts hinX5 hown hK hP (0) rfl rfl 1 (by decide) hf7 (fun _ h9 => h9) rfl dX5_setRun_38 ?_
      refine lv_iload_n hx hb dX5_setRun_41 rfl (lv_at hl 1 rfl) ?_
      refine z_ald hx hb hK hP 1 (f := t) rfl k rfl (by omega) (by decide) dX5_setRun_42 ?_
      refine lv_istore_n (lv' := [(3, .int ((t k))), (0, .ref (Y 0)), (1, .int (nI k)), (2, .int x)]) hx hb dX5_setRun_43 rfl hl (by decide) rfl (fun ls hl => ?_)
      refine lv_aload_n hx hb dX5_setRun_44 rfl (lv_at hl 1 rfl) ?_
      refine va_get (D := D) (ci := 5) (v := .ref (Y 1)) (C := RX5) (T := TX5) (N := 7) hx hb hts hinX5 hown hK hP (0) rfl rfl 1 (by decide) hf7 (fun _ h9 => h9) rfl dX5_setRun_45 ?_
      refine lv_iload_n hx hb dX5_setRun_48 rfl (lv_at hl 2 rfl) ?_
      refine lv_iload_n hx hb dX5_setRun_49 rfl (lv_at hl 3 rfl) ?_
      refine z_ast hx hb hK hP hD hS 1 (f := t) rfl k rfl (by omega) (by decide) rfl dX5_setRun_50 (fun H locs hP hD hS => ?_)
      have hP : va_P D vwCl (zW Y Z Z2 y 0 (upd t k x) c q b bc n ar fi rn T) H := hP
      have hD : va_D A (zW Y Z Z2 y 0 (upd t k x) c q b bc n ar fi rn T) := hD
      refine lv_iload_n hx hb dX5_setRun_51 rfl (lv_at hl 0 rfl) ?_
      exact zM_i hx hb hr hlocks hS dX5_setRun_52 rfl hP
    · exact absurd (zb_f c2) (by rw [hw]; decide)
  · exact absurd (zb_f c1) (by rw [hi]; decide)
set_option maxHeartbeats 1000000 in
set_option maxRecDepth 100000 in
theorem c_X5_setRun_N1 (l : Launch) (D : va_G) (y : Nat → ClassId) (Y Z Z2 : Nat → Nat) (th : Int32) (t : Nat → Int32) (c : Nat) (q b : Fld) (bc n : Nat) (ar fi rn : Int32) (T : Nst) (x z : Int32) (hw : inB 0 x 6 = false) (sz : Nat) : zMN l yX5_setRun wsX5_setRun { frames := 1, cells := 0, slots := 0, locals := 22 } D y [.ref (Y 0), .int x, .int z] (zW Y Z Z2 y th t c q b bc n ar fi rn T) sz (some (.int 0)) (zW Y Z Z2 y 1 t c q b bc n ar fi rn T) 0 0 := by
  refine zMN.of (cc := cX5_setRun) (maxL := 4) (ret := (some .int)) (own := RX5) (by decide) rfl (Nat.le_of_ble_eq_true rfl) rfl ?_
  intro p e s m args below meth cd ls A H locs hx hb hr hml hown hts hlocks hP hK hD hA hS hN hl hin
  have hS0 := hS
  have hl : lv_has ls 4 [(0, .ref (Y 0)), (1, .int x), (2, .int z)] := hl
  have hf31 : (Cond.fieldLink RX5 31 "StakeWeirsModel" "thrown" "I").before args s = true := hts _ (by decide +kernel)
  have hinX5 : ∀ w ∈ wsX50, w ∈ wsX5_setRun := by decide +kernel
  refine lv_aload_n hx hb dX5_setRun_0 rfl (lv_at hl 0 rfl) ?_
  refine lv_iconst (v := 0) hx hb dX5_setRun_1 (by decide) ?_
  refine va_put (D := D) (ci := 5) (v := .int 0) (ty := .int) (C := RX5) (T := TX5) (N := 7) hx hb hts hinX5 tyX5 tyX5_ok nmX5 hown hK hP hD hS (0) rfl rfl 0 (by decide) hf31 (fun _ h9 => h9) rfl (by decide +kernel) rfl rfl (Nat.le_of_ble_eq_true rfl) dX5_setRun_2 (fun H locs hP hD hS => ?_)
  have hP : va_P D vwCl (zW Y Z Z2 y 0 t c q b bc n ar fi rn T) H := hP
  have hD : va_D A (zW Y Z Z2 y 0 t c q b bc n ar fi rn T) := hD
  refine lv_iload_n hx hb dX5_setRun_5 rfl (lv_at hl 1 rfl) ?_
  refine lv_iconst (v := 0) hx hb dX5_setRun_6 (by decide) ?_
  refine lv_bipush (v := 6) hx hb dX5_setRun_7 (by decide) ?_
  refine zcRS (As := [.int x, .int 0, .int 6]) (rest := []) (st1 := [.int (zb (inB 0 x 6))]) ⟨hx, hb, hml, hown, hts⟩ (c_X5_isIn l D y x 0 6) (cwS 3 hts gX5_setRun_X5_isIn rfl rfl rfl (by decide +kernel) ⟨Nat.le_of_ble_eq_true rfl, Nat.le_of_ble_eq_true rfl⟩) hK va_P_nil rfl hl.1 rfl (lv_room (Nat.le_of_ble_eq_true rfl)) dX5_setRun_9 ⟨Nat.le_of_ble_eq_true rfl, Nat.le_of_ble_eq_true rfl⟩ rfl ?_
  refine lv_if_ne (tgt := 21) hx hb dX5_setRun_12 (by decide) (fun c1 => ?_) (fun c1 => ?_)
  · exact absurd (zb_t c1) (by rw [hw]; decide)
  · have c1 := c1
    refine lv_aload_n hx hb dX5_setRun_15 rfl (lv_at hl 0 rfl) ?_
    refine lv_iconst (v := 1) hx hb dX5_setRun_16 (by decide) ?_
    refine zcMV (As := [.int 1]) (rest := []) (st1 := [.int 0]) (cells1 := 0) (slots1 := 0) ⟨hx, hb, hml, hown, hts⟩ (c_X5_no l D y Y Z Z2 0 t c q b bc n ar fi rn T 1 _) (cwV 1 hts gX5_setRun_X5_no rfl rfl rfl (by decide +kernel) ⟨Nat.le_of_ble_eq_true rfl, Nat.le_of_ble_eq_true rfl⟩) hK hP (z_D_T hD) (ci := 5) (q0 := 0) rfl rfl rfl rfl hl.1 rfl (lv_room (Nat.le_of_ble_eq_true rfl)) dX5_setRun_17 hS (z_sub_F hD hS hA z_in_r) ⟨Nat.le_of_ble_eq_true rfl, Nat.le_of_ble_eq_true rfl⟩ rfl rfl rfl (fun H locs hP1 hz hfr hS => ?_)
    have hD := z_D_adr hD (show (zW Y Z Z2 y 1 t c q b bc n ar fi rn T).map Prod.fst = _ from rfl)
    have hP := hP1
    exact zM_i hx hb hr hlocks hS dX5_setRun_20 rfl hP
set_option maxHeartbeats 1000000 in
set_option maxRecDepth 100000 in
theorem c_X5_setRun_N2 (l : Launch) (D : va_G) (y : Nat → ClassId) (Y Z Z2 : Nat → Nat) (th : Int32) (t : Nat → Int32) (c : Nat) (q b : Fld) (bc n : Nat) (ar fi rn : Int32) (T : Nst) (x z : Int32) (hi : inB 0 x 6 = true) (hw : inB 0 z 99 = false) (sz : Nat) : zMN l yX5_setRun wsX5_setRun { frames := 1, cells := 0, slots := 0, locals := 22 } D y [.ref (Y 0), .int x, .int z] (zW Y Z Z2 y th t c q b bc n ar fi rn T) sz (some (.int 0)) (zW Y Z Z2 y 2 t c q b bc n ar fi rn T) 0 0 := by
  refine zMN.of (cc := cX5_setRun) (maxL := 4) (ret := (some .int)) (own := RX5) (by decide) rfl (Nat.le_of_ble_eq_true rfl) rfl ?_
  intro p e s m args below meth cd ls A H locs hx hb hr hml hown hts hlocks hP hK hD hA hS hN hl hin
  have hS0 := hS
  have hl : lv_has ls 4 [(0, .ref (Y 0)), (1, .int x), (2, .int z)] := hl
  have hf31 : (Cond.fieldLink RX5 31 "StakeWeirsModel" "thrown" "I").before args s = true := hts _ (by decide +kernel)
  have hinX5 : ∀ w ∈ wsX50, w ∈ wsX5_setRun := by decide +kernel
  refine lv_aload_n hx hb dX5_setRun_0 rfl (lv_at hl 0 rfl) ?_
  refine lv_iconst (v := 0) hx hb dX5_setRun_1 (by decide) ?_
  refine va_put (D := D) (ci := 5) (v := .int 0) (ty := .int) (C := RX5) (T := TX5) (N := 7) hx hb hts hinX5 tyX5 tyX5_ok nmX5 hown hK hP hD hS (0) rfl rfl 0 (by decide) hf31 (fun _ h9 => h9) rfl (by decide +kernel) rfl rfl (Nat.le_of_ble_eq_true rfl) dX5_setRun_2 (fun H locs hP hD hS => ?_)
  have hP : va_P D vwCl (zW Y Z Z2 y 0 t c q b bc n ar fi rn T) H := hP
  have hD : va_D A (zW Y Z Z2 y 0 t c q b bc n ar fi rn T) := hD
  refine lv_iload_n hx hb dX5_setRun_5 rfl (lv_at hl 1 rfl) ?_
  refine lv_iconst (v := 0) hx hb dX5_setRun_6 (by decide) ?_
  refine lv_bipush (v := 6) hx hb dX5_setRun_7 (by decide) ?_
  refine zcRS (As := [.int x, .int 0, .int 6]) (rest := []) (st1 := [.int (zb (inB 0 x 6))]) ⟨hx, hb, hml, hown, hts⟩ (c_X5_isIn l D y x 0 6) (cwS 3 hts gX5_setRun_X5_isIn rfl rfl rfl (by decide +kernel) ⟨Nat.le_of_ble_eq_true rfl, Nat.le_of_ble_eq_true rfl⟩) hK va_P_nil rfl hl.1 rfl (lv_room (Nat.le_of_ble_eq_true rfl)) dX5_setRun_9 ⟨Nat.le_of_ble_eq_true rfl, Nat.le_of_ble_eq_true rfl⟩ rfl ?_
  refine lv_if_ne (tgt := 21) hx hb dX5_setRun_12 (by decide) (fun c1 => ?_) (fun c1 => ?_)
  · have c1 := c1
    refine lv_iload_n hx hb dX5_setRun_21 rfl (lv_at hl 2 rfl) ?_
    refine lv_iconst (v := 0) hx hb dX5_setRun_22 (by decide) ?_
    refine lv_bipush (v := 99) hx hb dX5_setRun_23 (by decide) ?_
    refine zcRS (As := [.int z, .int 0, .int 99]) (rest := []) (st1 := [.int (zb (inB 0 z 99))]) ⟨hx, hb, hml, hown, hts⟩ (c_X5_isIn l D y z 0 99) (cwS 3 hts gX5_setRun_X5_isIn rfl rfl rfl (by decide +kernel) ⟨Nat.le_of_ble_eq_true rfl, Nat.le_of_ble_eq_true rfl⟩) hK va_P_nil rfl hl.1 rfl (lv_room (Nat.le_of_ble_eq_true rfl)) dX5_setRun_25 ⟨Nat.le_of_ble_eq_true rfl, Nat.le_of_ble_eq_true rfl⟩ rfl ?_
    refine lv_if_ne (tgt := 37) hx hb dX5_setRun_28 (by decide) (fun c2 => ?_) (fun c2 => ?_)
    · exact absurd (zb_t c2) (by rw [hw]; decide)
    · have c2 := c2
      refine lv_aload_n hx hb dX5_setRun_31 rfl (lv_at hl 0 rfl) ?_
      refine lv_iconst (v := 2) hx hb dX5_setRun_32 (by decide) ?_
      refine zcMV (As := [.int 2]) (rest := []) (st1 := [.int 0]) (cells1 := 0) (slots1 := 0) ⟨hx, hb, hml, hown, hts⟩ (c_X5_no l D y Y Z Z2 0 t c q b bc n ar fi rn T 2 _) (cwV 1 hts gX5_setRun_X5_no rfl rfl rfl (by decide +kernel) ⟨Nat.le_of_ble_eq_true rfl, Nat.le_of_ble_eq_true rfl⟩) hK hP (z_D_T hD) (ci := 5) (q0 := 0) rfl rfl rfl rfl hl.1 rfl (lv_room (Nat.le_of_ble_eq_true rfl)) dX5_setRun_33 hS (z_sub_F hD hS hA z_in_r) ⟨Nat.le_of_ble_eq_true rfl, Nat.le_of_ble_eq_true rfl⟩ rfl rfl rfl (fun H locs hP1 hz hfr hS => ?_)
      have hD := z_D_adr hD (show (zW Y Z Z2 y 2 t c q b bc n ar fi rn T).map Prod.fst = _ from rfl)
      have hP := hP1
      exact zM_i hx hb hr hlocks hS dX5_setRun_36 rfl hP
  · exact absurd (zb_f c1) (by rw [hi]; decide)
set_option maxHeartbeats 1000000 in
set_option maxRecDepth 100000 in
theorem c_X5_barge (l : Launch) (D : va_G) (y : Nat → ClassId) (Y Z Z2 : Nat → Nat) (th : Int32) (t : Nat → Int32) (c : Nat) (q b : Fld) (bc n : Nat) (ar fi rn : Int32) (T : Nst) (x : Int32) (hw : inB 1 x 20 = true) (hbc : bc < 5) (sz : Nat) : zMN l yX5_barge wsX5_barge { frames := 1, cells := 0, slots := 0, locals := 22 } D y [.ref (Y 0), .int x] (zW Y Z Z2 y th t c q b bc n ar fi rn T) sz (some (.int (nI bc))) (zW Y Z Z2 y 0 t c q (up2 (up2 (up2 b 1 bc x) 2 bc (-1)) 3 bc 0) (bc + 1) n ar fi rn T) 0 0 := by
  refine zMN.of (cc := cX5_barge) (maxL := 2) (ret := (some .int)) (own := RX5) (by decide) rfl (Nat.le_of_ble_eq_true rfl) rfl ?_
  intro p e s m args below meth cd ls A H locs hx hb hr hml hown hts hlocks hP hK hD hA hS hN hl hin
  have hS0 := hS
  have hl : lv_has ls 2 [(0, .ref (Y 0)), (1, .int x)] := hl
  have hf31 : (Cond.fieldLink RX5 31 "StakeWeirsModel" "thrown" "I").before args s = true := hts _ (by decide +kernel)
  have hinX5 : ∀ w ∈ wsX50, w ∈ wsX5_barge := by decide +kernel
  have hf24 : (Cond.fieldLink RX5 24 "StakeWeirsModel" "s" "LStakeWeirsModel$State;").before args s = true := hts _ (by decide +kernel)
  have hf42 : (Cond.fieldLinkNest "StakeWeirsModel" 42 "StakeWeirsModel$State" "barges" "I" "StakeWeirsModel").before args s = true := va_Nw.use rfl (hN ("StakeWeirsModel", 42, "StakeWeirsModel$State", "barges", "I", "StakeWeirsModel") (by decide +kernel))
  have hinX4 : ∀ w ∈ wsX40, w ∈ wsX5_barge := by decide +kernel
  have hf75 : (Cond.fieldLinkNest "StakeWeirsModel" 75 "StakeWeirsModel$State" "wide" "[I" "StakeWeirsModel").before args s = true := va_Nw.use rfl (hN ("StakeWeirsModel", 75, "StakeWeirsModel$State", "wide", "[I", "StakeWeirsModel") (by decide +kernel))
  have hf78 : (Cond.fieldLinkNest "StakeWeirsModel" 78 "StakeWeirsModel$State" "at" "[I" "StakeWeirsModel").before args s = true := va_Nw.use rfl (hN ("StakeWeirsModel", 78, "StakeWeirsModel$State", "at", "[I", "StakeWeirsModel") (by decide +kernel))
  have hf81 : (Cond.fieldLinkNest "StakeWeirsModel" 81 "StakeWeirsModel$State" "broken" "[I" "StakeWeirsModel").before args s = true := va_Nw.use rfl (hN ("StakeWeirsModel", 81, "StakeWeirsModel$State", "broken", "[I", "StakeWeirsModel") (by decide +kernel))
  refine lv_aload_n hx hb dX5_barge_0 rfl (lv_at hl 0 rfl) ?_
  refine lv_iconst (v := 0) hx hb dX5_barge_1 (by decide) ?_
  refine va_put (D := D) (ci := 5) (v := .int 0) (ty := .int) (C := RX5) (T := TX5) (N := 7) hx hb hts hinX5 tyX5 tyX5_ok nmX5 hown hK hP hD hS (0) rfl rfl 0 (by decide) hf31 (fun _ h9 => h9) rfl (by decide +kernel) rfl rfl (Nat.le_of_ble_eq_true rfl) dX5_barge_2 (fun H locs hP hD hS => ?_)
  have hP : va_P D vwCl (zW Y Z Z2 y 0 t c q b bc n ar fi rn T) H := hP
  have hD : va_D A (zW Y Z Z2 y 0 t c q b bc n ar fi rn T) := hD
  refine lv_iload_n hx hb dX5_barge_5 rfl (lv_at hl 1 rfl) ?_
  refine lv_iconst (v := 1) hx hb dX5_barge_6 (by decide) ?_
  refine lv_bipush (v := 20) hx hb dX5_barge_7 (by decide) ?_
  refine zcRS (As := [.int x, .int 1, .int 20]) (rest := []) (st1 := [.int (zb (inB 1 x 20))]) ⟨hx, hb, hml, hown, hts⟩ (c_X5_isIn l D y x 1 20) (cwS 3 hts gX5_barge_X5_isIn rfl rfl rfl (by decide +kernel) ⟨Nat.le_of_ble_eq_true rfl, Nat.le_of_ble_eq_true rfl⟩) hK va_P_nil rfl hl.1 rfl (lv_room (Nat.le_of_ble_eq_true rfl)) dX5_barge_9 ⟨Nat.le_of_ble_eq_true rfl, Nat.le_of_ble_eq_true rfl⟩ rfl ?_
  refine lv_if_ne (tgt := 21) hx hb dX5_barge_12 (by decide) (fun c1 => ?_) (fun c1 => ?_)
  · have c1 := c1
    refine lv_aload_n hx hb dX5_barge_21 rfl (lv_at hl 0 rfl) ?_
    refine va_get (D := D) (ci := 5) (v := .ref (Z 0)) (C := RX5) (T := TX5) (N := 7) hx hb hts hinX5 hown hK hP (0) rfl rfl 5 (by decide) hf24 (fun _ h9 => h9) rfl dX5_barge_22 ?_
    refine va_getN (D := D) (ci := 4) (v := .int (nI bc)) (C := RX4) (T := TX4) (N := 16) hx hb hts hinX4 hown hK hP (4) rfl rfl 7 (by decide) hf42 (fun _ h9 => h9) rfl dX5_barge_25 ?_
    refine lv_iconst (v := 5) hx hb dX5_barge_28 (by decide) ?_
    refine lv_icmp_ne (tgt := 38) hx hb dX5_barge_29 (by decide) (fun c2 => ?_) (fun c2 => ?_)
    · have d2 := c2
      refine lv_aload_n hx hb dX5_barge_38 rfl (lv_at hl 0 rfl) ?_
      refine va_get (D := D) (ci := 5) (v := .ref (Z 0)) (C := RX5) (T := TX5) (N := 7) hx hb hts hinX5 hown hK hP (0) rfl rfl 5 (by decide) hf24 (fun _ h9 => h9) rfl dX5_barge_39 ?_
      refine va_getN (D := D) (ci := 4) (v := .ref (Z 7)) (C := RX4) (T := TX4) (N := 16) hx hb hts hinX4 hown hK hP (4) rfl rfl 8 (by decide) hf75 (fun _ h9 => h9) rfl dX5_barge_42 ?_
      refine lv_aload_n hx hb dX5_barge_45 rfl (lv_at hl 0 rfl) ?_
      refine va_get (D := D) (ci := 5) (v := .ref (Z 0)) (C := RX5) (T := TX5) (N := 7) hx hb hts hinX5 hown hK hP (0) rfl rfl 5 (by decide) hf24 (fun _ h9 => h9) rfl dX5_barge_46 ?_
      refine va_getN (D := D) (ci := 4) (v := .int (nI bc)) (C := RX4) (T := TX4) (N := 16) hx hb hts hinX4 hown hK hP (4) rfl rfl 7 (by decide) hf42 (fun _ h9 => h9) rfl dX5_barge_49 ?_
      refine lv_iload_n hx hb dX5_barge_52 rfl (lv_at hl 1 rfl) ?_
      refine z_ast hx hb hK hP hD hS 11 (f := b 1) rfl bc rfl (by omega) (by decide) (zW_b1 (k := bc)) dX5_barge_53 (fun H locs hP hD hS => ?_)
      have hP : va_P D vwCl (zW Y Z Z2 y 0 t c q (up2 b 1 bc x) bc n ar fi rn T) H := hP
      have hD : va_D A (zW Y Z Z2 y 0 t c q (up2 b 1 bc x) bc n ar fi rn T) := hD
      refine lv_aload_n hx hb dX5_barge_54 rfl (lv_at hl 0 rfl) ?_
      refine va_get (D := D) (ci := 5) (v := .ref (Z 0)) (C := RX5) (T := TX5) (N := 7) hx hb hts hinX5 hown hK hP (0) rfl rfl 5 (by decide) hf24 (fun _ h9 => h9) rfl dX5_barge_55 ?_
      refine va_getN (D := D) (ci := 4) (v := .ref (Z 8)) (C := RX4) (T := TX4) (N := 16) hx hb hts hinX4 hown hK hP (4) rfl rfl 9 (by decide) hf78 (fun _ h9 => h9) rfl dX5_barge_58 ?_
      refine lv_aload_n hx hb dX5_barge_61 rfl (lv_at hl 0 rfl) ?_
      refine va_get (D := D) (ci := 5) (v := .ref (Z 0)) (C := RX5) (T := TX5) (N := 7) hx hb hts hinX5 hown hK hP (0) rfl rfl 5 (by decide) hf24 (fun _ h9 => h9) rfl dX5_barge_62 ?_
      refine va_getN (D := D) (ci := 4) (v := .int (nI bc)) (C := RX4) (T := TX4) (N := 16) hx hb hts hinX4 hown hK hP (4) rfl rfl 7 (by decide) hf42 (fun _ h9 => h9) rfl dX5_barge_65 ?_
      refine lv_iconst (v := (-1)) hx hb dX5_barge_68 (by decide) ?_
      refine z_ast hx hb hK hP hD hS 12 (f := (up2 b 1 bc x) 2) rfl bc rfl (by omega) (by decide) (zW_b2 (k := bc)) dX5_barge_69 (fun H locs hP hD hS => ?_)
      have hP : va_P D vwCl (zW Y Z Z2 y 0 t c q (up2 (up2 b 1 bc x) 2 bc (-1)) bc n ar fi rn T) H := hP
      have hD : va_D A (zW Y Z Z2 y 0 t c q (up2 (up2 b 1 bc x) 2 bc (-1)) bc n ar fi rn T) := hD
      refine lv_aload_n hx hb dX5_barge_70 rfl (lv_at hl 0 rfl) ?_
      refine va_get (D := D) (ci := 5) (v := .ref (Z 0)) (C := RX5) (T := TX5) (N := 7) hx hb hts hinX5 hown hK hP (0) rfl rfl 5 (by decide) hf24 (fun _ h9 => h9) rfl dX5_barge_71 ?_
      refine va_getN (D := D) (ci := 4) (v := .ref (Z 9)) (C := RX4) (T := TX4) (N := 16) hx hb hts hinX4 hown hK hP (4) rfl rfl 10 (by decide) hf81 (fun _ h9 => h9) rfl dX5_barge_74 ?_
      refine lv_aload_n hx hb dX5_barge_77 rfl (lv_at hl 0 rfl) ?_
      refine va_get (D := D) (ci := 5) (v := .ref (Z 0)) (C := RX5) (T := TX5) (N := 7) hx hb hts hinX5 hown hK hP (0) rfl rfl 5 (by decide) hf24 (fun _ h9 => h9) rfl dX5_barge_78 ?_
      refine va_getN (D := D) (ci := 4) (v := .int (nI bc)) (C := RX4) (T := TX4) (N := 16) hx hb hts hinX4 hown hK hP (4) rfl rfl 7 (by decide) hf42 (fun _ h9 => h9) rfl dX5_barge_81 ?_
      refine lv_iconst (v := 0) hx hb dX5_barge_84 (by decide) ?_
      refine z_ast hx hb hK hP hD hS 13 (f := (up2 (up2 b 1 bc x) 2 bc (-1)) 3) rfl bc rfl (by omega) (by decide) (zW_b3 (k := bc)) dX5_barge_85 (fun H locs hP hD hS => ?_)
      have hP : va_P D vwCl (zW Y Z Z2 y 0 t c q (up2 (up2 (up2 b 1 bc x) 2 bc (-1)) 3 bc 0) bc n ar fi rn T) H := hP
      have hD : va_D A (zW Y Z Z2 y 0 t c q (up2 (up2 (up2 b 1 bc x) 2 bc (-1)) 3 bc 0) bc n ar fi rn T) := hD
      refine lv_aload_n hx hb dX5_barge_86 rfl (lv_at hl 0 rfl) ?_
      refine va_get (D := D) (ci := 5) (v := .ref (Z 0)) (C := RX5) (T := TX5) (N := 7) hx hb hts hinX5 hown hK hP (0) rfl rfl 5 (by decide) hf24 (fun _ h9 => h9) rfl dX5_barge_87 ?_
      refine lv_dup hx hb dX5_barge_90 rfl ?_
      refine va_getN (D := D) (ci := 4) (v := .int (nI bc)) (C := RX4) (T := TX4) (N := 16) hx hb hts hinX4 hown hK hP (4) rfl rfl 7 (by decide) hf42 (fun _ h9 => h9) rfl dX5_barge_91 ?_
      refine lv_iconst (v := 1) hx hb dX5_barge_94 (by decide) ?_
      refine lv_iadd hx hb dX5_barge_95 ?_
      refine zt_i (x' := nI (bc + 1)) (nI_1 _) ?_
      refine va_putN (D := D) (ci := 4) (v := .int (nI (bc + 1))) (ty := .int) (C := RX4) (T := TX4) (N := 16) hx hb hts hinX4 tyX4 tyX4_ok nmX4 hown hK hP hD hS (4) rfl rfl 7 (by decide) hf42 (fun _ h9 => h9) rfl (by decide +kernel) rfl rfl (Nat.le_of_ble_eq_true rfl) dX5_barge_96 (fun H locs hP hD hS => ?_)
      have hP : va_P D vwCl (zW Y Z Z2 y 0 t c q (up2 (up2 (up2 b 1 bc x) 2 bc (-1)) 3 bc 0) (bc + 1) n ar fi rn T) H := hP
      have hD : va_D A (zW Y Z Z2 y 0 t c q (up2 (up2 (up2 b 1 bc x) 2 bc (-1)) 3 bc 0) (bc + 1) n ar fi rn T) := hD
      refine lv_aload_n hx hb dX5_barge_99 rfl (lv_at hl 0 rfl) ?_
      refine va_get (D := D) (ci := 5) (v := .ref (Z 0)) (C := RX5) (T := TX5) (N := 7) hx hb hts hinX5 hown hK hP (0) rfl rfl 5 (by decide) hf24 (fun _ h9 => h9) rfl dX5_barge_100 ?_
      refine va_getN (D := D) (ci := 4) (v := .int (nI (bc + 1))) (C := RX4) (T := TX4) (N := 16) hx hb hts hinX4 hown hK hP (4) rfl rfl 7 (by decide) hf42 (fun _ h9 => h9) rfl dX5_barge_103 ?_
      refine lv_iconst (v := 1) hx hb dX5_barge_106 (by decide) ?_
      refine lv_isub hx hb dX5_barge_107 ?_
      refine zt_i (x' := nI bc) (nI_pred _) ?_
      exact zM_i hx hb hr hlocks hS dX5_barge_108 rfl hP
    · exact absurd c2 (nI_ne (a := bc) (b := 5) (by omega) (by omega) (by omega))
  · exact absurd (zb_f c1) (by rw [hw]; decide)
set_option maxHeartbeats 1000000 in
set_option maxRecDepth 100000 in
theorem c_X5_barge_N1 (l : Launch) (D : va_G) (y : Nat → ClassId) (Y Z Z2 : Nat → Nat) (th : Int32) (t : Nat → Int32) (c : Nat) (q b : Fld) (bc n : Nat) (ar fi rn : Int32) (T : Nst) (x : Int32) (hw : inB 1 x 20 = false) (sz : Nat) : zMN l yX5_barge wsX5_barge { frames := 1, cells := 0, slots := 0, locals := 22 } D y [.ref (Y 0), .int x] (zW Y Z Z2 y th t c q b bc n ar fi rn T) sz (some (.int 0)) (zW Y Z Z2 y 1 t c q b bc n ar fi rn T) 0 0 := by
  refine zMN.of (cc := cX5_barge) (maxL := 2) (ret := (some .int)) (own := RX5) (by decide) rfl (Nat.le_of_ble_eq_true rfl) rfl ?_
  intro p e s m args below meth cd ls A H locs hx hb hr hml hown hts hlocks hP hK hD hA hS hN hl hin
  have hS0 := hS
  have hl : lv_has ls 2 [(0, .ref (Y 0)), (1, .int x)] := hl
  have hf31 : (Cond.fieldLink RX5 31 "StakeWeirsModel" "thrown" "I").before args s = true := hts _ (by decide +kernel)
  have hinX5 : ∀ w ∈ wsX50, w ∈ wsX5_barge := by decide +kernel
  refine lv_aload_n hx hb dX5_barge_0 rfl (lv_at hl 0 rfl) ?_
  refine lv_iconst (v := 0) hx hb dX5_barge_1 (by decide) ?_
  refine va_put (D := D) (ci := 5) (v := .int 0) (ty := .int) (C := RX5) (T := TX5) (N := 7) hx hb hts hinX5 tyX5 tyX5_ok nmX5 hown hK hP hD hS (0) rfl rfl 0 (by decide) hf31 (fun _ h9 => h9) rfl (by decide +kernel) rfl rfl (Nat.le_of_ble_eq_true rfl) dX5_barge_2 (fun H locs hP hD hS => ?_)
  have hP : va_P D vwCl (zW Y Z Z2 y 0 t c q b bc n ar fi rn T) H := hP
  have hD : va_D A (zW Y Z Z2 y 0 t c q b bc n ar fi rn T) := hD
  refine lv_iload_n hx hb dX5_barge_5 rfl (lv_at hl 1 rfl) ?_
  refine lv_iconst (v := 1) hx hb dX5_barge_6 (by decide) ?_
  refine lv_bipush (v := 20) hx hb dX5_barge_7 (by decide) ?_
  refine zcRS (As := [.int x, .int 1, .int 20]) (rest := []) (st1 := [.int (zb (inB 1 x 20))]) ⟨hx, hb, hml, hown, hts⟩ (c_X5_isIn l D y x 1 20) (cwS 3 hts gX5_barge_X5_isIn rfl rfl rfl (by decide +kernel) ⟨Nat.le_of_ble_eq_true rfl, Nat.le_of_ble_eq_true rfl⟩) hK va_P_nil rfl hl.1 rfl (lv_room (Nat.le_of_ble_eq_true rfl)) dX5_barge_9 ⟨Nat.le_of_ble_eq_true rfl, Nat.le_of_ble_eq_true rfl⟩ rfl ?_
  refine lv_if_ne (tgt := 21) hx hb dX5_barge_12 (by decide) (fun c1 => ?_) (fun c1 => ?_)
  · exact absurd (zb_t c1) (by rw [hw]; decide)
  · have c1 := c1
    refine lv_aload_n hx hb dX5_barge_15 rfl (lv_at hl 0 rfl) ?_
    refine lv_iconst (v := 1) hx hb dX5_barge_16 (by decide) ?_
    refine zcMV (As := [.int 1]) (rest := []) (st1 := [.int 0]) (cells1 := 0) (slots1 := 0) ⟨hx, hb, hml, hown, hts⟩ (c_X5_no l D y Y Z Z2 0 t c q b bc n ar fi rn T 1 _) (cwV 1 hts gX5_barge_X5_no rfl rfl rfl (by decide +kernel) ⟨Nat.le_of_ble_eq_true rfl, Nat.le_of_ble_eq_true rfl⟩) hK hP (z_D_T hD) (ci := 5) (q0 := 0) rfl rfl rfl rfl hl.1 rfl (lv_room (Nat.le_of_ble_eq_true rfl)) dX5_barge_17 hS (z_sub_F hD hS hA z_in_r) ⟨Nat.le_of_ble_eq_true rfl, Nat.le_of_ble_eq_true rfl⟩ rfl rfl rfl (fun H locs hP1 hz hfr hS => ?_)
    have hD := z_D_adr hD (show (zW Y Z Z2 y 1 t c q b bc n ar fi rn T).map Prod.fst = _ from rfl)
    have hP := hP1
    exact zM_i hx hb hr hlocks hS dX5_barge_20 rfl hP
set_option maxHeartbeats 1000000 in
set_option maxRecDepth 100000 in
theorem c_X5_barge_N2 (l : Launch) (D : va_G) (y : Nat → ClassId) (Y Z Z2 : Nat → Nat) (th : Int32) (t : Nat → Int32) (c : Nat) (q b : Fld) (bc n : Nat) (ar fi rn : Int32) (T : Nst) (x : Int32) (hw : inB 1 x 20 = true) (hbc : bc = 5) (sz : Nat) : zMN l yX5_barge wsX5_barge { frames := 1, cells := 0, slots := 0, locals := 22 } D y [.ref (Y 0), .int x] (zW Y Z Z2 y th t c q b bc n ar fi rn T) sz (some (.int 0)) (zW Y Z Z2 y 2 t c q b bc n ar fi rn T) 0 0 := by
  refine zMN.of (cc := cX5_barge) (maxL := 2) (ret := (some .int)) (own := RX5) (by decide) rfl (Nat.le_of_ble_eq_true rfl) rfl ?_
  intro p e s m args below meth cd ls A H locs hx hb hr hml hown hts hlocks hP hK hD hA hS hN hl hin
  have hS0 := hS
  have hl : lv_has ls 2 [(0, .ref (Y 0)), (1, .int x)] := hl
  have hf31 : (Cond.fieldLink RX5 31 "StakeWeirsModel" "thrown" "I").before args s = true := hts _ (by decide +kernel)
  have hinX5 : ∀ w ∈ wsX50, w ∈ wsX5_barge := by decide +kernel
  have hf24 : (Cond.fieldLink RX5 24 "StakeWeirsModel" "s" "LStakeWeirsModel$State;").before args s = true := hts _ (by decide +kernel)
  have hf42 : (Cond.fieldLinkNest "StakeWeirsModel" 42 "StakeWeirsModel$State" "barges" "I" "StakeWeirsModel").before args s = true := va_Nw.use rfl (hN ("StakeWeirsModel", 42, "StakeWeirsModel$State", "barges", "I", "StakeWeirsModel") (by decide +kernel))
  have hinX4 : ∀ w ∈ wsX40, w ∈ wsX5_barge := by decide +kernel
  refine lv_aload_n hx hb dX5_barge_0 rfl (lv_at hl 0 rfl) ?_
  refine lv_iconst (v := 0) hx hb dX5_barge_1 (by decide) ?_
  refine va_put (D := D) (ci := 5) (v := .int 0) (ty := .int) (C := RX5) (T := TX5) (N := 7) hx hb hts hinX5 tyX5 tyX5_ok nmX5 hown hK hP hD hS (0) rfl rfl 0 (by decide) hf31 (fun _ h9 => h9) rfl (by decide +kernel) rfl rfl (Nat.le_of_ble_eq_true rfl) dX5_barge_2 (fun H locs hP hD hS => ?_)
  have hP : va_P D vwCl (zW Y Z Z2 y 0 t c q b bc n ar fi rn T) H := hP
  have hD : va_D A (zW Y Z Z2 y 0 t c q b bc n ar fi rn T) := hD
  refine lv_iload_n hx hb dX5_barge_5 rfl (lv_at hl 1 rfl) ?_
  refine lv_iconst (v := 1) hx hb dX5_barge_6 (by decide) ?_
  refine lv_bipush (v := 20) hx hb dX5_barge_7 (by decide) ?_
  refine zcRS (As := [.int x, .int 1, .int 20]) (rest := []) (st1 := [.int (zb (inB 1 x 20))]) ⟨hx, hb, hml, hown, hts⟩ (c_X5_isIn l D y x 1 20) (cwS 3 hts gX5_barge_X5_isIn rfl rfl rfl (by decide +kernel) ⟨Nat.le_of_ble_eq_true rfl, Nat.le_of_ble_eq_true rfl⟩) hK va_P_nil rfl hl.1 rfl (lv_room (Nat.le_of_ble_eq_true rfl)) dX5_barge_9 ⟨Nat.le_of_ble_eq_true rfl, Nat.le_of_ble_eq_true rfl⟩ rfl ?_
  refine lv_if_ne (tgt := 21) hx hb dX5_barge_12 (by decide) (fun c1 => ?_) (fun c1 => ?_)
  · have c1 := c1
    refine lv_aload_n hx hb dX5_barge_21 rfl (lv_at hl 0 rfl) ?_
    refine va_get (D := D) (ci := 5) (v := .ref (Z 0)) (C := RX5) (T := TX5) (N := 7) hx hb hts hinX5 hown hK hP (0) rfl rfl 5 (by decide) hf24 (fun _ h9 => h9) rfl dX5_barge_22 ?_
    refine va_getN (D := D) (ci := 4) (v := .int (nI bc)) (C := RX4) (T := TX4) (N := 16) hx hb hts hinX4 hown hK hP (4) rfl rfl 7 (by decide) hf42 (fun _ h9 => h9) rfl dX5_barge_25 ?_
    refine lv_iconst (v := 5) hx hb dX5_barge_28 (by decide) ?_
    refine lv_icmp_ne (tgt := 38) hx hb dX5_barge_29 (by decide) (fun c2 => ?_) (fun c2 => ?_)
    · exact absurd c2 (fun h9 => h9 (by rw [hbc]; rfl))
    · have d2 := c2
      refine lv_aload_n hx hb dX5_barge_32 rfl (lv_at hl 0 rfl) ?_
      refine lv_iconst (v := 2) hx hb dX5_barge_33 (by decide) ?_
      refine zcMV (As := [.int 2]) (rest := []) (st1 := [.int 0]) (cells1 := 0) (slots1 := 0) ⟨hx, hb, hml, hown, hts⟩ (c_X5_no l D y Y Z Z2 0 t c q b bc n ar fi rn T 2 _) (cwV 1 hts gX5_barge_X5_no rfl rfl rfl (by decide +kernel) ⟨Nat.le_of_ble_eq_true rfl, Nat.le_of_ble_eq_true rfl⟩) hK hP (z_D_T hD) (ci := 5) (q0 := 0) rfl rfl rfl rfl hl.1 rfl (lv_room (Nat.le_of_ble_eq_true rfl)) dX5_barge_34 hS (z_sub_F hD hS hA z_in_r) ⟨Nat.le_of_ble_eq_true rfl, Nat.le_of_ble_eq_true rfl⟩ rfl rfl rfl (fun H locs hP1 hz hfr hS => ?_)
      have hD := z_D_adr hD (show (zW Y Z Z2 y 2 t c q b bc n ar fi rn T).map Prod.fst = _ from rfl)
      have hP := hP1
      exact zM_i hx hb hr hlocks hS dX5_barge_37 rfl hP
  · exact absurd (zb_f c1) (by rw [hw]; decide)
