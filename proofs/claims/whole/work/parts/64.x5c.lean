theorem zM_d {p : Program} {l : Launch} {e : Env} {R : Room} {s : State} {m : MethodId} {args : Array Value} {below : List Frame} {meth : Method} {c : Code} {H : Heap} {locs : List Loc} {cells slots : Nat} {cc : ByteArray} {pc : Nat} {ls : Array Slot} {D : va_G} {rv : Option Value} {v : UInt64} {A : Nat → Prop} {w1 : va_W} (hx : p.tables.exec = Jvm.exec) (hb : c.code = cc) (hr : meth.sig.returnType = some .double) (hlocks : meth.locks = false) (hS : va_S A s.heap H locs) (hdg : decode cc pc = .ok (.dreturn, 1)) (hv : some (Value.double v) = rv) (hP : va_P D vwCl w1 H) : W p l e R s m args below meth c H locs cells slots (MQ below (zMQ rv D w1 A) args s cells slots A) (F0 m pc ls [.double v]) := by
  subst hv
  exact W.dret hx hb hr (fun t ht _ => ⟨⟨rfl, by rw [ht]; exact hP⟩, hS.F ht⟩) hS.2.2 hdg hlocks
set_option maxHeartbeats 1000000 in
set_option maxRecDepth 100000 in
theorem c_X5_pass (l : Launch) (D : va_G) (y : Nat → ClassId) (Y Z Z2 : Nat → Nat) (th : Int32) (t : Nat → Int32) (c : Nat) (q b : Fld) (bc n : Nat) (ar fi rn : Int32) (T : Nst) (mm : Nat) (hw : inB 1 (nI mm) 60 = true) (hn : n + mm < 2147483648) (hc : c ≤ 6) (hbc : bc ≤ 5) (sz : Nat) : zMN l yX5_pass wsX5_pass { frames := 6, cells := 0, slots := 0, locals := 132 } D y [.ref (Y 0), .int (nI mm)] (zW Y Z Z2 y th t c q b bc n ar fi rn T) sz (some (.int ((nightsM t c mm (q, b, bc, n, ar, fi, rn)).2.2.2.2.1 - ar))) (zW Y Z Z2 y 0 t c ((nightsM t c mm (q, b, bc, n, ar, fi, rn)).1) ((nightsM t c mm (q, b, bc, n, ar, fi, rn)).2.1) ((nightsM t c mm (q, b, bc, n, ar, fi, rn)).2.2.1) ((nightsM t c mm (q, b, bc, n, ar, fi, rn)).2.2.2.1) ((nightsM t c mm (q, b, bc, n, ar, fi, rn)).2.2.2.2.1) ((nightsM t c mm (q, b, bc, n, ar, fi, rn)).2.2.2.2.2.1) ((nightsM t c mm (q, b, bc, n, ar, fi, rn)).2.2.2.2.2.2) T) 0 0 := by
  refine zMN.of (cc := cX5_pass) (maxL := 3) (ret := (some .int)) (own := RX5) (by decide) rfl (Nat.le_of_ble_eq_true rfl) rfl ?_
  intro p e s m args below meth cd ls A H locs hx hb hr hml hown hts hlocks hP hK hD hA hS hN hl hin
  have hS0 := hS
  have hl : lv_has ls 3 [(0, .ref (Y 0)), (1, .int (nI mm))] := hl
  have hf31 : (Cond.fieldLink RX5 31 "StakeWeirsModel" "thrown" "I").before args s = true := hts _ (by decide +kernel)
  have hinX5 : ∀ w ∈ wsX50, w ∈ wsX5_pass := by decide +kernel
  have hf24 : (Cond.fieldLink RX5 24 "StakeWeirsModel" "s" "LStakeWeirsModel$State;").before args s = true := hts _ (by decide +kernel)
  have hf107 : (Cond.fieldLinkNest "StakeWeirsModel" 107 "StakeWeirsModel$State" "arrived" "I" "StakeWeirsModel").before args s = true := va_Nw.use rfl (hN ("StakeWeirsModel", 107, "StakeWeirsModel$State", "arrived", "I", "StakeWeirsModel") (by decide +kernel))
  have hinX4 : ∀ w ∈ wsX40, w ∈ wsX5_pass := by decide +kernel
  refine lv_aload_n hx hb dX5_pass_0 rfl (lv_at hl 0 rfl) ?_
  refine lv_iconst (v := 0) hx hb dX5_pass_1 (by decide) ?_
  refine va_put (D := D) (ci := 5) (v := .int 0) (ty := .int) (C := RX5) (T := TX5) (N := 7) hx hb hts hinX5 tyX5 tyX5_ok nmX5 hown hK hP hD hS (0) rfl rfl 0 (by decide) hf31 (fun _ h9 => h9) rfl (by decide +kernel) rfl rfl (Nat.le_of_ble_eq_true rfl) dX5_pass_2 (fun H locs hP hD hS => ?_)
  have hP : va_P D vwCl (zW Y Z Z2 y 0 t c q b bc n ar fi rn T) H := hP
  have hD : va_D A (zW Y Z Z2 y 0 t c q b bc n ar fi rn T) := hD
  refine lv_iload_n hx hb dX5_pass_5 rfl (lv_at hl 1 rfl) ?_
  refine lv_iconst (v := 1) hx hb dX5_pass_6 (by decide) ?_
  refine lv_bipush (v := 60) hx hb dX5_pass_7 (by decide) ?_
  refine zcRS (As := [.int (nI mm), .int 1, .int 60]) (rest := []) (st1 := [.int (zb (inB 1 (nI mm) 60))]) ⟨hx, hb, hml, hown, hts⟩ (c_X5_isIn l D y (nI mm) 1 60) (cwS 3 hts gX5_pass_X5_isIn rfl rfl rfl (by decide +kernel) ⟨Nat.le_of_ble_eq_true rfl, Nat.le_of_ble_eq_true rfl⟩) hK va_P_nil rfl hl.1 rfl (lv_room (Nat.le_of_ble_eq_true rfl)) dX5_pass_9 ⟨Nat.le_of_ble_eq_true rfl, Nat.le_of_ble_eq_true rfl⟩ rfl ?_
  refine lv_if_ne (tgt := 21) hx hb dX5_pass_12 (by decide) (fun c1 => ?_) (fun c1 => ?_)
  · have c1 := c1
    refine lv_aload_n hx hb dX5_pass_21 rfl (lv_at hl 0 rfl) ?_
    refine va_get (D := D) (ci := 5) (v := .ref (Z 0)) (C := RX5) (T := TX5) (N := 7) hx hb hts hinX5 hown hK hP (0) rfl rfl 5 (by decide) hf24 (fun _ h9 => h9) rfl dX5_pass_22 ?_
    refine va_getN (D := D) (ci := 4) (v := .int ar) (C := RX4) (T := TX4) (N := 16) hx hb hts hinX4 hown hK hP (4) rfl rfl 12 (by decide) hf107 (fun _ h9 => h9) rfl dX5_pass_25 ?_
    refine lv_istore_n (lv' := [(2, .int ar), (0, .ref (Y 0)), (1, .int (nI mm))]) hx hb dX5_pass_28 rfl hl (by decide) rfl (fun ls hl => ?_)
    refine lv_aload_n hx hb dX5_pass_29 rfl (lv_at hl 1 rfl) ?_
    refine va_get (D := D) (ci := 5) (v := .ref (Z 0)) (C := RX5) (T := TX5) (N := 7) hx hb hts hinX5 hown hK hP (0) rfl rfl 5 (by decide) hf24 (fun _ h9 => h9) rfl dX5_pass_30 ?_
    refine lv_iload_n hx hb dX5_pass_33 rfl (lv_at hl 2 rfl) ?_
    refine zcNMV (As := [.int (nI mm)]) (rest := []) (st1 := []) (cells1 := 0) (slots1 := 0) ⟨hx, hb, hml, hown, hts⟩ (c_X4_pass_ l D y Y Z (Z 0) (Z2 0) 0 t c q b bc n ar fi rn mm (by omega) (by omega) (by omega) _) (cwV 1 hts gX5_pass_X4_pass_ rfl rfl rfl (by decide +kernel) ⟨Nat.le_of_ble_eq_true rfl, Nat.le_of_ble_eq_true rfl⟩) hN hK (zz_sP hP) (zz_sD hD) (ci := 4) (q0 := 4) rfl rfl rfl rfl hl.1 rfl (lv_room (Nat.le_of_ble_eq_true rfl)) dX5_pass_34 hS (zz_sF hD hS hA) ⟨Nat.le_of_ble_eq_true rfl, Nat.le_of_ble_eq_true rfl⟩ rfl rfl rfl (fun H locs hP1 hz hfr hS => ?_)
    obtain ⟨hP, hD⟩ := zz_sB hP hD hP1 hfr
    have hP : va_P D vwCl (zW Y Z Z2 y 0 t c ((nightsM t c mm (q, b, bc, n, ar, fi, rn)).1) ((nightsM t c mm (q, b, bc, n, ar, fi, rn)).2.1) ((nightsM t c mm (q, b, bc, n, ar, fi, rn)).2.2.1) ((nightsM t c mm (q, b, bc, n, ar, fi, rn)).2.2.2.1) ((nightsM t c mm (q, b, bc, n, ar, fi, rn)).2.2.2.2.1) ((nightsM t c mm (q, b, bc, n, ar, fi, rn)).2.2.2.2.2.1) ((nightsM t c mm (q, b, bc, n, ar, fi, rn)).2.2.2.2.2.2) T) H := hP
    have hD : va_D A (zW Y Z Z2 y 0 t c ((nightsM t c mm (q, b, bc, n, ar, fi, rn)).1) ((nightsM t c mm (q, b, bc, n, ar, fi, rn)).2.1) ((nightsM t c mm (q, b, bc, n, ar, fi, rn)).2.2.1) ((nightsM t c mm (q, b, bc, n, ar, fi, rn)).2.2.2.1) ((nightsM t c mm (q, b, bc, n, ar, fi, rn)).2.2.2.2.1) ((nightsM t c mm (q, b, bc, n, ar, fi, rn)).2.2.2.2.2.1) ((nightsM t c mm (q, b, bc, n, ar, fi, rn)).2.2.2.2.2.2) T) := hD
    refine lv_aload_n hx hb dX5_pass_37 rfl (lv_at hl 1 rfl) ?_
    refine va_get (D := D) (ci := 5) (v := .ref (Z 0)) (C := RX5) (T := TX5) (N := 7) hx hb hts hinX5 hown hK hP (0) rfl rfl 5 (by decide) hf24 (fun _ h9 => h9) rfl dX5_pass_38 ?_
    refine va_getN (D := D) (ci := 4) (v := .int ((nightsM t c mm (q, b, bc, n, ar, fi, rn)).2.2.2.2.1)) (C := RX4) (T := TX4) (N := 16) hx hb hts hinX4 hown hK hP (4) rfl rfl 12 (by decide) hf107 (fun _ h9 => h9) rfl dX5_pass_41 ?_
    refine lv_iload_n hx hb dX5_pass_44 rfl (lv_at hl 0 rfl) ?_
    refine lv_isub hx hb dX5_pass_45 ?_
    exact zM_i hx hb hr hlocks hS dX5_pass_46 rfl hP
  · exact absurd (zb_f c1) (by rw [hw]; decide)
set_option maxHeartbeats 1000000 in
set_option maxRecDepth 100000 in
theorem c_X5_pass_N1 (l : Launch) (D : va_G) (y : Nat → ClassId) (Y Z Z2 : Nat → Nat) (th : Int32) (t : Nat → Int32) (c : Nat) (q b : Fld) (bc n : Nat) (ar fi rn : Int32) (T : Nst) (x : Int32) (hw : inB 1 x 60 = false) (sz : Nat) : zMN l yX5_pass wsX5_pass { frames := 1, cells := 0, slots := 0, locals := 22 } D y [.ref (Y 0), .int x] (zW Y Z Z2 y th t c q b bc n ar fi rn T) sz (some (.int 0)) (zW Y Z Z2 y 1 t c q b bc n ar fi rn T) 0 0 := by
  refine zMN.of (cc := cX5_pass) (maxL := 3) (ret := (some .int)) (own := RX5) (by decide) rfl (Nat.le_of_ble_eq_true rfl) rfl ?_
  intro p e s m args below meth cd ls A H locs hx hb hr hml hown hts hlocks hP hK hD hA hS hN hl hin
  have hS0 := hS
  have hl : lv_has ls 3 [(0, .ref (Y 0)), (1, .int x)] := hl
  have hf31 : (Cond.fieldLink RX5 31 "StakeWeirsModel" "thrown" "I").before args s = true := hts _ (by decide +kernel)
  have hinX5 : ∀ w ∈ wsX50, w ∈ wsX5_pass := by decide +kernel
  refine lv_aload_n hx hb dX5_pass_0 rfl (lv_at hl 0 rfl) ?_
  refine lv_iconst (v := 0) hx hb dX5_pass_1 (by decide) ?_
  refine va_put (D := D) (ci := 5) (v := .int 0) (ty := .int) (C := RX5) (T := TX5) (N := 7) hx hb hts hinX5 tyX5 tyX5_ok nmX5 hown hK hP hD hS (0) rfl rfl 0 (by decide) hf31 (fun _ h9 => h9) rfl (by decide +kernel) rfl rfl (Nat.le_of_ble_eq_true rfl) dX5_pass_2 (fun H locs hP hD hS => ?_)
  have hP : va_P D vwCl (zW Y Z Z2 y 0 t c q b bc n ar fi rn T) H := hP
  have hD : va_D A (zW Y Z Z2 y 0 t c q b bc n ar fi rn T) := hD
  refine lv_iload_n hx hb dX5_pass_5 rfl (lv_at hl 1 rfl) ?_
  refine lv_iconst (v := 1) hx hb dX5_pass_6 (by decide) ?_
  refine lv_bipush (v := 60) hx hb dX5_pass_7 (by decide) ?_
  refine zcRS (As := [.int x, .int 1, .int 60]) (rest := []) (st1 := [.int (zb (inB 1 x 60))]) ⟨hx, hb, hml, hown, hts⟩ (c_X5_isIn l D y x 1 60) (cwS 3 hts gX5_pass_X5_isIn rfl rfl rfl (by decide +kernel) ⟨Nat.le_of_ble_eq_true rfl, Nat.le_of_ble_eq_true rfl⟩) hK va_P_nil rfl hl.1 rfl (lv_room (Nat.le_of_ble_eq_true rfl)) dX5_pass_9 ⟨Nat.le_of_ble_eq_true rfl, Nat.le_of_ble_eq_true rfl⟩ rfl ?_
  refine lv_if_ne (tgt := 21) hx hb dX5_pass_12 (by decide) (fun c1 => ?_) (fun c1 => ?_)
  · exact absurd (zb_t c1) (by rw [hw]; decide)
  · have c1 := c1
    refine lv_aload_n hx hb dX5_pass_15 rfl (lv_at hl 0 rfl) ?_
    refine lv_iconst (v := 1) hx hb dX5_pass_16 (by decide) ?_
    refine zcMV (As := [.int 1]) (rest := []) (st1 := [.int 0]) (cells1 := 0) (slots1 := 0) ⟨hx, hb, hml, hown, hts⟩ (c_X5_no l D y Y Z Z2 0 t c q b bc n ar fi rn T 1 _) (cwV 1 hts gX5_pass_X5_no rfl rfl rfl (by decide +kernel) ⟨Nat.le_of_ble_eq_true rfl, Nat.le_of_ble_eq_true rfl⟩) hK hP (z_D_T hD) (ci := 5) (q0 := 0) rfl rfl rfl rfl hl.1 rfl (lv_room (Nat.le_of_ble_eq_true rfl)) dX5_pass_17 hS (z_sub_F hD hS hA z_in_r) ⟨Nat.le_of_ble_eq_true rfl, Nat.le_of_ble_eq_true rfl⟩ rfl rfl rfl (fun H locs hP1 hz hfr hS => ?_)
    have hD := z_D_adr hD (show (zW Y Z Z2 y 1 t c q b bc n ar fi rn T).map Prod.fst = _ from rfl)
    have hP := hP1
    exact zM_i hx hb hr hlocks hS dX5_pass_20 rfl hP
set_option maxHeartbeats 1000000 in
set_option maxRecDepth 100000 in
theorem c_X5_catches (l : Launch) (D : va_G) (y : Nat → ClassId) (Y Z Z2 : Nat → Nat) (th : Int32) (t : Nat → Int32) (c : Nat) (q b : Fld) (bc n : Nat) (ar fi rn : Int32) (T : Nst) (k : Nat) (hk : k < c) (hc : c ≤ 6) (hn : n < 2147483648) (sz : Nat) : zMN l yX5_catches wsX5_catches { frames := 3, cells := 0, slots := 0, locals := 67 } D y [.ref (Y 0), .int (nI k)] (zW Y Z Z2 y th t c q b bc n ar fi rn T) sz (some (.int (dnO (nI k) c 40 (q, runM t n, 0)).2.2)) (zW Y Z Z2 y 0 t c q b bc n ar fi rn ((dnO (nI k) c 40 (q, runM t n, 0)).1, (q, wasB b, bc, n, ar, fi, rn).2)) 0 0 := by
  refine zMN.of (cc := cX5_catches) (maxL := 2) (ret := (some .int)) (own := RX5) (by decide) rfl (Nat.le_of_ble_eq_true rfl) rfl ?_
  intro p e s m args below meth cd ls A H locs hx hb hr hml hown hts hlocks hP hK hD hA hS hN hl hin
  have hS0 := hS
  have hl : lv_has ls 2 [(0, .ref (Y 0)), (1, .int (nI k))] := hl
  have hf31 : (Cond.fieldLink RX5 31 "StakeWeirsModel" "thrown" "I").before args s = true := hts _ (by decide +kernel)
  have hinX5 : ∀ w ∈ wsX50, w ∈ wsX5_catches := by decide +kernel
  have hf28 : (Cond.fieldLink RX5 28 "StakeWeirsModel" "ahead" "LStakeWeirsModel$State;").before args s = true := hts _ (by decide +kernel)
  have hf24 : (Cond.fieldLink RX5 24 "StakeWeirsModel" "s" "LStakeWeirsModel$State;").before args s = true := hts _ (by decide +kernel)
  refine lv_aload_n hx hb dX5_catches_0 rfl (lv_at hl 0 rfl) ?_
  refine lv_iconst (v := 0) hx hb dX5_catches_1 (by decide) ?_
  refine va_put (D := D) (ci := 5) (v := .int 0) (ty := .int) (C := RX5) (T := TX5) (N := 7) hx hb hts hinX5 tyX5 tyX5_ok nmX5 hown hK hP hD hS (0) rfl rfl 0 (by decide) hf31 (fun _ h9 => h9) rfl (by decide +kernel) rfl rfl (Nat.le_of_ble_eq_true rfl) dX5_catches_2 (fun H locs hP hD hS => ?_)
  have hP : va_P D vwCl (zW Y Z Z2 y 0 t c q b bc n ar fi rn T) H := hP
  have hD : va_D A (zW Y Z Z2 y 0 t c q b bc n ar fi rn T) := hD
  refine lv_aload_n hx hb dX5_catches_5 rfl (lv_at hl 0 rfl) ?_
  refine lv_iload_n hx hb dX5_catches_6 rfl (lv_at hl 1 rfl) ?_
  refine zcRV (As := [.int (nI k)]) (rest := []) (st1 := [.int (zb (inB 0 (nI k) (nI c - 1)))]) ⟨hx, hb, hml, hown, hts⟩ (c_X5_isWeir l D y Y Z Z2 0 t c q b bc n ar fi rn T (nI k)) (cwV 1 hts gX5_catches_X5_isWeir rfl rfl rfl (by decide +kernel) ⟨Nat.le_of_ble_eq_true rfl, Nat.le_of_ble_eq_true rfl⟩) hK hP (ci := 5) (q0 := 0) rfl rfl rfl rfl hl.1 rfl (lv_room (Nat.le_of_ble_eq_true rfl)) dX5_catches_7 ⟨Nat.le_of_ble_eq_true rfl, Nat.le_of_ble_eq_true rfl⟩ rfl ?_
  refine lv_if_eq (tgt := 31) hx hb dX5_catches_10 (by decide) (fun c1 => ?_) (fun c1 => ?_)
  · exact absurd (zb_f c1) (by rw [(inW_t hk hc)]; decide)
  · have c1 := c1
    refine lv_aload_n hx hb dX5_catches_13 rfl (lv_at hl 0 rfl) ?_
    refine va_get (D := D) (ci := 5) (v := .ref (Z2 0)) (C := RX5) (T := TX5) (N := 7) hx hb hts hinX5 hown hK hP (0) rfl rfl 6 (by decide) hf28 (fun _ h9 => h9) rfl dX5_catches_14 ?_
    refine lv_aload_n hx hb dX5_catches_17 rfl (lv_at hl 0 rfl) ?_
    refine va_get (D := D) (ci := 5) (v := .ref (Z 0)) (C := RX5) (T := TX5) (N := 7) hx hb hts hinX5 hown hK hP (0) rfl rfl 5 (by decide) hf24 (fun _ h9 => h9) rfl dX5_catches_18 ?_
    refine zcMV (As := [.ref (Z 0)]) (rest := []) (st1 := [.ref (Z2 0)]) (cells1 := 0) (slots1 := 0) ⟨hx, hb, hml, hown, hts⟩ (c_X4_become l D y (Y 0) Z2 Z T.1 T.2.1 T.2.2.1 T.2.2.2.1 T.2.2.2.2.1 T.2.2.2.2.2.1 T.2.2.2.2.2.2 q b bc n ar fi rn _) (cwV 1 hts gX5_catches_X4_become rfl rfl rfl (by decide +kernel) ⟨Nat.le_of_ble_eq_true rfl, Nat.le_of_ble_eq_true rfl⟩) hK (z_sub_P hP (fun z h => List.mem_append_right _ ((List.mem_append.mp h).elim (fun h => List.mem_append_right _ h) (fun h => List.mem_append_left _ h)))) (z_D_s (l1 := (oW Y (Z 0) (Z2 0) y 0 t c (q 0) (q 3))) hD) (ci := 4) (q0 := 0) rfl rfl rfl rfl hl.1 rfl (lv_room (Nat.le_of_ble_eq_true rfl)) dX5_catches_21 hS (z_sub_F hD hS hA (fun z h => List.mem_append_right _ ((List.mem_append.mp h).elim (fun h => List.mem_append_right _ h) (fun h => List.mem_append_left _ h)))) ⟨Nat.le_of_ble_eq_true rfl, Nat.le_of_ble_eq_true rfl⟩ rfl rfl rfl (fun H locs hP1 hz hfr hS => ?_)
    obtain ⟨hP, hD⟩ := z_segS (ws1 := zW Y Z Z2 y 0 t c q b bc n ar fi rn (q, wasB b, bc, n, ar, fi, rn)) (l1 := (oW Y (Z 0) (Z2 0) y 0 t c (q 0) (q 3))) (a := (stW Z (Y 0) y q b bc n ar fi rn)) (b := (stW Z2 (Y 0) y T.1 T.2.1 T.2.2.1 T.2.2.2.1 T.2.2.2.2.1 T.2.2.2.2.2.1 T.2.2.2.2.2.2)) (b1 := (stW Z2 (Y 0) y q (wasB b) bc n ar fi rn)) hP hD rfl rfl rfl hP1 hfr
    have hq0 : (q, wasB b, bc, n, ar, fi, rn).1 0 = q 0 := rfl
    have hq3 : (q, wasB b, bc, n, ar, fi, rn).1 3 = q 3 := rfl
    have hTb : (q, wasB b, bc, n, ar, fi, rn).2.2.1 = bc := rfl
    have hTn : (q, wasB b, bc, n, ar, fi, rn).2.2.2.1 = n := rfl
    refine lv_iload_n hx hb dX5_catches_24 rfl (lv_at hl 1 rfl) ?_
    refine zcNMV (As := [.int (nI k)]) (rest := []) (st1 := [.int ((dnO (nI k) c 40 ((q, wasB b, bc, n, ar, fi, rn).1, runM t ((q, wasB b, bc, n, ar, fi, rn).2.2.2.1), 0)).2.2)]) (cells1 := 0) (slots1 := 0) ⟨hx, hb, hml, hown, hts⟩ (c_X4_runDown l D y Y Z2 (Z 0) (Z2 0) 0 t c ((q, wasB b, bc, n, ar, fi, rn).1) ((q, wasB b, bc, n, ar, fi, rn).2.1) ((q, wasB b, bc, n, ar, fi, rn).2.2.1) ((q, wasB b, bc, n, ar, fi, rn).2.2.2.1) ((q, wasB b, bc, n, ar, fi, rn).2.2.2.2.1) ((q, wasB b, bc, n, ar, fi, rn).2.2.2.2.2.1) ((q, wasB b, bc, n, ar, fi, rn).2.2.2.2.2.2) (nI k) (by omega) (by omega) _) (cwV 1 hts gX5_catches_X4_runDown rfl rfl rfl (by decide +kernel) ⟨Nat.le_of_ble_eq_true rfl, Nat.le_of_ble_eq_true rfl⟩) hN hK (zz_aP hq0 hq3 hP) (zz_aD hq0 hq3 hD) (ci := 4) (q0 := 4) rfl rfl rfl rfl hl.1 rfl (lv_room (Nat.le_of_ble_eq_true rfl)) dX5_catches_25 hS (zz_aF hq0 hq3 hD hS hA) ⟨Nat.le_of_ble_eq_true rfl, Nat.le_of_ble_eq_true rfl⟩ rfl rfl rfl (fun H locs hP1 hz hfr hS => ?_)
    obtain ⟨hP, hD⟩ := zz_aB (T1 := ((dnO (nI k) c 40 ((q, wasB b, bc, n, ar, fi, rn).1, runM t ((q, wasB b, bc, n, ar, fi, rn).2.2.2.1), 0)).1, (q, wasB b, bc, n, ar, fi, rn).2)) hP hD hq0 hq3 ((dnO_q0 _ _ _ _).1.trans hq0) ((dnO_q0 _ _ _ _).2.trans hq3) hP1 hfr
    have hP : va_P D vwCl (zW Y Z Z2 y 0 t c q b bc n ar fi rn ((dnO (nI k) c 40 ((q, wasB b, bc, n, ar, fi, rn).1, runM t ((q, wasB b, bc, n, ar, fi, rn).2.2.2.1), 0)).1, (q, wasB b, bc, n, ar, fi, rn).2)) H := hP
    have hD : va_D A (zW Y Z Z2 y 0 t c q b bc n ar fi rn ((dnO (nI k) c 40 ((q, wasB b, bc, n, ar, fi, rn).1, runM t ((q, wasB b, bc, n, ar, fi, rn).2.2.2.1), 0)).1, (q, wasB b, bc, n, ar, fi, rn).2)) := hD
    have hq0 : ((dnO (nI k) c 40 ((q, wasB b, bc, n, ar, fi, rn).1, runM t ((q, wasB b, bc, n, ar, fi, rn).2.2.2.1), 0)).1, (q, wasB b, bc, n, ar, fi, rn).2).1 0 = q 0 := ((dnO_q0 _ _ _ _).1.trans hq0)
    have hq3 : ((dnO (nI k) c 40 ((q, wasB b, bc, n, ar, fi, rn).1, runM t ((q, wasB b, bc, n, ar, fi, rn).2.2.2.1), 0)).1, (q, wasB b, bc, n, ar, fi, rn).2).1 3 = q 3 := ((dnO_q0 _ _ _ _).2.trans hq3)
    refine lv_goto (tgt := 36) hx hb dX5_catches_28 (by decide) ?_
    exact zM_i hx hb hr hlocks hS dX5_catches_36 rfl hP
set_option maxHeartbeats 1000000 in
set_option maxRecDepth 100000 in
theorem c_X5_catches_N1 (l : Launch) (D : va_G) (y : Nat → ClassId) (Y Z Z2 : Nat → Nat) (th : Int32) (t : Nat → Int32) (c : Nat) (q b : Fld) (bc n : Nat) (ar fi rn : Int32) (T : Nst) (x : Int32) (hx0 : x < 0 ∨ nI c ≤ x) (hc : c ≤ 6) (sz : Nat) : zMN l yX5_catches wsX5_catches { frames := 2, cells := 0, slots := 0, locals := 43 } D y [.ref (Y 0), .int x] (zW Y Z Z2 y th t c q b bc n ar fi rn T) sz (some (.int 0)) (zW Y Z Z2 y 1 t c q b bc n ar fi rn T) 0 0 := by
  refine zMN.of (cc := cX5_catches) (maxL := 2) (ret := (some .int)) (own := RX5) (by decide) rfl (Nat.le_of_ble_eq_true rfl) rfl ?_
  intro p e s m args below meth cd ls A H locs hx hb hr hml hown hts hlocks hP hK hD hA hS hN hl hin
  have hS0 := hS
  have hl : lv_has ls 2 [(0, .ref (Y 0)), (1, .int x)] := hl
  have hf31 : (Cond.fieldLink RX5 31 "StakeWeirsModel" "thrown" "I").before args s = true := hts _ (by decide +kernel)
  have hinX5 : ∀ w ∈ wsX50, w ∈ wsX5_catches := by decide +kernel
  refine lv_aload_n hx hb dX5_catches_0 rfl (lv_at hl 0 rfl) ?_
  refine lv_iconst (v := 0) hx hb dX5_catches_1 (by decide) ?_
  refine va_put (D := D) (ci := 5) (v := .int 0) (ty := .int) (C := RX5) (T := TX5) (N := 7) hx hb hts hinX5 tyX5 tyX5_ok nmX5 hown hK hP hD hS (0) rfl rfl 0 (by decide) hf31 (fun _ h9 => h9) rfl (by decide +kernel) rfl rfl (Nat.le_of_ble_eq_true rfl) dX5_catches_2 (fun H locs hP hD hS => ?_)
  have hP : va_P D vwCl (zW Y Z Z2 y 0 t c q b bc n ar fi rn T) H := hP
  have hD : va_D A (zW Y Z Z2 y 0 t c q b bc n ar fi rn T) := hD
  refine lv_aload_n hx hb dX5_catches_5 rfl (lv_at hl 0 rfl) ?_
  refine lv_iload_n hx hb dX5_catches_6 rfl (lv_at hl 1 rfl) ?_
  refine zcRV (As := [.int x]) (rest := []) (st1 := [.int (zb (inB 0 x (nI c - 1)))]) ⟨hx, hb, hml, hown, hts⟩ (c_X5_isWeir l D y Y Z Z2 0 t c q b bc n ar fi rn T x) (cwV 1 hts gX5_catches_X5_isWeir rfl rfl rfl (by decide +kernel) ⟨Nat.le_of_ble_eq_true rfl, Nat.le_of_ble_eq_true rfl⟩) hK hP (ci := 5) (q0 := 0) rfl rfl rfl rfl hl.1 rfl (lv_room (Nat.le_of_ble_eq_true rfl)) dX5_catches_7 ⟨Nat.le_of_ble_eq_true rfl, Nat.le_of_ble_eq_true rfl⟩ rfl ?_
  refine lv_if_eq (tgt := 31) hx hb dX5_catches_10 (by decide) (fun c1 => ?_) (fun c1 => ?_)
  · have c1 := c1
    refine lv_aload_n hx hb dX5_catches_31 rfl (lv_at hl 0 rfl) ?_
    refine lv_iconst (v := 1) hx hb dX5_catches_32 (by decide) ?_
    refine zcMV (As := [.int 1]) (rest := []) (st1 := [.int 0]) (cells1 := 0) (slots1 := 0) ⟨hx, hb, hml, hown, hts⟩ (c_X5_no l D y Y Z Z2 0 t c q b bc n ar fi rn T 1 _) (cwV 1 hts gX5_catches_X5_no rfl rfl rfl (by decide +kernel) ⟨Nat.le_of_ble_eq_true rfl, Nat.le_of_ble_eq_true rfl⟩) hK hP (z_D_T hD) (ci := 5) (q0 := 0) rfl rfl rfl rfl hl.1 rfl (lv_room (Nat.le_of_ble_eq_true rfl)) dX5_catches_33 hS (z_sub_F hD hS hA z_in_r) ⟨Nat.le_of_ble_eq_true rfl, Nat.le_of_ble_eq_true rfl⟩ rfl rfl rfl (fun H locs hP1 hz hfr hS => ?_)
    have hD := z_D_adr hD (show (zW Y Z Z2 y 1 t c q b bc n ar fi rn T).map Prod.fst = _ from rfl)
    have hP := hP1
    exact zM_i hx hb hr hlocks hS dX5_catches_36 rfl hP
  · exact absurd (zb_t c1) (by rw [(inW_f hx0 hc)]; decide)
set_option maxHeartbeats 1000000 in
set_option maxRecDepth 100000 in
theorem c_X5_isUnderWay (l : Launch) (D : va_G) (y : Nat → ClassId) (Y Z Z2 : Nat → Nat) (th : Int32) (t : Nat → Int32) (c : Nat) (q b : Fld) (bc n : Nat) (ar fi rn : Int32) (T : Nst) (x : Int32) (hbT : T.2.2.1 ≤ 5) : zRN l yX5_isUnderWay wsX5_isUnderWay { frames := 0, cells := 0, slots := 0, locals := 0 } D y [.ref (Y 0), .int x] (zW Y Z Z2 y th t c q b bc n ar fi rn T) (some (.int (zb (underE T.2.1 T.2.2.1 x)))) := by
  refine zRN.of (cc := cX5_isUnderWay) (maxL := 3) (ret := (some .boolean)) (own := RX5) (by decide) rfl (Nat.le_of_ble_eq_true rfl) rfl ?_
  intro p e s m args below meth cd ls hx hb hr hml hown hts hlocks hP hK hN hl
  have hl : lv_has ls 3 [(0, .ref (Y 0)), (1, .int x)] := hl
  have hf28 : (Cond.fieldLink RX5 28 "StakeWeirsModel" "ahead" "LStakeWeirsModel$State;").before args s = true := hts _ (by decide +kernel)
  have hinX5 : ∀ w ∈ wsX50, w ∈ wsX5_isUnderWay := by decide +kernel
  have hf42 : (Cond.fieldLinkNest "StakeWeirsModel" 42 "StakeWeirsModel$State" "barges" "I" "StakeWeirsModel").before args s = true := va_Nw.use rfl (hN ("StakeWeirsModel", 42, "StakeWeirsModel$State", "barges", "I", "StakeWeirsModel") (by decide +kernel))
  have hinX4 : ∀ w ∈ wsX40, w ∈ wsX5_isUnderWay := by decide +kernel
  have hf121 : (Cond.fieldLinkNest "StakeWeirsModel" 121 "StakeWeirsModel$State" "was" "[I" "StakeWeirsModel").before args s = true := va_Nw.use rfl (hN ("StakeWeirsModel", 121, "StakeWeirsModel$State", "was", "[I", "StakeWeirsModel") (by decide +kernel))
  refine lv_iconst (v := 0) hx hb dX5_isUnderWay_0 (by decide) ?_
  refine lv_istore_n (lv' := [(2, .int 0), (0, .ref (Y 0)), (1, .int x)]) hx hb dX5_isUnderWay_1 rfl hl (by decide) rfl (fun ls hl => ?_)
  have loop1 : ∀ k, k ≤ T.2.2.1 → ∀ (ls : Array Slot), underE T.2.1 k x = false → lv_has ls 3 [(2, .int (nI k)), (0, .ref (Y 0)), (1, .int x)] → W p l e ({ frames := 0, cells := 0, slots := 0, locals := 0 } : Room) s m args below meth cd s.heap [] 0 0 (MQ below (zRQ (some (.int (zb (underE T.2.1 T.2.2.1 x))))) args s 0 0 (fun _ => False)) (F0 m 2 ls []) := by
    refine down ?_ ?_
    · intro ls hu hl
      refine lv_iload_n hx hb dX5_isUnderWay_2 rfl (lv_at hl 0 rfl) ?_
      refine lv_aload_n hx hb dX5_isUnderWay_3 rfl (lv_at hl 1 rfl) ?_
      refine va_get (D := D) (ci := 5) (v := .ref (Z2 0)) (C := RX5) (T := TX5) (N := 7) hx hb hts hinX5 hown hK hP (0) rfl rfl 6 (by decide) hf28 (fun _ h9 => h9) rfl dX5_isUnderWay_4 ?_
      refine va_getN (D := D) (ci := 4) (v := .int (nI T.2.2.1)) (C := RX4) (T := TX4) (N := 16) hx hb hts hinX4 hown hK hP (15) rfl rfl 7 (by decide) hf42 (fun _ h9 => h9) rfl dX5_isUnderWay_7 ?_
      refine lv_icmp_ge (tgt := 34) hx hb dX5_isUnderWay_10 (by decide) (fun c2 => ?_) (fun c2 => ?_)
      · have d2 := Int32.not_lt.mpr c2
        refine lv_iconst (v := 0) hx hb dX5_isUnderWay_34 (by decide) ?_
        exact zR_z hx hb hr hlocks dX5_isUnderWay_35 (Or.inl rfl) (by rw [hu]; rfl)
      · exact absurd (nI_le (a := T.2.2.1) (b := T.2.2.1) (by omega) (by omega)) c2
    · intro k hkk ihk ls hu hl
      refine lv_iload_n hx hb dX5_isUnderWay_2 rfl (lv_at hl 0 rfl) ?_
      refine lv_aload_n hx hb dX5_isUnderWay_3 rfl (lv_at hl 1 rfl) ?_
      refine va_get (D := D) (ci := 5) (v := .ref (Z2 0)) (C := RX5) (T := TX5) (N := 7) hx hb hts hinX5 hown hK hP (0) rfl rfl 6 (by decide) hf28 (fun _ h9 => h9) rfl dX5_isUnderWay_4 ?_
      refine va_getN (D := D) (ci := 4) (v := .int (nI T.2.2.1)) (C := RX4) (T := TX4) (N := 16) hx hb hts hinX4 hown hK hP (15) rfl rfl 7 (by decide) hf42 (fun _ h9 => h9) rfl dX5_isUnderWay_7 ?_
      refine lv_icmp_ge (tgt := 34) hx hb dX5_isUnderWay_10 (by decide) (fun c3 => ?_) (fun c3 => ?_)
      · exact absurd c3 (nI_ge (a := k) (b := T.2.2.1) (by omega) (by omega))
      · have d3 := Int32.not_le.mp c3
        refine lv_aload_n hx hb dX5_isUnderWay_13 rfl (lv_at hl 1 rfl) ?_
        refine va_get (D := D) (ci := 5) (v := .ref (Z2 0)) (C := RX5) (T := TX5) (N := 7) hx hb hts hinX5 hown hK hP (0) rfl rfl 6 (by decide) hf28 (fun _ h9 => h9) rfl dX5_isUnderWay_14 ?_
        refine va_getN (D := D) (ci := 4) (v := .ref (Z2 10)) (C := RX4) (T := TX4) (N := 16) hx hb hts hinX4 hown hK hP (15) rfl rfl 11 (by decide) hf121 (fun _ h9 => h9) rfl dX5_isUnderWay_17 ?_
        refine lv_iload_n hx hb dX5_isUnderWay_20 rfl (lv_at hl 0 rfl) ?_
        refine z_ald hx hb hK hP 25 (f := (T.2.1 0)) rfl k rfl (by omega) (by decide) dX5_isUnderWay_21 ?_
        refine lv_iload_n hx hb dX5_isUnderWay_22 rfl (lv_at hl 2 rfl) ?_
        refine lv_icmp_ne (tgt := 28) hx hb dX5_isUnderWay_23 (by decide) (fun c4 => ?_) (fun c4 => ?_)
        · have d4 := c4
          refine lv_iinc (v := nI (k + 1)) (lv' := [(2, .int (nI (k + 1))), (0, .ref (Y 0)), (1, .int x)]) hx hb dX5_isUnderWay_28 hl (k := 0) rfl (nI_1 _) (by decide) rfl (fun ls hl => ?_)
          refine lv_goto (tgt := 2) hx hb dX5_isUnderWay_31 (by decide) ?_
          refine ihk ls (by rw [underE_s, hu]; simp [c4, d4]) ?_
          skip
          exact lv_sub hl [0, 1, 2] rfl
        · have d4 := c4
          refine lv_iconst (v := 1) hx hb dX5_isUnderWay_26 (by decide) ?_
          exact zR_z hx hb hr hlocks dX5_isUnderWay_27 (Or.inr rfl) (by rw [underE_t (k := k) hkk (by first | exact d4)]; rfl)
  exact loop1 0 (Nat.zero_le _) ls rfl (lv_sub hl [0, 1, 2] rfl)
set_option maxHeartbeats 1000000 in
set_option maxRecDepth 100000 in
theorem c_X5_arrives (l : Launch) (D : va_G) (y : Nat → ClassId) (Y Z Z2 : Nat → Nat) (th : Int32) (t : Nat → Int32) (c : Nat) (q b : Fld) (bc n : Nat) (ar fi rn : Int32) (T : Nst) (j N : Nat) (hj : j < bc) (hn : n + N < 2147483648) (hc : c ≤ 6) (hbc : bc ≤ 5) (hall : ∀ k, k < N → underE (nightsM t c k (q, wasB b, bc, n, ar, fi, rn)).2.1 (nightsM t c k (q, wasB b, bc, n, ar, fi, rn)).2.2.1 (nI j) = true) (hend : underE (nightsM t c N (q, wasB b, bc, n, ar, fi, rn)).2.1 (nightsM t c N (q, wasB b, bc, n, ar, fi, rn)).2.2.1 (nI j) = false) (sz : Nat) : zMN l yX5_arrives wsX5_arrives { frames := 5, cells := 0, slots := 0, locals := 110 } D y [.ref (Y 0), .int (nI j)] (zW Y Z Z2 y th t c q b bc n ar fi rn T) sz (some (.int (nI N))) (zW Y Z Z2 y 0 t c q b bc n ar fi rn (nightsM t c N (q, wasB b, bc, n, ar, fi, rn))) 0 0 := by
  refine zMN.of (cc := cX5_arrives) (maxL := 3) (ret := (some .int)) (own := RX5) (by decide) rfl (Nat.le_of_ble_eq_true rfl) rfl ?_
  intro p e s m args below meth cd ls A H locs hx hb hr hml hown hts hlocks hP hK hD hA hS hN hl hin
  have hS0 := hS
  have hl : lv_has ls 3 [(0, .ref (Y 0)), (1, .int (nI j))] := hl
  have hf31 : (Cond.fieldLink RX5 31 "StakeWeirsModel" "thrown" "I").before args s = true := hts _ (by decide +kernel)
  have hinX5 : ∀ w ∈ wsX50, w ∈ wsX5_arrives := by decide +kernel
  have hf28 : (Cond.fieldLink RX5 28 "StakeWeirsModel" "ahead" "LStakeWeirsModel$State;").before args s = true := hts _ (by decide +kernel)
  have hf24 : (Cond.fieldLink RX5 24 "StakeWeirsModel" "s" "LStakeWeirsModel$State;").before args s = true := hts _ (by decide +kernel)
  refine lv_aload_n hx hb dX5_arrives_0 rfl (lv_at hl 0 rfl) ?_
  refine lv_iconst (v := 0) hx hb dX5_arrives_1 (by decide) ?_
  refine va_put (D := D) (ci := 5) (v := .int 0) (ty := .int) (C := RX5) (T := TX5) (N := 7) hx hb hts hinX5 tyX5 tyX5_ok nmX5 hown hK hP hD hS (0) rfl rfl 0 (by decide) hf31 (fun _ h9 => h9) rfl (by decide +kernel) rfl rfl (Nat.le_of_ble_eq_true rfl) dX5_arrives_2 (fun H locs hP hD hS => ?_)
  have hP : va_P D vwCl (zW Y Z Z2 y 0 t c q b bc n ar fi rn T) H := hP
  have hD : va_D A (zW Y Z Z2 y 0 t c q b bc n ar fi rn T) := hD
  refine lv_aload_n hx hb dX5_arrives_5 rfl (lv_at hl 0 rfl) ?_
  refine lv_iload_n hx hb dX5_arrives_6 rfl (lv_at hl 1 rfl) ?_
  refine zcNRV (As := [.int (nI j)]) (rest := []) (st1 := [.int (zb (inB 0 (nI j) (nI bc - 1)))]) ⟨hx, hb, hml, hown, hts⟩ (c_X5_isBarge l D y Y Z Z2 0 t c q b bc n ar fi rn T (nI j)) (cwV 1 hts gX5_arrives_X5_isBarge rfl rfl rfl (by decide +kernel) ⟨Nat.le_of_ble_eq_true rfl, Nat.le_of_ble_eq_true rfl⟩) hN hK hP (ci := 5) (q0 := 0) rfl rfl rfl rfl hl.1 rfl (lv_room (Nat.le_of_ble_eq_true rfl)) dX5_arrives_7 ⟨Nat.le_of_ble_eq_true rfl, Nat.le_of_ble_eq_true rfl⟩ rfl ?_
  refine lv_if_ne (tgt := 19) hx hb dX5_arrives_10 (by decide) (fun c1 => ?_) (fun c1 => ?_)
  · have c1 := c1
    refine lv_aload_n hx hb dX5_arrives_19 rfl (lv_at hl 0 rfl) ?_
    refine va_get (D := D) (ci := 5) (v := .ref (Z2 0)) (C := RX5) (T := TX5) (N := 7) hx hb hts hinX5 hown hK hP (0) rfl rfl 6 (by decide) hf28 (fun _ h9 => h9) rfl dX5_arrives_20 ?_
    refine lv_aload_n hx hb dX5_arrives_23 rfl (lv_at hl 0 rfl) ?_
    refine va_get (D := D) (ci := 5) (v := .ref (Z 0)) (C := RX5) (T := TX5) (N := 7) hx hb hts hinX5 hown hK hP (0) rfl rfl 5 (by decide) hf24 (fun _ h9 => h9) rfl dX5_arrives_24 ?_
    refine zcMV (As := [.ref (Z 0)]) (rest := []) (st1 := [.ref (Z2 0)]) (cells1 := 0) (slots1 := 0) ⟨hx, hb, hml, hown, hts⟩ (c_X4_become l D y (Y 0) Z2 Z T.1 T.2.1 T.2.2.1 T.2.2.2.1 T.2.2.2.2.1 T.2.2.2.2.2.1 T.2.2.2.2.2.2 q b bc n ar fi rn _) (cwV 1 hts gX5_arrives_X4_become rfl rfl rfl (by decide +kernel) ⟨Nat.le_of_ble_eq_true rfl, Nat.le_of_ble_eq_true rfl⟩) hK (z_sub_P hP (fun z h => List.mem_append_right _ ((List.mem_append.mp h).elim (fun h => List.mem_append_right _ h) (fun h => List.mem_append_left _ h)))) (z_D_s (l1 := (oW Y (Z 0) (Z2 0) y 0 t c (q 0) (q 3))) hD) (ci := 4) (q0 := 0) rfl rfl rfl rfl hl.1 rfl (lv_room (Nat.le_of_ble_eq_true rfl)) dX5_arrives_27 hS (z_sub_F hD hS hA (fun z h => List.mem_append_right _ ((List.mem_append.mp h).elim (fun h => List.mem_append_right _ h) (fun h => List.mem_append_left _ h)))) ⟨Nat.le_of_ble_eq_true rfl, Nat.le_of_ble_eq_true rfl⟩ rfl rfl rfl (fun H locs hP1 hz hfr hS => ?_)
    obtain ⟨hP, hD⟩ := z_segS (ws1 := zW Y Z Z2 y 0 t c q b bc n ar fi rn (q, wasB b, bc, n, ar, fi, rn)) (l1 := (oW Y (Z 0) (Z2 0) y 0 t c (q 0) (q 3))) (a := (stW Z (Y 0) y q b bc n ar fi rn)) (b := (stW Z2 (Y 0) y T.1 T.2.1 T.2.2.1 T.2.2.2.1 T.2.2.2.2.1 T.2.2.2.2.2.1 T.2.2.2.2.2.2)) (b1 := (stW Z2 (Y 0) y q (wasB b) bc n ar fi rn)) hP hD rfl rfl rfl hP1 hfr
    have hq0 : (q, wasB b, bc, n, ar, fi, rn).1 0 = q 0 := rfl
    have hq3 : (q, wasB b, bc, n, ar, fi, rn).1 3 = q 3 := rfl
    have hTb : (q, wasB b, bc, n, ar, fi, rn).2.2.1 = bc := rfl
    have hTn : (q, wasB b, bc, n, ar, fi, rn).2.2.2.1 = n := rfl
    refine lv_pop hx hb dX5_arrives_30 rfl ?_
    refine lv_iconst (v := 0) hx hb dX5_arrives_31 (by decide) ?_
    refine lv_istore_n (lv' := [(2, .int 0), (0, .ref (Y 0)), (1, .int (nI j))]) hx hb dX5_arrives_32 rfl hl (by decide) rfl (fun ls hl => ?_)
    have loop2 : ∀ k, k ≤ N → ∀ (H : Heap) (locs : List Loc) (ls : Array Slot), va_P D vwCl (zW Y Z Z2 y 0 t c q b bc n ar fi rn (nightsM t c k (q, wasB b, bc, n, ar, fi, rn))) H → va_D A (zW Y Z Z2 y 0 t c q b bc n ar fi rn (nightsM t c k (q, wasB b, bc, n, ar, fi, rn))) → va_S A s.heap H locs → lv_has ls 3 [(2, .int (nI k)), (0, .ref (Y 0)), (1, .int (nI j))] → W p l e ({ frames := 5, cells := 0, slots := 0, locals := 110 } : Room) s m args below meth cd H locs 0 0 (MQ below (zMQ (some (.int (nI N))) D (zW Y Z Z2 y 0 t c q b bc n ar fi rn (nightsM t c N (q, wasB b, bc, n, ar, fi, rn))) A) args s 0 0 A) (F0 m 33 ls []) := by
      refine down ?_ ?_
      · intro H locs ls hP hD hS hl
        have hTn : (nightsM t c N (q, wasB b, bc, n, ar, fi, rn)).2.2.2.1 = n + N := nightsM_n t c N (q, wasB b, bc, n, ar, fi, rn)
        have hTb : (nightsM t c N (q, wasB b, bc, n, ar, fi, rn)).2.2.1 ≤ bc := nightsM_b t c N (q, wasB b, bc, n, ar, fi, rn)
        have hq0 : (nightsM t c N (q, wasB b, bc, n, ar, fi, rn)).1 0 = q 0 := (nightsM_q0 t c N (q, wasB b, bc, n, ar, fi, rn)).1
        have hq3 : (nightsM t c N (q, wasB b, bc, n, ar, fi, rn)).1 3 = q 3 := (nightsM_q0 t c N (q, wasB b, bc, n, ar, fi, rn)).2
        refine lv_aload_n hx hb dX5_arrives_33 rfl (lv_at hl 1 rfl) ?_
        refine lv_iload_n hx hb dX5_arrives_34 rfl (lv_at hl 2 rfl) ?_
        refine zcNRV (As := [.int (nI j)]) (rest := []) (st1 := [.int (zb (underE (nightsM t c N (q, wasB b, bc, n, ar, fi, rn)).2.1 (nightsM t c N (q, wasB b, bc, n, ar, fi, rn)).2.2.1 (nI j)))]) ⟨hx, hb, hml, hown, hts⟩ (c_X5_isUnderWay l D y Y Z Z2 0 t c q b bc n ar fi rn (nightsM t c N (q, wasB b, bc, n, ar, fi, rn)) (nI j) (by omega)) (cwV 1 hts gX5_arrives_X5_isUnderWay rfl rfl rfl (by decide +kernel) ⟨Nat.le_of_ble_eq_true rfl, Nat.le_of_ble_eq_true rfl⟩) hN hK hP (ci := 5) (q0 := 0) rfl rfl rfl rfl hl.1 rfl (lv_room (Nat.le_of_ble_eq_true rfl)) dX5_arrives_35 ⟨Nat.le_of_ble_eq_true rfl, Nat.le_of_ble_eq_true rfl⟩ rfl ?_
        refine lv_if_eq (tgt := 54) hx hb dX5_arrives_38 (by decide) (fun c3 => ?_) (fun c3 => ?_)
        · have c3 := c3
          refine lv_iload_n hx hb dX5_arrives_54 rfl (lv_at hl 0 rfl) ?_
          exact zM_i hx hb hr hlocks hS dX5_arrives_55 rfl hP
        · exact absurd (zb_t c3) (by rw [hend]; decide)
      · intro k hkk ihk H locs ls hP hD hS hl
        have hTn : (nightsM t c k (q, wasB b, bc, n, ar, fi, rn)).2.2.2.1 = n + k := nightsM_n t c k (q, wasB b, bc, n, ar, fi, rn)
        have hTb : (nightsM t c k (q, wasB b, bc, n, ar, fi, rn)).2.2.1 ≤ bc := nightsM_b t c k (q, wasB b, bc, n, ar, fi, rn)
        have hq0 : (nightsM t c k (q, wasB b, bc, n, ar, fi, rn)).1 0 = q 0 := (nightsM_q0 t c k (q, wasB b, bc, n, ar, fi, rn)).1
        have hq3 : (nightsM t c k (q, wasB b, bc, n, ar, fi, rn)).1 3 = q 3 := (nightsM_q0 t c k (q, wasB b, bc, n, ar, fi, rn)).2
        refine lv_aload_n hx hb dX5_arrives_33 rfl (lv_at hl 1 rfl) ?_
        refine lv_iload_n hx hb dX5_arrives_34 rfl (lv_at hl 2 rfl) ?_
        refine zcNRV (As := [.int (nI j)]) (rest := []) (st1 := [.int (zb (underE (nightsM t c k (q, wasB b, bc, n, ar, fi, rn)).2.1 (nightsM t c k (q, wasB b, bc, n, ar, fi, rn)).2.2.1 (nI j)))]) ⟨hx, hb, hml, hown, hts⟩ (c_X5_isUnderWay l D y Y Z Z2 0 t c q b bc n ar fi rn (nightsM t c k (q, wasB b, bc, n, ar, fi, rn)) (nI j) (by omega)) (cwV 1 hts gX5_arrives_X5_isUnderWay rfl rfl rfl (by decide +kernel) ⟨Nat.le_of_ble_eq_true rfl, Nat.le_of_ble_eq_true rfl⟩) hN hK hP (ci := 5) (q0 := 0) rfl rfl rfl rfl hl.1 rfl (lv_room (Nat.le_of_ble_eq_true rfl)) dX5_arrives_35 ⟨Nat.le_of_ble_eq_true rfl, Nat.le_of_ble_eq_true rfl⟩ rfl ?_
        refine lv_if_eq (tgt := 54) hx hb dX5_arrives_38 (by decide) (fun c4 => ?_) (fun c4 => ?_)
        · exact absurd (zb_f c4) (by rw [(hall k hkk)]; decide)
        · have c4 := c4
          refine lv_aload_n hx hb dX5_arrives_41 rfl (lv_at hl 1 rfl) ?_
          refine va_get (D := D) (ci := 5) (v := .ref (Z2 0)) (C := RX5) (T := TX5) (N := 7) hx hb hts hinX5 hown hK hP (0) rfl rfl 6 (by decide) hf28 (fun _ h9 => h9) rfl dX5_arrives_42 ?_
          refine zcNMV (As := []) (rest := []) (st1 := []) (cells1 := 0) (slots1 := 0) ⟨hx, hb, hml, hown, hts⟩ (c_X4_pass l D y Y Z2 (Z 0) (Z2 0) 0 t c ((nightsM t c k (q, wasB b, bc, n, ar, fi, rn)).1) ((nightsM t c k (q, wasB b, bc, n, ar, fi, rn)).2.1) ((nightsM t c k (q, wasB b, bc, n, ar, fi, rn)).2.2.1) ((nightsM t c k (q, wasB b, bc, n, ar, fi, rn)).2.2.2.1) ((nightsM t c k (q, wasB b, bc, n, ar, fi, rn)).2.2.2.2.1) ((nightsM t c k (q, wasB b, bc, n, ar, fi, rn)).2.2.2.2.2.1) ((nightsM t c k (q, wasB b, bc, n, ar, fi, rn)).2.2.2.2.2.2)  (by omega) (by omega) (by omega) _) (cwV 0 hts gX5_arrives_X4_pass rfl rfl rfl (by decide +kernel) ⟨Nat.le_of_ble_eq_true rfl, Nat.le_of_ble_eq_true rfl⟩) hN hK (zz_aP hq0 hq3 hP) (zz_aD hq0 hq3 hD) (ci := 4) (q0 := 4) rfl rfl rfl rfl hl.1 rfl (lv_room (Nat.le_of_ble_eq_true rfl)) dX5_arrives_45 hS (zz_aF hq0 hq3 hD hS hA) ⟨Nat.le_of_ble_eq_true rfl, Nat.le_of_ble_eq_true rfl⟩ rfl rfl rfl (fun H locs hP1 hz hfr hS => ?_)
          obtain ⟨hP, hD⟩ := zz_aB (T1 := (nightM t c (nightsM t c k (q, wasB b, bc, n, ar, fi, rn)))) hP hD hq0 hq3 ((nightM_q0 _ _ _).1.trans hq0) ((nightM_q0 _ _ _).2.trans hq3) hP1 hfr
          have hP : va_P D vwCl (zW Y Z Z2 y 0 t c q b bc n ar fi rn (nightM t c (nightsM t c k (q, wasB b, bc, n, ar, fi, rn)))) H := hP
          have hD : va_D A (zW Y Z Z2 y 0 t c q b bc n ar fi rn (nightM t c (nightsM t c k (q, wasB b, bc, n, ar, fi, rn)))) := hD
          have hq0 : (nightM t c (nightsM t c k (q, wasB b, bc, n, ar, fi, rn))).1 0 = q 0 := ((nightM_q0 _ _ _).1.trans hq0)
          have hq3 : (nightM t c (nightsM t c k (q, wasB b, bc, n, ar, fi, rn))).1 3 = q 3 := ((nightM_q0 _ _ _).2.trans hq3)
          refine lv_iinc (v := nI (k + 1)) (lv' := [(2, .int (nI (k + 1))), (0, .ref (Y 0)), (1, .int (nI j))]) hx hb dX5_arrives_48 hl (k := 0) rfl (nI_1 _) (by decide) rfl (fun ls hl => ?_)
          refine lv_goto (tgt := 33) hx hb dX5_arrives_51 (by decide) ?_
          have e5 : (nightsM t c (k + 1) (q, wasB b, bc, n, ar, fi, rn)) = (nightM t c (nightsM t c k (q, wasB b, bc, n, ar, fi, rn))) := rfl
          refine ihk H locs ls ?_ ?_ hS ?_
          · first | exact hP | (simp only [e5]; exact hP)
          · first | exact hD | (simp only [e5]; exact hD)
          · first | exact lv_sub hl [0, 1, 2] rfl | (simp only [e5]; exact lv_sub hl [0, 1, 2] rfl)
    exact loop2 0 (Nat.zero_le _) H locs ls hP hD hS (lv_sub hl [0, 1, 2] rfl)
  · exact absurd (zb_f c1) (by rw [(inW_t hj (by omega))]; decide)
set_option maxHeartbeats 1000000 in
set_option maxRecDepth 100000 in
theorem c_X5_arrives_N1 (l : Launch) (D : va_G) (y : Nat → ClassId) (Y Z Z2 : Nat → Nat) (th : Int32) (t : Nat → Int32) (c : Nat) (q b : Fld) (bc n : Nat) (ar fi rn : Int32) (T : Nst) (x : Int32) (hx0 : x < 0 ∨ nI bc ≤ x) (hbc : bc ≤ 5) (sz : Nat) : zMN l yX5_arrives wsX5_arrives { frames := 2, cells := 0, slots := 0, locals := 43 } D y [.ref (Y 0), .int x] (zW Y Z Z2 y th t c q b bc n ar fi rn T) sz (some (.int 0)) (zW Y Z Z2 y 1 t c q b bc n ar fi rn T) 0 0 := by
  refine zMN.of (cc := cX5_arrives) (maxL := 3) (ret := (some .int)) (own := RX5) (by decide) rfl (Nat.le_of_ble_eq_true rfl) rfl ?_
  intro p e s m args below meth cd ls A H locs hx hb hr hml hown hts hlocks hP hK hD hA hS hN hl hin
  have hS0 := hS
  have hl : lv_has ls 3 [(0, .ref (Y 0)), (1, .int x)] := hl
  have hf31 : (Cond.fieldLink RX5 31 "StakeWeirsModel" "thrown" "I").before args s = true := hts _ (by decide +kernel)
  have hinX5 : ∀ w ∈ wsX50, w ∈ wsX5_arrives := by decide +kernel
  refine lv_aload_n hx hb dX5_arrives_0 rfl (lv_at hl 0 rfl) ?_
  refine lv_iconst (v := 0) hx hb dX5_arrives_1 (by decide) ?_
  refine va_put (D := D) (ci := 5) (v := .int 0) (ty := .int) (C := RX5) (T := TX5) (N := 7) hx hb hts hinX5 tyX5 tyX5_ok nmX5 hown hK hP hD hS (0) rfl rfl 0 (by decide) hf31 (fun _ h9 => h9) rfl (by decide +kernel) rfl rfl (Nat.le_of_ble_eq_true rfl) dX5_arrives_2 (fun H locs hP hD hS => ?_)
  have hP : va_P D vwCl (zW Y Z Z2 y 0 t c q b bc n ar fi rn T) H := hP
  have hD : va_D A (zW Y Z Z2 y 0 t c q b bc n ar fi rn T) := hD
  refine lv_aload_n hx hb dX5_arrives_5 rfl (lv_at hl 0 rfl) ?_
  refine lv_iload_n hx hb dX5_arrives_6 rfl (lv_at hl 1 rfl) ?_
  refine zcNRV (As := [.int x]) (rest := []) (st1 := [.int (zb (inB 0 x (nI bc - 1)))]) ⟨hx, hb, hml, hown, hts⟩ (c_X5_isBarge l D y Y Z Z2 0 t c q b bc n ar fi rn T x) (cwV 1 hts gX5_arrives_X5_isBarge rfl rfl rfl (by decide +kernel) ⟨Nat.le_of_ble_eq_true rfl, Nat.le_of_ble_eq_true rfl⟩) hN hK hP (ci := 5) (q0 := 0) rfl rfl rfl rfl hl.1 rfl (lv_room (Nat.le_of_ble_eq_true rfl)) dX5_arrives_7 ⟨Nat.le_of_ble_eq_true rfl, Nat.le_of_ble_eq_true rfl⟩ rfl ?_
  refine lv_if_ne (tgt := 19) hx hb dX5_arrives_10 (by decide) (fun c1 => ?_) (fun c1 => ?_)
  · exact absurd (zb_t c1) (by rw [(inW_f hx0 (by omega))]; decide)
  · have c1 := c1
    refine lv_aload_n hx hb dX5_arrives_13 rfl (lv_at hl 0 rfl) ?_
    refine lv_iconst (v := 1) hx hb dX5_arrives_14 (by decide) ?_
    refine zcMV (As := [.int 1]) (rest := []) (st1 := [.int 0]) (cells1 := 0) (slots1 := 0) ⟨hx, hb, hml, hown, hts⟩ (c_X5_no l D y Y Z Z2 0 t c q b bc n ar fi rn T 1 _) (cwV 1 hts gX5_arrives_X5_no rfl rfl rfl (by decide +kernel) ⟨Nat.le_of_ble_eq_true rfl, Nat.le_of_ble_eq_true rfl⟩) hK hP (z_D_T hD) (ci := 5) (q0 := 0) rfl rfl rfl rfl hl.1 rfl (lv_room (Nat.le_of_ble_eq_true rfl)) dX5_arrives_15 hS (z_sub_F hD hS hA z_in_r) ⟨Nat.le_of_ble_eq_true rfl, Nat.le_of_ble_eq_true rfl⟩ rfl rfl rfl (fun H locs hP1 hz hfr hS => ?_)
    have hD := z_D_adr hD (show (zW Y Z Z2 y 1 t c q b bc n ar fi rn T).map Prod.fst = _ from rfl)
    have hP := hP1
    exact zM_i hx hb hr hlocks hS dX5_arrives_18 rfl hP
set_option maxHeartbeats 1000000 in
set_option maxRecDepth 100000 in
theorem c_X5_lasts (l : Launch) (D : va_G) (y : Nat → ClassId) (Y Z Z2 : Nat → Nat) (th : Int32) (t : Nat → Int32) (c : Nat) (q b : Fld) (bc n : Nat) (ar fi rn : Int32) (T : Nst) (k0 N : Nat) (hk : k0 < c) (hn : n + N < 2147483648) (hc : c ≤ 6) (hbc : bc ≤ 5) (hall : ∀ k, k < N → 0 < (nightsM t c k (q, wasB b, bc, n, ar, fi, rn)).1 2 k0 ∧ heldB (nightsM t c k (q, wasB b, bc, n, ar, fi, rn)).1 k0 = true) (hend : (nightsM t c N (q, wasB b, bc, n, ar, fi, rn)).1 2 k0 ≤ 0 ∨ heldB (nightsM t c N (q, wasB b, bc, n, ar, fi, rn)).1 k0 = false) (sz : Nat) : zMN l yX5_lasts wsX5_lasts { frames := 5, cells := 0, slots := 0, locals := 110 } D y [.ref (Y 0), .int (nI k0)] (zW Y Z Z2 y th t c q b bc n ar fi rn T) sz (some (.int (nI N))) (zW Y Z Z2 y 0 t c q b bc n ar fi rn (nightsM t c N (q, wasB b, bc, n, ar, fi, rn))) 0 0 := by
  refine zMN.of (cc := cX5_lasts) (maxL := 3) (ret := (some .int)) (own := RX5) (by decide) rfl (Nat.le_of_ble_eq_true rfl) rfl ?_
  intro p e s m args below meth cd ls A H locs hx hb hr hml hown hts hlocks hP hK hD hA hS hN hl hin
  have hS0 := hS
  have hl : lv_has ls 3 [(0, .ref (Y 0)), (1, .int (nI k0))] := hl
  have hf31 : (Cond.fieldLink RX5 31 "StakeWeirsModel" "thrown" "I").before args s = true := hts _ (by decide +kernel)
  have hinX5 : ∀ w ∈ wsX50, w ∈ wsX5_lasts := by decide +kernel
  have hf28 : (Cond.fieldLink RX5 28 "StakeWeirsModel" "ahead" "LStakeWeirsModel$State;").before args s = true := hts _ (by decide +kernel)
  have hf24 : (Cond.fieldLink RX5 24 "StakeWeirsModel" "s" "LStakeWeirsModel$State;").before args s = true := hts _ (by decide +kernel)
  have hf52 : (Cond.fieldLinkNest "StakeWeirsModel" 52 "StakeWeirsModel$State" "wattle" "[I" "StakeWeirsModel").before args s = true := va_Nw.use rfl (hN ("StakeWeirsModel", 52, "StakeWeirsModel$State", "wattle", "[I", "StakeWeirsModel") (by decide +kernel))
  have hinX4 : ∀ w ∈ wsX40, w ∈ wsX5_lasts := by decide +kernel
  refine lv_aload_n hx hb dX5_lasts_0 rfl (lv_at hl 0 rfl) ?_
  refine lv_iconst (v := 0) hx hb dX5_lasts_1 (by decide) ?_
  refine va_put (D := D) (ci := 5) (v := .int 0) (ty := .int) (C := RX5) (T := TX5) (N := 7) hx hb hts hinX5 tyX5 tyX5_ok nmX5 hown hK hP hD hS (0) rfl rfl 0 (by decide) hf31 (fun _ h9 => h9) rfl (by decide +kernel) rfl rfl (Nat.le_of_ble_eq_true rfl) dX5_lasts_2 (fun H locs hP hD hS => ?_)
  have hP : va_P D vwCl (zW Y Z Z2 y 0 t c q b bc n ar fi rn T) H := hP
  have hD : va_D A (zW Y Z Z2 y 0 t c q b bc n ar fi rn T) := hD
  refine lv_aload_n hx hb dX5_lasts_5 rfl (lv_at hl 0 rfl) ?_
  refine lv_iload_n hx hb dX5_lasts_6 rfl (lv_at hl 1 rfl) ?_
  refine zcRV (As := [.int (nI k0)]) (rest := []) (st1 := [.int (zb (inB 0 (nI k0) (nI c - 1)))]) ⟨hx, hb, hml, hown, hts⟩ (c_X5_isWeir l D y Y Z Z2 0 t c q b bc n ar fi rn T (nI k0)) (cwV 1 hts gX5_lasts_X5_isWeir rfl rfl rfl (by decide +kernel) ⟨Nat.le_of_ble_eq_true rfl, Nat.le_of_ble_eq_true rfl⟩) hK hP (ci := 5) (q0 := 0) rfl rfl rfl rfl hl.1 rfl (lv_room (Nat.le_of_ble_eq_true rfl)) dX5_lasts_7 ⟨Nat.le_of_ble_eq_true rfl, Nat.le_of_ble_eq_true rfl⟩ rfl ?_
  refine lv_if_ne (tgt := 19) hx hb dX5_lasts_10 (by decide) (fun c1 => ?_) (fun c1 => ?_)
  · have c1 := c1
    refine lv_aload_n hx hb dX5_lasts_19 rfl (lv_at hl 0 rfl) ?_
    refine va_get (D := D) (ci := 5) (v := .ref (Z2 0)) (C := RX5) (T := TX5) (N := 7) hx hb hts hinX5 hown hK hP (0) rfl rfl 6 (by decide) hf28 (fun _ h9 => h9) rfl dX5_lasts_20 ?_
    refine lv_aload_n hx hb dX5_lasts_23 rfl (lv_at hl 0 rfl) ?_
    refine va_get (D := D) (ci := 5) (v := .ref (Z 0)) (C := RX5) (T := TX5) (N := 7) hx hb hts hinX5 hown hK hP (0) rfl rfl 5 (by decide) hf24 (fun _ h9 => h9) rfl dX5_lasts_24 ?_
    refine zcMV (As := [.ref (Z 0)]) (rest := []) (st1 := [.ref (Z2 0)]) (cells1 := 0) (slots1 := 0) ⟨hx, hb, hml, hown, hts⟩ (c_X4_become l D y (Y 0) Z2 Z T.1 T.2.1 T.2.2.1 T.2.2.2.1 T.2.2.2.2.1 T.2.2.2.2.2.1 T.2.2.2.2.2.2 q b bc n ar fi rn _) (cwV 1 hts gX5_lasts_X4_become rfl rfl rfl (by decide +kernel) ⟨Nat.le_of_ble_eq_true rfl, Nat.le_of_ble_eq_true rfl⟩) hK (z_sub_P hP (fun z h => List.mem_append_right _ ((List.mem_append.mp h).elim (fun h => List.mem_append_right _ h) (fun h => List.mem_append_left _ h)))) (z_D_s (l1 := (oW Y (Z 0) (Z2 0) y 0 t c (q 0) (q 3))) hD) (ci := 4) (q0 := 0) rfl rfl rfl rfl hl.1 rfl (lv_room (Nat.le_of_ble_eq_true rfl)) dX5_lasts_27 hS (z_sub_F hD hS hA (fun z h => List.mem_append_right _ ((List.mem_append.mp h).elim (fun h => List.mem_append_right _ h) (fun h => List.mem_append_left _ h)))) ⟨Nat.le_of_ble_eq_true rfl, Nat.le_of_ble_eq_true rfl⟩ rfl rfl rfl (fun H locs hP1 hz hfr hS => ?_)
    obtain ⟨hP, hD⟩ := z_segS (ws1 := zW Y Z Z2 y 0 t c q b bc n ar fi rn (q, wasB b, bc, n, ar, fi, rn)) (l1 := (oW Y (Z 0) (Z2 0) y 0 t c (q 0) (q 3))) (a := (stW Z (Y 0) y q b bc n ar fi rn)) (b := (stW Z2 (Y 0) y T.1 T.2.1 T.2.2.1 T.2.2.2.1 T.2.2.2.2.1 T.2.2.2.2.2.1 T.2.2.2.2.2.2)) (b1 := (stW Z2 (Y 0) y q (wasB b) bc n ar fi rn)) hP hD rfl rfl rfl hP1 hfr
    have hq0 : (q, wasB b, bc, n, ar, fi, rn).1 0 = q 0 := rfl
    have hq3 : (q, wasB b, bc, n, ar, fi, rn).1 3 = q 3 := rfl
    have hTb : (q, wasB b, bc, n, ar, fi, rn).2.2.1 = bc := rfl
    have hTn : (q, wasB b, bc, n, ar, fi, rn).2.2.2.1 = n := rfl
    refine lv_pop hx hb dX5_lasts_30 rfl ?_
    refine lv_iconst (v := 0) hx hb dX5_lasts_31 (by decide) ?_
    refine lv_istore_n (lv' := [(2, .int 0), (0, .ref (Y 0)), (1, .int (nI k0))]) hx hb dX5_lasts_32 rfl hl (by decide) rfl (fun ls hl => ?_)
    have loop2 : ∀ k, k ≤ N → ∀ (H : Heap) (locs : List Loc) (ls : Array Slot), va_P D vwCl (zW Y Z Z2 y 0 t c q b bc n ar fi rn (nightsM t c k (q, wasB b, bc, n, ar, fi, rn))) H → va_D A (zW Y Z Z2 y 0 t c q b bc n ar fi rn (nightsM t c k (q, wasB b, bc, n, ar, fi, rn))) → va_S A s.heap H locs → lv_has ls 3 [(2, .int (nI k)), (0, .ref (Y 0)), (1, .int (nI k0))] → W p l e ({ frames := 5, cells := 0, slots := 0, locals := 110 } : Room) s m args below meth cd H locs 0 0 (MQ below (zMQ (some (.int (nI N))) D (zW Y Z Z2 y 0 t c q b bc n ar fi rn (nightsM t c N (q, wasB b, bc, n, ar, fi, rn))) A) args s 0 0 A) (F0 m 33 ls []) := by
      refine down ?_ ?_
      · intro H locs ls hP hD hS hl
        have hTn : (nightsM t c N (q, wasB b, bc, n, ar, fi, rn)).2.2.2.1 = n + N := nightsM_n t c N (q, wasB b, bc, n, ar, fi, rn)
        have hTb : (nightsM t c N (q, wasB b, bc, n, ar, fi, rn)).2.2.1 ≤ bc := nightsM_b t c N (q, wasB b, bc, n, ar, fi, rn)
        have hq0 : (nightsM t c N (q, wasB b, bc, n, ar, fi, rn)).1 0 = q 0 := (nightsM_q0 t c N (q, wasB b, bc, n, ar, fi, rn)).1
        have hq3 : (nightsM t c N (q, wasB b, bc, n, ar, fi, rn)).1 3 = q 3 := (nightsM_q0 t c N (q, wasB b, bc, n, ar, fi, rn)).2
        refine lv_aload_n hx hb dX5_lasts_33 rfl (lv_at hl 1 rfl) ?_
        refine va_get (D := D) (ci := 5) (v := .ref (Z2 0)) (C := RX5) (T := TX5) (N := 7) hx hb hts hinX5 hown hK hP (0) rfl rfl 6 (by decide) hf28 (fun _ h9 => h9) rfl dX5_lasts_34 ?_
        refine va_getN (D := D) (ci := 4) (v := .ref (Z2 2)) (C := RX4) (T := TX4) (N := 16) hx hb hts hinX4 hown hK hP (15) rfl rfl 2 (by decide) hf52 (fun _ h9 => h9) rfl dX5_lasts_37 ?_
        refine lv_iload_n hx hb dX5_lasts_40 rfl (lv_at hl 2 rfl) ?_
        refine z_ald hx hb hK hP 17 (f := ((nightsM t c N (q, wasB b, bc, n, ar, fi, rn)).1 2)) rfl k0 rfl (by omega) (by decide) dX5_lasts_41 ?_
        refine lv_if_le (tgt := 69) hx hb dX5_lasts_42 (by decide) (fun c3 => ?_) (fun c3 => ?_)
        · have d3 := Int32.not_lt.mpr c3
          refine lv_iload_n hx hb dX5_lasts_69 rfl (lv_at hl 0 rfl) ?_
          exact zM_i hx hb hr hlocks hS dX5_lasts_70 rfl hP
        · have d3 := Int32.not_le.mp c3
          refine lv_aload_n hx hb dX5_lasts_45 rfl (lv_at hl 1 rfl) ?_
          refine va_get (D := D) (ci := 5) (v := .ref (Z2 0)) (C := RX5) (T := TX5) (N := 7) hx hb hts hinX5 hown hK hP (0) rfl rfl 6 (by decide) hf28 (fun _ h9 => h9) rfl dX5_lasts_46 ?_
          refine lv_iload_n hx hb dX5_lasts_49 rfl (lv_at hl 2 rfl) ?_
          refine zcRV (As := [.int (nI k0)]) (rest := []) (st1 := [.int (zb (heldB ((nightsM t c N (q, wasB b, bc, n, ar, fi, rn)).1) k0))]) ⟨hx, hb, hml, hown, hts⟩ (c_X4_isHeld l D y Y Z2 (Z 0) (Z2 0) 0 t c ((nightsM t c N (q, wasB b, bc, n, ar, fi, rn)).1) ((nightsM t c N (q, wasB b, bc, n, ar, fi, rn)).2.1) ((nightsM t c N (q, wasB b, bc, n, ar, fi, rn)).2.2.1) ((nightsM t c N (q, wasB b, bc, n, ar, fi, rn)).2.2.2.1) ((nightsM t c N (q, wasB b, bc, n, ar, fi, rn)).2.2.2.2.1) ((nightsM t c N (q, wasB b, bc, n, ar, fi, rn)).2.2.2.2.2.1) ((nightsM t c N (q, wasB b, bc, n, ar, fi, rn)).2.2.2.2.2.2) k0 (by omega)) (cwV 1 hts gX5_lasts_X4_isHeld rfl rfl rfl (by decide +kernel) ⟨Nat.le_of_ble_eq_true rfl, Nat.le_of_ble_eq_true rfl⟩) hK (zz_aP hq0 hq3 hP) (ci := 4) (q0 := 4) rfl rfl rfl rfl hl.1 rfl (lv_room (Nat.le_of_ble_eq_true rfl)) dX5_lasts_50 ⟨Nat.le_of_ble_eq_true rfl, Nat.le_of_ble_eq_true rfl⟩ rfl ?_
          refine lv_if_eq (tgt := 69) hx hb dX5_lasts_53 (by decide) (fun c4 => ?_) (fun c4 => ?_)
          · have c4 : heldB ((nightsM t c N (q, wasB b, bc, n, ar, fi, rn)).1) k0 = false := zb_f c4
            refine lv_iload_n hx hb dX5_lasts_69 rfl (lv_at hl 0 rfl) ?_
            exact zM_i hx hb hr hlocks hS dX5_lasts_70 rfl hP
          · have c4 : heldB ((nightsM t c N (q, wasB b, bc, n, ar, fi, rn)).1) k0 = true := zb_t c4
            exact (hend.elim (fun h9 => absurd h9 c3) (fun h9 => absurd (h9.symm.trans c4) (by decide)) : False).elim
      · intro k hkk ihk H locs ls hP hD hS hl
        have hTn : (nightsM t c k (q, wasB b, bc, n, ar, fi, rn)).2.2.2.1 = n + k := nightsM_n t c k (q, wasB b, bc, n, ar, fi, rn)
        have hTb : (nightsM t c k (q, wasB b, bc, n, ar, fi, rn)).2.2.1 ≤ bc := nightsM_b t c k (q, wasB b, bc, n, ar, fi, rn)
        have hq0 : (nightsM t c k (q, wasB b, bc, n, ar, fi, rn)).1 0 = q 0 := (nightsM_q0 t c k (q, wasB b, bc, n, ar, fi, rn)).1
        have hq3 : (nightsM t c k (q, wasB b, bc, n, ar, fi, rn)).1 3 = q 3 := (nightsM_q0 t c k (q, wasB b, bc, n, ar, fi, rn)).2
        refine lv_aload_n hx hb dX5_lasts_33 rfl (lv_at hl 1 rfl) ?_
        refine va_get (D := D) (ci := 5) (v := .ref (Z2 0)) (C := RX5) (T := TX5) (N := 7) hx hb hts hinX5 hown hK hP (0) rfl rfl 6 (by decide) hf28 (fun _ h9 => h9) rfl dX5_lasts_34 ?_
        refine va_getN (D := D) (ci := 4) (v := .ref (Z2 2)) (C := RX4) (T := TX4) (N := 16) hx hb hts hinX4 hown hK hP (15) rfl rfl 2 (by decide) hf52 (fun _ h9 => h9) rfl dX5_lasts_37 ?_
        refine lv_iload_n hx hb dX5_lasts_40 rfl (lv_at hl 2 rfl) ?_
        refine z_ald hx hb hK hP 17 (f := ((nightsM t c k (q, wasB b, bc, n, ar, fi, rn)).1 2)) rfl k0 rfl (by omega) (by decide) dX5_lasts_41 ?_
        refine lv_if_le (tgt := 69) hx hb dX5_lasts_42 (by decide) (fun c5 => ?_) (fun c5 => ?_)
        · exact absurd c5 (Int32.not_le.mpr (hall k hkk).1)
        · have d5 := Int32.not_le.mp c5
          refine lv_aload_n hx hb dX5_lasts_45 rfl (lv_at hl 1 rfl) ?_
          refine va_get (D := D) (ci := 5) (v := .ref (Z2 0)) (C := RX5) (T := TX5) (N := 7) hx hb hts hinX5 hown hK hP (0) rfl rfl 6 (by decide) hf28 (fun _ h9 => h9) rfl dX5_lasts_46 ?_
          refine lv_iload_n hx hb dX5_lasts_49 rfl (lv_at hl 2 rfl) ?_
          refine zcRV (As := [.int (nI k0)]) (rest := []) (st1 := [.int (zb (heldB ((nightsM t c k (q, wasB b, bc, n, ar, fi, rn)).1) k0))]) ⟨hx, hb, hml, hown, hts⟩ (c_X4_isHeld l D y Y Z2 (Z 0) (Z2 0) 0 t c ((nightsM t c k (q, wasB b, bc, n, ar, fi, rn)).1) ((nightsM t c k (q, wasB b, bc, n, ar, fi, rn)).2.1) ((nightsM t c k (q, wasB b, bc, n, ar, fi, rn)).2.2.1) ((nightsM t c k (q, wasB b, bc, n, ar, fi, rn)).2.2.2.1) ((nightsM t c k (q, wasB b, bc, n, ar, fi, rn)).2.2.2.2.1) ((nightsM t c k (q, wasB b, bc, n, ar, fi, rn)).2.2.2.2.2.1) ((nightsM t c k (q, wasB b, bc, n, ar, fi, rn)).2.2.2.2.2.2) k0 (by omega)) (cwV 1 hts gX5_lasts_X4_isHeld rfl rfl rfl (by decide +kernel) ⟨Nat.le_of_ble_eq_true rfl, Nat.le_of_ble_eq_true rfl⟩) hK (zz_aP hq0 hq3 hP) (ci := 4) (q0 := 4) rfl rfl rfl rfl hl.1 rfl (lv_room (Nat.le_of_ble_eq_true rfl)) dX5_lasts_50 ⟨Nat.le_of_ble_eq_true rfl, Nat.le_of_ble_eq_true rfl⟩ rfl ?_
          refine lv_if_eq (tgt := 69) hx hb dX5_lasts_53 (by decide) (fun c6 => ?_) (fun c6 => ?_)
          · exact absurd (zb_f c6) (by rw [(hall k hkk).2]; decide)
          · have c6 := c6
            refine lv_aload_n hx hb dX5_lasts_56 rfl (lv_at hl 1 rfl) ?_
            refine va_get (D := D) (ci := 5) (v := .ref (Z2 0)) (C := RX5) (T := TX5) (N := 7) hx hb hts hinX5 hown hK hP (0) rfl rfl 6 (by decide) hf28 (fun _ h9 => h9) rfl dX5_lasts_57 ?_
            refine zcNMV (As := []) (rest := []) (st1 := []) (cells1 := 0) (slots1 := 0) ⟨hx, hb, hml, hown, hts⟩ (c_X4_pass l D y Y Z2 (Z 0) (Z2 0) 0 t c ((nightsM t c k (q, wasB b, bc, n, ar, fi, rn)).1) ((nightsM t c k (q, wasB b, bc, n, ar, fi, rn)).2.1) ((nightsM t c k (q, wasB b, bc, n, ar, fi, rn)).2.2.1) ((nightsM t c k (q, wasB b, bc, n, ar, fi, rn)).2.2.2.1) ((nightsM t c k (q, wasB b, bc, n, ar, fi, rn)).2.2.2.2.1) ((nightsM t c k (q, wasB b, bc, n, ar, fi, rn)).2.2.2.2.2.1) ((nightsM t c k (q, wasB b, bc, n, ar, fi, rn)).2.2.2.2.2.2)  (by omega) (by omega) (by omega) _) (cwV 0 hts gX5_lasts_X4_pass rfl rfl rfl (by decide +kernel) ⟨Nat.le_of_ble_eq_true rfl, Nat.le_of_ble_eq_true rfl⟩) hN hK (zz_aP hq0 hq3 hP) (zz_aD hq0 hq3 hD) (ci := 4) (q0 := 4) rfl rfl rfl rfl hl.1 rfl (lv_room (Nat.le_of_ble_eq_true rfl)) dX5_lasts_60 hS (zz_aF hq0 hq3 hD hS hA) ⟨Nat.le_of_ble_eq_true rfl, Nat.le_of_ble_eq_true rfl⟩ rfl rfl rfl (fun H locs hP1 hz hfr hS => ?_)
            obtain ⟨hP, hD⟩ := zz_aB (T1 := (nightM t c (nightsM t c k (q, wasB b, bc, n, ar, fi, rn)))) hP hD hq0 hq3 ((nightM_q0 _ _ _).1.trans hq0) ((nightM_q0 _ _ _).2.trans hq3) hP1 hfr
            have hP : va_P D vwCl (zW Y Z Z2 y 0 t c q b bc n ar fi rn (nightM t c (nightsM t c k (q, wasB b, bc, n, ar, fi, rn)))) H := hP
            have hD : va_D A (zW Y Z Z2 y 0 t c q b bc n ar fi rn (nightM t c (nightsM t c k (q, wasB b, bc, n, ar, fi, rn)))) := hD
            have hq0 : (nightM t c (nightsM t c k (q, wasB b, bc, n, ar, fi, rn))).1 0 = q 0 := ((nightM_q0 _ _ _).1.trans hq0)
            have hq3 : (nightM t c (nightsM t c k (q, wasB b, bc, n, ar, fi, rn))).1 3 = q 3 := ((nightM_q0 _ _ _).2.trans hq3)
            refine lv_iinc (v := nI (k + 1)) (lv' := [(2, .int (nI (k + 1))), (0, .ref (Y 0)), (1, .int (nI k0))]) hx hb dX5_lasts_63 hl (k := 0) rfl (nI_1 _) (by decide) rfl (fun ls hl => ?_)
            refine lv_goto (tgt := 33) hx hb dX5_lasts_66 (by decide) ?_
            have e7 : (nightsM t c (k + 1) (q, wasB b, bc, n, ar, fi, rn)) = (nightM t c (nightsM t c k (q, wasB b, bc, n, ar, fi, rn))) := rfl
            refine ihk H locs ls ?_ ?_ hS ?_
            · first | exact hP | (simp only [e7]; exact hP)
            · first | exact hD | (simp only [e7]; exact hD)
            · first | exact lv_sub hl [0, 1, 2] rfl | (simp only [e7]; exact lv_sub hl [0, 1, 2] rfl)
    exact loop2 0 (Nat.zero_le _) H locs ls hP hD hS (lv_sub hl [0, 1, 2] rfl)
  · exact absurd (zb_f c1) (by rw [(inW_t hk hc)]; decide)
set_option maxHeartbeats 1000000 in
set_option maxRecDepth 100000 in
theorem c_X5_lasts_N1 (l : Launch) (D : va_G) (y : Nat → ClassId) (Y Z Z2 : Nat → Nat) (th : Int32) (t : Nat → Int32) (c : Nat) (q b : Fld) (bc n : Nat) (ar fi rn : Int32) (T : Nst) (x : Int32) (hx0 : x < 0 ∨ nI c ≤ x) (hc : c ≤ 6) (sz : Nat) : zMN l yX5_lasts wsX5_lasts { frames := 2, cells := 0, slots := 0, locals := 43 } D y [.ref (Y 0), .int x] (zW Y Z Z2 y th t c q b bc n ar fi rn T) sz (some (.int 0)) (zW Y Z Z2 y 1 t c q b bc n ar fi rn T) 0 0 := by
  refine zMN.of (cc := cX5_lasts) (maxL := 3) (ret := (some .int)) (own := RX5) (by decide) rfl (Nat.le_of_ble_eq_true rfl) rfl ?_
  intro p e s m args below meth cd ls A H locs hx hb hr hml hown hts hlocks hP hK hD hA hS hN hl hin
  have hS0 := hS
  have hl : lv_has ls 3 [(0, .ref (Y 0)), (1, .int x)] := hl
  have hf31 : (Cond.fieldLink RX5 31 "StakeWeirsModel" "thrown" "I").before args s = true := hts _ (by decide +kernel)
  have hinX5 : ∀ w ∈ wsX50, w ∈ wsX5_lasts := by decide +kernel
  refine lv_aload_n hx hb dX5_lasts_0 rfl (lv_at hl 0 rfl) ?_
  refine lv_iconst (v := 0) hx hb dX5_lasts_1 (by decide) ?_
  refine va_put (D := D) (ci := 5) (v := .int 0) (ty := .int) (C := RX5) (T := TX5) (N := 7) hx hb hts hinX5 tyX5 tyX5_ok nmX5 hown hK hP hD hS (0) rfl rfl 0 (by decide) hf31 (fun _ h9 => h9) rfl (by decide +kernel) rfl rfl (Nat.le_of_ble_eq_true rfl) dX5_lasts_2 (fun H locs hP hD hS => ?_)
  have hP : va_P D vwCl (zW Y Z Z2 y 0 t c q b bc n ar fi rn T) H := hP
  have hD : va_D A (zW Y Z Z2 y 0 t c q b bc n ar fi rn T) := hD
  refine lv_aload_n hx hb dX5_lasts_5 rfl (lv_at hl 0 rfl) ?_
  refine lv_iload_n hx hb dX5_lasts_6 rfl (lv_at hl 1 rfl) ?_
  refine zcRV (As := [.int x]) (rest := []) (st1 := [.int (zb (inB 0 x (nI c - 1)))]) ⟨hx, hb, hml, hown, hts⟩ (c_X5_isWeir l D y Y Z Z2 0 t c q b bc n ar fi rn T x) (cwV 1 hts gX5_lasts_X5_isWeir rfl rfl rfl (by decide +kernel) ⟨Nat.le_of_ble_eq_true rfl, Nat.le_of_ble_eq_true rfl⟩) hK hP (ci := 5) (q0 := 0) rfl rfl rfl rfl hl.1 rfl (lv_room (Nat.le_of_ble_eq_true rfl)) dX5_lasts_7 ⟨Nat.le_of_ble_eq_true rfl, Nat.le_of_ble_eq_true rfl⟩ rfl ?_
  refine lv_if_ne (tgt := 19) hx hb dX5_lasts_10 (by decide) (fun c1 => ?_) (fun c1 => ?_)
  · exact absurd (zb_t c1) (by rw [(inW_f hx0 hc)]; decide)
  · have c1 := c1
    refine lv_aload_n hx hb dX5_lasts_13 rfl (lv_at hl 0 rfl) ?_
    refine lv_iconst (v := 1) hx hb dX5_lasts_14 (by decide) ?_
    refine zcMV (As := [.int 1]) (rest := []) (st1 := [.int 0]) (cells1 := 0) (slots1 := 0) ⟨hx, hb, hml, hown, hts⟩ (c_X5_no l D y Y Z Z2 0 t c q b bc n ar fi rn T 1 _) (cwV 1 hts gX5_lasts_X5_no rfl rfl rfl (by decide +kernel) ⟨Nat.le_of_ble_eq_true rfl, Nat.le_of_ble_eq_true rfl⟩) hK hP (z_D_T hD) (ci := 5) (q0 := 0) rfl rfl rfl rfl hl.1 rfl (lv_room (Nat.le_of_ble_eq_true rfl)) dX5_lasts_15 hS (z_sub_F hD hS hA z_in_r) ⟨Nat.le_of_ble_eq_true rfl, Nat.le_of_ble_eq_true rfl⟩ rfl rfl rfl (fun H locs hP1 hz hfr hS => ?_)
    have hD := z_D_adr hD (show (zW Y Z Z2 y 1 t c q b bc n ar fi rn T).map Prod.fst = _ from rfl)
    have hP := hP1
    exact zM_i hx hb hr hlocks hS dX5_lasts_18 rfl hP
set_option maxHeartbeats 1000000 in
set_option maxRecDepth 100000 in
theorem c_X5_foresee_4 (l : Launch) (D : va_G) (y : Nat → ClassId) (Y Z Z2 : Nat → Nat) (th : Int32) (t : Nat → Int32) (c : Nat) (q b : Fld) (bc n : Nat) (ar fi rn : Int32) (T : Nst) (mm : Nat) (hw : inB 1 (nI mm) 56 = true) (hn : n + mm < 2147483648) (hc : c ≤ 6) (hbc : bc ≤ 5) (sz : Nat) : zMN l yX5_foresee wsX5_foresee { frames := 6, cells := 1, slots := 10, locals := 132 } D y [.ref (Y 0), .int (nI mm), .int 4] (zW Y Z Z2 y th t c q b bc n ar fi rn T) sz (some (.int (cntF t (nightsM t c mm (q, wasB b, bc, n, ar, fi, rn)).1 c (nightsM t c mm (q, wasB b, bc, n, ar, fi, rn)).2.2.1 (nightsM t c mm (q, wasB b, bc, n, ar, fi, rn)).2.2.2.1 (nightsM t c mm (q, wasB b, bc, n, ar, fi, rn)).2.2.2.2.1 (nightsM t c mm (q, wasB b, bc, n, ar, fi, rn)).2.2.2.2.2.1 (nightsM t c mm (q, wasB b, bc, n, ar, fi, rn)).2.2.2.2.2.2 4))) (zW Y Z Z2 y 0 t c q b bc n ar fi rn (nightsM t c mm (q, wasB b, bc, n, ar, fi, rn))) 1 10 := by
  refine zMN.of (cc := cX5_foresee) (maxL := 3) (ret := (some .int)) (own := RX5) (by decide) rfl (Nat.le_of_ble_eq_true rfl) rfl ?_
  intro p e s m args below meth cd ls A H locs hx hb hr hml hown hts hlocks hP hK hD hA hS hN hl hin
  have hS0 := hS
  have hl : lv_has ls 3 [(0, .ref (Y 0)), (1, .int (nI mm)), (2, .int 4)] := hl
  have hf31 : (Cond.fieldLink RX5 31 "StakeWeirsModel" "thrown" "I").before args s = true := hts _ (by decide +kernel)
  have hinX5 : ∀ w ∈ wsX50, w ∈ wsX5_foresee := by decide +kernel
  have hf28 : (Cond.fieldLink RX5 28 "StakeWeirsModel" "ahead" "LStakeWeirsModel$State;").before args s = true := hts _ (by decide +kernel)
  have hf24 : (Cond.fieldLink RX5 24 "StakeWeirsModel" "s" "LStakeWeirsModel$State;").before args s = true := hts _ (by decide +kernel)
  refine lv_aload_n hx hb dX5_foresee_0 rfl (lv_at hl 0 rfl) ?_
  refine lv_iconst (v := 0) hx hb dX5_foresee_1 (by decide) ?_
  refine va_put (D := D) (ci := 5) (v := .int 0) (ty := .int) (C := RX5) (T := TX5) (N := 7) hx hb hts hinX5 tyX5 tyX5_ok nmX5 hown hK hP hD hS (0) rfl rfl 0 (by decide) hf31 (fun _ h9 => h9) rfl (by decide +kernel) rfl rfl (Nat.le_of_ble_eq_true rfl) dX5_foresee_2 (fun H locs hP hD hS => ?_)
  have hP : va_P D vwCl (zW Y Z Z2 y 0 t c q b bc n ar fi rn T) H := hP
  have hD : va_D A (zW Y Z Z2 y 0 t c q b bc n ar fi rn T) := hD
  refine lv_iload_n hx hb dX5_foresee_5 rfl (lv_at hl 1 rfl) ?_
  refine lv_iconst (v := 1) hx hb dX5_foresee_6 (by decide) ?_
  refine lv_bipush (v := 56) hx hb dX5_foresee_7 (by decide) ?_
  refine zcRS (As := [.int (nI mm), .int 1, .int 56]) (rest := []) (st1 := [.int (zb (inB 1 (nI mm) 56))]) ⟨hx, hb, hml, hown, hts⟩ (c_X5_isIn l D y (nI mm) 1 56) (cwS 3 hts gX5_foresee_X5_isIn rfl rfl rfl (by decide +kernel) ⟨Nat.le_of_ble_eq_true rfl, Nat.le_of_ble_eq_true rfl⟩) hK va_P_nil rfl hl.1 rfl (lv_room (Nat.le_of_ble_eq_true rfl)) dX5_foresee_9 ⟨Nat.le_of_ble_eq_true rfl, Nat.le_of_ble_eq_true rfl⟩ rfl ?_
  refine lv_if_ne (tgt := 21) hx hb dX5_foresee_12 (by decide) (fun c1 => ?_) (fun c1 => ?_)
  · have c1 := c1
    refine lv_iload_n hx hb dX5_foresee_21 rfl (lv_at hl 2 rfl) ?_
    refine lv_iconst (v := 4) hx hb dX5_foresee_22 (by decide) ?_
    refine lv_icmp_eq (tgt := 43) hx hb dX5_foresee_23 (by decide) (fun c2 => ?_) (fun c2 => ?_)
    · have d2 := c2
      refine lv_aload_n hx hb dX5_foresee_43 rfl (lv_at hl 0 rfl) ?_
      refine va_get (D := D) (ci := 5) (v := .ref (Z2 0)) (C := RX5) (T := TX5) (N := 7) hx hb hts hinX5 hown hK hP (0) rfl rfl 6 (by decide) hf28 (fun _ h9 => h9) rfl dX5_foresee_44 ?_
      refine lv_aload_n hx hb dX5_foresee_47 rfl (lv_at hl 0 rfl) ?_
      refine va_get (D := D) (ci := 5) (v := .ref (Z 0)) (C := RX5) (T := TX5) (N := 7) hx hb hts hinX5 hown hK hP (0) rfl rfl 5 (by decide) hf24 (fun _ h9 => h9) rfl dX5_foresee_48 ?_
      refine zcMV (As := [.ref (Z 0)]) (rest := []) (st1 := [.ref (Z2 0)]) (cells1 := 0) (slots1 := 0) ⟨hx, hb, hml, hown, hts⟩ (c_X4_become l D y (Y 0) Z2 Z T.1 T.2.1 T.2.2.1 T.2.2.2.1 T.2.2.2.2.1 T.2.2.2.2.2.1 T.2.2.2.2.2.2 q b bc n ar fi rn _) (cwV 1 hts gX5_foresee_X4_become rfl rfl rfl (by decide +kernel) ⟨Nat.le_of_ble_eq_true rfl, Nat.le_of_ble_eq_true rfl⟩) hK (z_sub_P hP (fun z h => List.mem_append_right _ ((List.mem_append.mp h).elim (fun h => List.mem_append_right _ h) (fun h => List.mem_append_left _ h)))) (z_D_s (l1 := (oW Y (Z 0) (Z2 0) y 0 t c (q 0) (q 3))) hD) (ci := 4) (q0 := 0) rfl rfl rfl rfl hl.1 rfl (lv_room (Nat.le_of_ble_eq_true rfl)) dX5_foresee_51 hS (z_sub_F hD hS hA (fun z h => List.mem_append_right _ ((List.mem_append.mp h).elim (fun h => List.mem_append_right _ h) (fun h => List.mem_append_left _ h)))) ⟨Nat.le_of_ble_eq_true rfl, Nat.le_of_ble_eq_true rfl⟩ rfl rfl rfl (fun H locs hP1 hz hfr hS => ?_)
      obtain ⟨hP, hD⟩ := z_segS (ws1 := zW Y Z Z2 y 0 t c q b bc n ar fi rn (q, wasB b, bc, n, ar, fi, rn)) (l1 := (oW Y (Z 0) (Z2 0) y 0 t c (q 0) (q 3))) (a := (stW Z (Y 0) y q b bc n ar fi rn)) (b := (stW Z2 (Y 0) y T.1 T.2.1 T.2.2.1 T.2.2.2.1 T.2.2.2.2.1 T.2.2.2.2.2.1 T.2.2.2.2.2.2)) (b1 := (stW Z2 (Y 0) y q (wasB b) bc n ar fi rn)) hP hD rfl rfl rfl hP1 hfr
      have hq0 : (q, wasB b, bc, n, ar, fi, rn).1 0 = q 0 := rfl
      have hq3 : (q, wasB b, bc, n, ar, fi, rn).1 3 = q 3 := rfl
      have hTb : (q, wasB b, bc, n, ar, fi, rn).2.2.1 = bc := rfl
      have hTn : (q, wasB b, bc, n, ar, fi, rn).2.2.2.1 = n := rfl
      refine lv_iload_n hx hb dX5_foresee_54 rfl (lv_at hl 1 rfl) ?_
      refine zcNMV (As := [.int (nI mm)]) (rest := []) (st1 := []) (cells1 := 0) (slots1 := 0) ⟨hx, hb, hml, hown, hts⟩ (c_X4_pass_ l D y Y Z2 (Z 0) (Z2 0) 0 t c ((q, wasB b, bc, n, ar, fi, rn).1) ((q, wasB b, bc, n, ar, fi, rn).2.1) ((q, wasB b, bc, n, ar, fi, rn).2.2.1) ((q, wasB b, bc, n, ar, fi, rn).2.2.2.1) ((q, wasB b, bc, n, ar, fi, rn).2.2.2.2.1) ((q, wasB b, bc, n, ar, fi, rn).2.2.2.2.2.1) ((q, wasB b, bc, n, ar, fi, rn).2.2.2.2.2.2) mm (by omega) (by omega) (by omega) _) (cwV 1 hts gX5_foresee_X4_pass_ rfl rfl rfl (by decide +kernel) ⟨Nat.le_of_ble_eq_true rfl, Nat.le_of_ble_eq_true rfl⟩) hN hK (zz_aP hq0 hq3 hP) (zz_aD hq0 hq3 hD) (ci := 4) (q0 := 4) rfl rfl rfl rfl hl.1 rfl (lv_room (Nat.le_of_ble_eq_true rfl)) dX5_foresee_55 hS (zz_aF hq0 hq3 hD hS hA) ⟨Nat.le_of_ble_eq_true rfl, Nat.le_of_ble_eq_true rfl⟩ rfl rfl rfl (fun H locs hP1 hz hfr hS => ?_)
      obtain ⟨hP, hD⟩ := zz_aB (T1 := (nightsM t c mm (q, wasB b, bc, n, ar, fi, rn))) hP hD hq0 hq3 ((nightsM_q0 _ _ _ _).1.trans hq0) ((nightsM_q0 _ _ _ _).2.trans hq3) hP1 hfr
      have hP : va_P D vwCl (zW Y Z Z2 y 0 t c q b bc n ar fi rn (nightsM t c mm (q, wasB b, bc, n, ar, fi, rn))) H := hP
      have hD : va_D A (zW Y Z Z2 y 0 t c q b bc n ar fi rn (nightsM t c mm (q, wasB b, bc, n, ar, fi, rn))) := hD
      have hq0 : (nightsM t c mm (q, wasB b, bc, n, ar, fi, rn)).1 0 = q 0 := ((nightsM_q0 _ _ _ _).1.trans hq0)
      have hq3 : (nightsM t c mm (q, wasB b, bc, n, ar, fi, rn)).1 3 = q 3 := ((nightsM_q0 _ _ _ _).2.trans hq3)
      have hTn2 : (nightsM t c mm (q, wasB b, bc, n, ar, fi, rn)).2.2.2.1 = n + mm := nightsM_n t c mm (q, wasB b, bc, n, ar, fi, rn)
      refine lv_aload_n hx hb dX5_foresee_58 rfl (lv_at hl 0 rfl) ?_
      refine va_get (D := D) (ci := 5) (v := .ref (Z2 0)) (C := RX5) (T := TX5) (N := 7) hx hb hts hinX5 hown hK hP (0) rfl rfl 6 (by decide) hf28 (fun _ h9 => h9) rfl dX5_foresee_59 ?_
      refine lv_iload_n hx hb dX5_foresee_62 rfl (lv_at hl 2 rfl) ?_
      refine zcNMV (As := [.int 4]) (rest := []) (st1 := [.int ((cntF t ((nightsM t c mm (q, wasB b, bc, n, ar, fi, rn)).1) c ((nightsM t c mm (q, wasB b, bc, n, ar, fi, rn)).2.2.1) ((nightsM t c mm (q, wasB b, bc, n, ar, fi, rn)).2.2.2.1) ((nightsM t c mm (q, wasB b, bc, n, ar, fi, rn)).2.2.2.2.1) ((nightsM t c mm (q, wasB b, bc, n, ar, fi, rn)).2.2.2.2.2.1) ((nightsM t c mm (q, wasB b, bc, n, ar, fi, rn)).2.2.2.2.2.2) 4))]) (cells1 := 1) (slots1 := 10) ⟨hx, hb, hml, hown, hts⟩ (c_X4_counted l D y Y Z2 (Z 0) (Z2 0) 0 t c ((nightsM t c mm (q, wasB b, bc, n, ar, fi, rn)).1) ((nightsM t c mm (q, wasB b, bc, n, ar, fi, rn)).2.1) ((nightsM t c mm (q, wasB b, bc, n, ar, fi, rn)).2.2.1) ((nightsM t c mm (q, wasB b, bc, n, ar, fi, rn)).2.2.2.1) ((nightsM t c mm (q, wasB b, bc, n, ar, fi, rn)).2.2.2.2.1) ((nightsM t c mm (q, wasB b, bc, n, ar, fi, rn)).2.2.2.2.2.1) ((nightsM t c mm (q, wasB b, bc, n, ar, fi, rn)).2.2.2.2.2.2) 4 (by omega) (by omega) (by omega) _) (cwV 1 hts gX5_foresee_X4_counted rfl rfl rfl (by decide +kernel) ⟨Nat.le_of_ble_eq_true rfl, Nat.le_of_ble_eq_true rfl⟩) hN hK (zz_aP hq0 hq3 hP) (zz_aD hq0 hq3 hD) (ci := 4) (q0 := 4) rfl rfl rfl rfl hl.1 rfl (lv_room (Nat.le_of_ble_eq_true rfl)) dX5_foresee_63 hS (zz_aF hq0 hq3 hD hS hA) ⟨Nat.le_of_ble_eq_true rfl, Nat.le_of_ble_eq_true rfl⟩ rfl rfl rfl (fun H locs hP1 hz hfr hS => ?_)
      obtain ⟨hP, hD⟩ := zz_aB (T1 := (nightsM t c mm (q, wasB b, bc, n, ar, fi, rn))) hP hD hq0 hq3 hq0 hq3 hP1 hfr
      have hP : va_P D vwCl (zW Y Z Z2 y 0 t c q b bc n ar fi rn (nightsM t c mm (q, wasB b, bc, n, ar, fi, rn))) H := hP
      have hD : va_D A (zW Y Z Z2 y 0 t c q b bc n ar fi rn (nightsM t c mm (q, wasB b, bc, n, ar, fi, rn))) := hD
      have hq0 : (nightsM t c mm (q, wasB b, bc, n, ar, fi, rn)).1 0 = q 0 := hq0
      have hq3 : (nightsM t c mm (q, wasB b, bc, n, ar, fi, rn)).1 3 = q 3 := hq3
      exact zM_i hx hb hr hlocks hS dX5_foresee_66 rfl hP
    · exact absurd (by decide) c2
  · exact absurd (zb_f c1) (by rw [hw]; decide)
set_option maxHeartbeats 1000000 in
set_option maxRecDepth 100000 in
theorem c_X5_foresee_6 (l : Launch) (D : va_G) (y : Nat → ClassId) (Y Z Z2 : Nat → Nat) (th : Int32) (t : Nat → Int32) (c : Nat) (q b : Fld) (bc n : Nat) (ar fi rn : Int32) (T : Nst) (mm : Nat) (hw : inB 1 (nI mm) 56 = true) (hn : n + mm < 2147483648) (hc : c ≤ 6) (hbc : bc ≤ 5) (sz : Nat) : zMN l yX5_foresee wsX5_foresee { frames := 6, cells := 1, slots := 10, locals := 132 } D y [.ref (Y 0), .int (nI mm), .int 6] (zW Y Z Z2 y th t c q b bc n ar fi rn T) sz (some (.int (cntF t (nightsM t c mm (q, wasB b, bc, n, ar, fi, rn)).1 c (nightsM t c mm (q, wasB b, bc, n, ar, fi, rn)).2.2.1 (nightsM t c mm (q, wasB b, bc, n, ar, fi, rn)).2.2.2.1 (nightsM t c mm (q, wasB b, bc, n, ar, fi, rn)).2.2.2.2.1 (nightsM t c mm (q, wasB b, bc, n, ar, fi, rn)).2.2.2.2.2.1 (nightsM t c mm (q, wasB b, bc, n, ar, fi, rn)).2.2.2.2.2.2 6))) (zW Y Z Z2 y 0 t c q b bc n ar fi rn (nightsM t c mm (q, wasB b, bc, n, ar, fi, rn))) 1 10 := by
  refine zMN.of (cc := cX5_foresee) (maxL := 3) (ret := (some .int)) (own := RX5) (by decide) rfl (Nat.le_of_ble_eq_true rfl) rfl ?_
  intro p e s m args below meth cd ls A H locs hx hb hr hml hown hts hlocks hP hK hD hA hS hN hl hin
  have hS0 := hS
  have hl : lv_has ls 3 [(0, .ref (Y 0)), (1, .int (nI mm)), (2, .int 6)] := hl
  have hf31 : (Cond.fieldLink RX5 31 "StakeWeirsModel" "thrown" "I").before args s = true := hts _ (by decide +kernel)
  have hinX5 : ∀ w ∈ wsX50, w ∈ wsX5_foresee := by decide +kernel
  have hf28 : (Cond.fieldLink RX5 28 "StakeWeirsModel" "ahead" "LStakeWeirsModel$State;").before args s = true := hts _ (by decide +kernel)
  have hf24 : (Cond.fieldLink RX5 24 "StakeWeirsModel" "s" "LStakeWeirsModel$State;").before args s = true := hts _ (by decide +kernel)
  refine lv_aload_n hx hb dX5_foresee_0 rfl (lv_at hl 0 rfl) ?_
  refine lv_iconst (v := 0) hx hb dX5_foresee_1 (by decide) ?_
  refine va_put (D := D) (ci := 5) (v := .int 0) (ty := .int) (C := RX5) (T := TX5) (N := 7) hx hb hts hinX5 tyX5 tyX5_ok nmX5 hown hK hP hD hS (0) rfl rfl 0 (by decide) hf31 (fun _ h9 => h9) rfl (by decide +kernel) rfl rfl (Nat.le_of_ble_eq_true rfl) dX5_foresee_2 (fun H locs hP hD hS => ?_)
  have hP : va_P D vwCl (zW Y Z Z2 y 0 t c q b bc n ar fi rn T) H := hP
  have hD : va_D A (zW Y Z Z2 y 0 t c q b bc n ar fi rn T) := hD
  refine lv_iload_n hx hb dX5_foresee_5 rfl (lv_at hl 1 rfl) ?_
  refine lv_iconst (v := 1) hx hb dX5_foresee_6 (by decide) ?_
  refine lv_bipush (v := 56) hx hb dX5_foresee_7 (by decide) ?_
  refine zcRS (As := [.int (nI mm), .int 1, .int 56]) (rest := []) (st1 := [.int (zb (inB 1 (nI mm) 56))]) ⟨hx, hb, hml, hown, hts⟩ (c_X5_isIn l D y (nI mm) 1 56) (cwS 3 hts gX5_foresee_X5_isIn rfl rfl rfl (by decide +kernel) ⟨Nat.le_of_ble_eq_true rfl, Nat.le_of_ble_eq_true rfl⟩) hK va_P_nil rfl hl.1 rfl (lv_room (Nat.le_of_ble_eq_true rfl)) dX5_foresee_9 ⟨Nat.le_of_ble_eq_true rfl, Nat.le_of_ble_eq_true rfl⟩ rfl ?_
  refine lv_if_ne (tgt := 21) hx hb dX5_foresee_12 (by decide) (fun c1 => ?_) (fun c1 => ?_)
  · have c1 := c1
    refine lv_iload_n hx hb dX5_foresee_21 rfl (lv_at hl 2 rfl) ?_
    refine lv_iconst (v := 4) hx hb dX5_foresee_22 (by decide) ?_
    refine lv_icmp_eq (tgt := 43) hx hb dX5_foresee_23 (by decide) (fun c2 => ?_) (fun c2 => ?_)
    · exact absurd c2 (by decide)
    · have d2 := c2
      refine lv_iload_n hx hb dX5_foresee_26 rfl (lv_at hl 2 rfl) ?_
      refine lv_bipush (v := 6) hx hb dX5_foresee_27 (by decide) ?_
      refine lv_bipush (v := 9) hx hb dX5_foresee_29 (by decide) ?_
      refine zcRS (As := [.int 6, .int 6, .int 9]) (rest := []) (st1 := [.int (zb (inB 6 6 9))]) ⟨hx, hb, hml, hown, hts⟩ (c_X5_isIn l D y 6 6 9) (cwS 3 hts gX5_foresee_X5_isIn rfl rfl rfl (by decide +kernel) ⟨Nat.le_of_ble_eq_true rfl, Nat.le_of_ble_eq_true rfl⟩) hK va_P_nil rfl hl.1 rfl (lv_room (Nat.le_of_ble_eq_true rfl)) dX5_foresee_31 ⟨Nat.le_of_ble_eq_true rfl, Nat.le_of_ble_eq_true rfl⟩ rfl ?_
      refine lv_if_ne (tgt := 43) hx hb dX5_foresee_34 (by decide) (fun c3 => ?_) (fun c3 => ?_)
      · have c3 := c3
        refine lv_aload_n hx hb dX5_foresee_43 rfl (lv_at hl 0 rfl) ?_
        refine va_get (D := D) (ci := 5) (v := .ref (Z2 0)) (C := RX5) (T := TX5) (N := 7) hx hb hts hinX5 hown hK hP (0) rfl rfl 6 (by decide) hf28 (fun _ h9 => h9) rfl dX5_foresee_44 ?_
        refine lv_aload_n hx hb dX5_foresee_47 rfl (lv_at hl 0 rfl) ?_
        refine va_get (D := D) (ci := 5) (v := .ref (Z 0)) (C := RX5) (T := TX5) (N := 7) hx hb hts hinX5 hown hK hP (0) rfl rfl 5 (by decide) hf24 (fun _ h9 => h9) rfl dX5_foresee_48 ?_
        refine zcMV (As := [.ref (Z 0)]) (rest := []) (st1 := [.ref (Z2 0)]) (cells1 := 0) (slots1 := 0) ⟨hx, hb, hml, hown, hts⟩ (c_X4_become l D y (Y 0) Z2 Z T.1 T.2.1 T.2.2.1 T.2.2.2.1 T.2.2.2.2.1 T.2.2.2.2.2.1 T.2.2.2.2.2.2 q b bc n ar fi rn _) (cwV 1 hts gX5_foresee_X4_become rfl rfl rfl (by decide +kernel) ⟨Nat.le_of_ble_eq_true rfl, Nat.le_of_ble_eq_true rfl⟩) hK (z_sub_P hP (fun z h => List.mem_append_right _ ((List.mem_append.mp h).elim (fun h => List.mem_append_right _ h) (fun h => List.mem_append_left _ h)))) (z_D_s (l1 := (oW Y (Z 0) (Z2 0) y 0 t c (q 0) (q 3))) hD) (ci := 4) (q0 := 0) rfl rfl rfl rfl hl.1 rfl (lv_room (Nat.le_of_ble_eq_true rfl)) dX5_foresee_51 hS (z_sub_F hD hS hA (fun z h => List.mem_append_right _ ((List.mem_append.mp h).elim (fun h => List.mem_append_right _ h) (fun h => List.mem_append_left _ h)))) ⟨Nat.le_of_ble_eq_true rfl, Nat.le_of_ble_eq_true rfl⟩ rfl rfl rfl (fun H locs hP1 hz hfr hS => ?_)
        obtain ⟨hP, hD⟩ := z_segS (ws1 := zW Y Z Z2 y 0 t c q b bc n ar fi rn (q, wasB b, bc, n, ar, fi, rn)) (l1 := (oW Y (Z 0) (Z2 0) y 0 t c (q 0) (q 3))) (a := (stW Z (Y 0) y q b bc n ar fi rn)) (b := (stW Z2 (Y 0) y T.1 T.2.1 T.2.2.1 T.2.2.2.1 T.2.2.2.2.1 T.2.2.2.2.2.1 T.2.2.2.2.2.2)) (b1 := (stW Z2 (Y 0) y q (wasB b) bc n ar fi rn)) hP hD rfl rfl rfl hP1 hfr
        have hq0 : (q, wasB b, bc, n, ar, fi, rn).1 0 = q 0 := rfl
        have hq3 : (q, wasB b, bc, n, ar, fi, rn).1 3 = q 3 := rfl
        have hTb : (q, wasB b, bc, n, ar, fi, rn).2.2.1 = bc := rfl
        have hTn : (q, wasB b, bc, n, ar, fi, rn).2.2.2.1 = n := rfl
        refine lv_iload_n hx hb dX5_foresee_54 rfl (lv_at hl 1 rfl) ?_
        refine zcNMV (As := [.int (nI mm)]) (rest := []) (st1 := []) (cells1 := 0) (slots1 := 0) ⟨hx, hb, hml, hown, hts⟩ (c_X4_pass_ l D y Y Z2 (Z 0) (Z2 0) 0 t c ((q, wasB b, bc, n, ar, fi, rn).1) ((q, wasB b, bc, n, ar, fi, rn).2.1) ((q, wasB b, bc, n, ar, fi, rn).2.2.1) ((q, wasB b, bc, n, ar, fi, rn).2.2.2.1) ((q, wasB b, bc, n, ar, fi, rn).2.2.2.2.1) ((q, wasB b, bc, n, ar, fi, rn).2.2.2.2.2.1) ((q, wasB b, bc, n, ar, fi, rn).2.2.2.2.2.2) mm (by omega) (by omega) (by omega) _) (cwV 1 hts gX5_foresee_X4_pass_ rfl rfl rfl (by decide +kernel) ⟨Nat.le_of_ble_eq_true rfl, Nat.le_of_ble_eq_true rfl⟩) hN hK (zz_aP hq0 hq3 hP) (zz_aD hq0 hq3 hD) (ci := 4) (q0 := 4) rfl rfl rfl rfl hl.1 rfl (lv_room (Nat.le_of_ble_eq_true rfl)) dX5_foresee_55 hS (zz_aF hq0 hq3 hD hS hA) ⟨Nat.le_of_ble_eq_true rfl, Nat.le_of_ble_eq_true rfl⟩ rfl rfl rfl (fun H locs hP1 hz hfr hS => ?_)
        obtain ⟨hP, hD⟩ := zz_aB (T1 := (nightsM t c mm (q, wasB b, bc, n, ar, fi, rn))) hP hD hq0 hq3 ((nightsM_q0 _ _ _ _).1.trans hq0) ((nightsM_q0 _ _ _ _).2.trans hq3) hP1 hfr
        have hP : va_P D vwCl (zW Y Z Z2 y 0 t c q b bc n ar fi rn (nightsM t c mm (q, wasB b, bc, n, ar, fi, rn))) H := hP
        have hD : va_D A (zW Y Z Z2 y 0 t c q b bc n ar fi rn (nightsM t c mm (q, wasB b, bc, n, ar, fi, rn))) := hD
        have hq0 : (nightsM t c mm (q, wasB b, bc, n, ar, fi, rn)).1 0 = q 0 := ((nightsM_q0 _ _ _ _).1.trans hq0)
        have hq3 : (nightsM t c mm (q, wasB b, bc, n, ar, fi, rn)).1 3 = q 3 := ((nightsM_q0 _ _ _ _).2.trans hq3)
        have hTn2 : (nightsM t c mm (q, wasB b, bc, n, ar, fi, rn)).2.2.2.1 = n + mm := nightsM_n t c mm (q, wasB b, bc, n, ar, fi, rn)
        refine lv_aload_n hx hb dX5_foresee_58 rfl (lv_at hl 0 rfl) ?_
        refine va_get (D := D) (ci := 5) (v := .ref (Z2 0)) (C := RX5) (T := TX5) (N := 7) hx hb hts hinX5 hown hK hP (0) rfl rfl 6 (by decide) hf28 (fun _ h9 => h9) rfl dX5_foresee_59 ?_
        refine lv_iload_n hx hb dX5_foresee_62 rfl (lv_at hl 2 rfl) ?_
        refine zcNMV (As := [.int 6]) (rest := []) (st1 := [.int ((cntF t ((nightsM t c mm (q, wasB b, bc, n, ar, fi, rn)).1) c ((nightsM t c mm (q, wasB b, bc, n, ar, fi, rn)).2.2.1) ((nightsM t c mm (q, wasB b, bc, n, ar, fi, rn)).2.2.2.1) ((nightsM t c mm (q, wasB b, bc, n, ar, fi, rn)).2.2.2.2.1) ((nightsM t c mm (q, wasB b, bc, n, ar, fi, rn)).2.2.2.2.2.1) ((nightsM t c mm (q, wasB b, bc, n, ar, fi, rn)).2.2.2.2.2.2) 6))]) (cells1 := 1) (slots1 := 10) ⟨hx, hb, hml, hown, hts⟩ (c_X4_counted l D y Y Z2 (Z 0) (Z2 0) 0 t c ((nightsM t c mm (q, wasB b, bc, n, ar, fi, rn)).1) ((nightsM t c mm (q, wasB b, bc, n, ar, fi, rn)).2.1) ((nightsM t c mm (q, wasB b, bc, n, ar, fi, rn)).2.2.1) ((nightsM t c mm (q, wasB b, bc, n, ar, fi, rn)).2.2.2.1) ((nightsM t c mm (q, wasB b, bc, n, ar, fi, rn)).2.2.2.2.1) ((nightsM t c mm (q, wasB b, bc, n, ar, fi, rn)).2.2.2.2.2.1) ((nightsM t c mm (q, wasB b, bc, n, ar, fi, rn)).2.2.2.2.2.2) 6 (by omega) (by omega) (by omega) _) (cwV 1 hts gX5_foresee_X4_counted rfl rfl rfl (by decide +kernel) ⟨Nat.le_of_ble_eq_true rfl, Nat.le_of_ble_eq_true rfl⟩) hN hK (zz_aP hq0 hq3 hP) (zz_aD hq0 hq3 hD) (ci := 4) (q0 := 4) rfl rfl rfl rfl hl.1 rfl (lv_room (Nat.le_of_ble_eq_true rfl)) dX5_foresee_63 hS (zz_aF hq0 hq3 hD hS hA) ⟨Nat.le_of_ble_eq_true rfl, Nat.le_of_ble_eq_true rfl⟩ rfl rfl rfl (fun H locs hP1 hz hfr hS => ?_)
        obtain ⟨hP, hD⟩ := zz_aB (T1 := (nightsM t c mm (q, wasB b, bc, n, ar, fi, rn))) hP hD hq0 hq3 hq0 hq3 hP1 hfr
        have hP : va_P D vwCl (zW Y Z Z2 y 0 t c q b bc n ar fi rn (nightsM t c mm (q, wasB b, bc, n, ar, fi, rn))) H := hP
        have hD : va_D A (zW Y Z Z2 y 0 t c q b bc n ar fi rn (nightsM t c mm (q, wasB b, bc, n, ar, fi, rn))) := hD
        have hq0 : (nightsM t c mm (q, wasB b, bc, n, ar, fi, rn)).1 0 = q 0 := hq0
        have hq3 : (nightsM t c mm (q, wasB b, bc, n, ar, fi, rn)).1 3 = q 3 := hq3
        exact zM_i hx hb hr hlocks hS dX5_foresee_66 rfl hP
      · exact absurd (zb_f c3) (by rw [(show inB 6 6 9 = true from by decide)]; decide)
  · exact absurd (zb_f c1) (by rw [hw]; decide)
set_option maxHeartbeats 1000000 in
set_option maxRecDepth 100000 in
theorem c_X5_foresee_7 (l : Launch) (D : va_G) (y : Nat → ClassId) (Y Z Z2 : Nat → Nat) (th : Int32) (t : Nat → Int32) (c : Nat) (q b : Fld) (bc n : Nat) (ar fi rn : Int32) (T : Nst) (mm : Nat) (hw : inB 1 (nI mm) 56 = true) (hn : n + mm < 2147483648) (hc : c ≤ 6) (hbc : bc ≤ 5) (sz : Nat) : zMN l yX5_foresee wsX5_foresee { frames := 6, cells := 1, slots := 10, locals := 132 } D y [.ref (Y 0), .int (nI mm), .int 7] (zW Y Z Z2 y th t c q b bc n ar fi rn T) sz (some (.int (cntF t (nightsM t c mm (q, wasB b, bc, n, ar, fi, rn)).1 c (nightsM t c mm (q, wasB b, bc, n, ar, fi, rn)).2.2.1 (nightsM t c mm (q, wasB b, bc, n, ar, fi, rn)).2.2.2.1 (nightsM t c mm (q, wasB b, bc, n, ar, fi, rn)).2.2.2.2.1 (nightsM t c mm (q, wasB b, bc, n, ar, fi, rn)).2.2.2.2.2.1 (nightsM t c mm (q, wasB b, bc, n, ar, fi, rn)).2.2.2.2.2.2 7))) (zW Y Z Z2 y 0 t c q b bc n ar fi rn (nightsM t c mm (q, wasB b, bc, n, ar, fi, rn))) 1 10 := by
  refine zMN.of (cc := cX5_foresee) (maxL := 3) (ret := (some .int)) (own := RX5) (by decide) rfl (Nat.le_of_ble_eq_true rfl) rfl ?_
  intro p e s m args below meth cd ls A H locs hx hb hr hml hown hts hlocks hP hK hD hA hS hN hl hin
  have hS0 := hS
  have hl : lv_has ls 3 [(0, .ref (Y 0)), (1, .int (nI mm)), (2, .int 7)] := hl
  have hf31 : (Cond.fieldLink RX5 31 "StakeWeirsModel" "thrown" "I").before args s = true := hts _ (by decide +kernel)
  have hinX5 : ∀ w ∈ wsX50, w ∈ wsX5_foresee := by decide +kernel
  have hf28 : (Cond.fieldLink RX5 28 "StakeWeirsModel" "ahead" "LStakeWeirsModel$State;").before args s = true := hts _ (by decide +kernel)
  have hf24 : (Cond.fieldLink RX5 24 "StakeWeirsModel" "s" "LStakeWeirsModel$State;").before args s = true := hts _ (by decide +kernel)
  refine lv_aload_n hx hb dX5_foresee_0 rfl (lv_at hl 0 rfl) ?_
  refine lv_iconst (v := 0) hx hb dX5_foresee_1 (by decide) ?_
  refine va_put (D := D) (ci := 5) (v := .int 0) (ty := .int) (C := RX5) (T := TX5) (N := 7) hx hb hts hinX5 tyX5 tyX5_ok nmX5 hown hK hP hD hS (0) rfl rfl 0 (by decide) hf31 (fun _ h9 => h9) rfl (by decide +kernel) rfl rfl (Nat.le_of_ble_eq_true rfl) dX5_foresee_2 (fun H locs hP hD hS => ?_)
  have hP : va_P D vwCl (zW Y Z Z2 y 0 t c q b bc n ar fi rn T) H := hP
  have hD : va_D A (zW Y Z Z2 y 0 t c q b bc n ar fi rn T) := hD
  refine lv_iload_n hx hb dX5_foresee_5 rfl (lv_at hl 1 rfl) ?_
  refine lv_iconst (v := 1) hx hb dX5_foresee_6 (by decide) ?_
  refine lv_bipush (v := 56) hx hb dX5_foresee_7 (by decide) ?_
  refine zcRS (As := [.int (nI mm), .int 1, .int 56]) (rest := []) (st1 := [.int (zb (inB 1 (nI mm) 56))]) ⟨hx, hb, hml, hown, hts⟩ (c_X5_isIn l D y (nI mm) 1 56) (cwS 3 hts gX5_foresee_X5_isIn rfl rfl rfl (by decide +kernel) ⟨Nat.le_of_ble_eq_true rfl, Nat.le_of_ble_eq_true rfl⟩) hK va_P_nil rfl hl.1 rfl (lv_room (Nat.le_of_ble_eq_true rfl)) dX5_foresee_9 ⟨Nat.le_of_ble_eq_true rfl, Nat.le_of_ble_eq_true rfl⟩ rfl ?_
  refine lv_if_ne (tgt := 21) hx hb dX5_foresee_12 (by decide) (fun c1 => ?_) (fun c1 => ?_)
  · have c1 := c1
    refine lv_iload_n hx hb dX5_foresee_21 rfl (lv_at hl 2 rfl) ?_
    refine lv_iconst (v := 4) hx hb dX5_foresee_22 (by decide) ?_
    refine lv_icmp_eq (tgt := 43) hx hb dX5_foresee_23 (by decide) (fun c2 => ?_) (fun c2 => ?_)
    · exact absurd c2 (by decide)
    · have d2 := c2
      refine lv_iload_n hx hb dX5_foresee_26 rfl (lv_at hl 2 rfl) ?_
      refine lv_bipush (v := 6) hx hb dX5_foresee_27 (by decide) ?_
      refine lv_bipush (v := 9) hx hb dX5_foresee_29 (by decide) ?_
      refine zcRS (As := [.int 7, .int 6, .int 9]) (rest := []) (st1 := [.int (zb (inB 6 7 9))]) ⟨hx, hb, hml, hown, hts⟩ (c_X5_isIn l D y 7 6 9) (cwS 3 hts gX5_foresee_X5_isIn rfl rfl rfl (by decide +kernel) ⟨Nat.le_of_ble_eq_true rfl, Nat.le_of_ble_eq_true rfl⟩) hK va_P_nil rfl hl.1 rfl (lv_room (Nat.le_of_ble_eq_true rfl)) dX5_foresee_31 ⟨Nat.le_of_ble_eq_true rfl, Nat.le_of_ble_eq_true rfl⟩ rfl ?_
      refine lv_if_ne (tgt := 43) hx hb dX5_foresee_34 (by decide) (fun c3 => ?_) (fun c3 => ?_)
      · have c3 := c3
        refine lv_aload_n hx hb dX5_foresee_43 rfl (lv_at hl 0 rfl) ?_
        refine va_get (D := D) (ci := 5) (v := .ref (Z2 0)) (C := RX5) (T := TX5) (N := 7) hx hb hts hinX5 hown hK hP (0) rfl rfl 6 (by decide) hf28 (fun _ h9 => h9) rfl dX5_foresee_44 ?_
        refine lv_aload_n hx hb dX5_foresee_47 rfl (lv_at hl 0 rfl) ?_
        refine va_get (D := D) (ci := 5) (v := .ref (Z 0)) (C := RX5) (T := TX5) (N := 7) hx hb hts hinX5 hown hK hP (0) rfl rfl 5 (by decide) hf24 (fun _ h9 => h9) rfl dX5_foresee_48 ?_
        refine zcMV (As := [.ref (Z 0)]) (rest := []) (st1 := [.ref (Z2 0)]) (cells1 := 0) (slots1 := 0) ⟨hx, hb, hml, hown, hts⟩ (c_X4_become l D y (Y 0) Z2 Z T.1 T.2.1 T.2.2.1 T.2.2.2.1 T.2.2.2.2.1 T.2.2.2.2.2.1 T.2.2.2.2.2.2 q b bc n ar fi rn _) (cwV 1 hts gX5_foresee_X4_become rfl rfl rfl (by decide +kernel) ⟨Nat.le_of_ble_eq_true rfl, Nat.le_of_ble_eq_true rfl⟩) hK (z_sub_P hP (fun z h => List.mem_append_right _ ((List.mem_append.mp h).elim (fun h => List.mem_append_right _ h) (fun h => List.mem_append_left _ h)))) (z_D_s (l1 := (oW Y (Z 0) (Z2 0) y 0 t c (q 0) (q 3))) hD) (ci := 4) (q0 := 0) rfl rfl rfl rfl hl.1 rfl (lv_room (Nat.le_of_ble_eq_true rfl)) dX5_foresee_51 hS (z_sub_F hD hS hA (fun z h => List.mem_append_right _ ((List.mem_append.mp h).elim (fun h => List.mem_append_right _ h) (fun h => List.mem_append_left _ h)))) ⟨Nat.le_of_ble_eq_true rfl, Nat.le_of_ble_eq_true rfl⟩ rfl rfl rfl (fun H locs hP1 hz hfr hS => ?_)
        obtain ⟨hP, hD⟩ := z_segS (ws1 := zW Y Z Z2 y 0 t c q b bc n ar fi rn (q, wasB b, bc, n, ar, fi, rn)) (l1 := (oW Y (Z 0) (Z2 0) y 0 t c (q 0) (q 3))) (a := (stW Z (Y 0) y q b bc n ar fi rn)) (b := (stW Z2 (Y 0) y T.1 T.2.1 T.2.2.1 T.2.2.2.1 T.2.2.2.2.1 T.2.2.2.2.2.1 T.2.2.2.2.2.2)) (b1 := (stW Z2 (Y 0) y q (wasB b) bc n ar fi rn)) hP hD rfl rfl rfl hP1 hfr
        have hq0 : (q, wasB b, bc, n, ar, fi, rn).1 0 = q 0 := rfl
        have hq3 : (q, wasB b, bc, n, ar, fi, rn).1 3 = q 3 := rfl
        have hTb : (q, wasB b, bc, n, ar, fi, rn).2.2.1 = bc := rfl
        have hTn : (q, wasB b, bc, n, ar, fi, rn).2.2.2.1 = n := rfl
        refine lv_iload_n hx hb dX5_foresee_54 rfl (lv_at hl 1 rfl) ?_
        refine zcNMV (As := [.int (nI mm)]) (rest := []) (st1 := []) (cells1 := 0) (slots1 := 0) ⟨hx, hb, hml, hown, hts⟩ (c_X4_pass_ l D y Y Z2 (Z 0) (Z2 0) 0 t c ((q, wasB b, bc, n, ar, fi, rn).1) ((q, wasB b, bc, n, ar, fi, rn).2.1) ((q, wasB b, bc, n, ar, fi, rn).2.2.1) ((q, wasB b, bc, n, ar, fi, rn).2.2.2.1) ((q, wasB b, bc, n, ar, fi, rn).2.2.2.2.1) ((q, wasB b, bc, n, ar, fi, rn).2.2.2.2.2.1) ((q, wasB b, bc, n, ar, fi, rn).2.2.2.2.2.2) mm (by omega) (by omega) (by omega) _) (cwV 1 hts gX5_foresee_X4_pass_ rfl rfl rfl (by decide +kernel) ⟨Nat.le_of_ble_eq_true rfl, Nat.le_of_ble_eq_true rfl⟩) hN hK (zz_aP hq0 hq3 hP) (zz_aD hq0 hq3 hD) (ci := 4) (q0 := 4) rfl rfl rfl rfl hl.1 rfl (lv_room (Nat.le_of_ble_eq_true rfl)) dX5_foresee_55 hS (zz_aF hq0 hq3 hD hS hA) ⟨Nat.le_of_ble_eq_true rfl, Nat.le_of_ble_eq_true rfl⟩ rfl rfl rfl (fun H locs hP1 hz hfr hS => ?_)
        obtain ⟨hP, hD⟩ := zz_aB (T1 := (nightsM t c mm (q, wasB b, bc, n, ar, fi, rn))) hP hD hq0 hq3 ((nightsM_q0 _ _ _ _).1.trans hq0) ((nightsM_q0 _ _ _ _).2.trans hq3) hP1 hfr
        have hP : va_P D vwCl (zW Y Z Z2 y 0 t c q b bc n ar fi rn (nightsM t c mm (q, wasB b, bc, n, ar, fi, rn))) H := hP
        have hD : va_D A (zW Y Z Z2 y 0 t c q b bc n ar fi rn (nightsM t c mm (q, wasB b, bc, n, ar, fi, rn))) := hD
        have hq0 : (nightsM t c mm (q, wasB b, bc, n, ar, fi, rn)).1 0 = q 0 := ((nightsM_q0 _ _ _ _).1.trans hq0)
        have hq3 : (nightsM t c mm (q, wasB b, bc, n, ar, fi, rn)).1 3 = q 3 := ((nightsM_q0 _ _ _ _).2.trans hq3)
        have hTn2 : (nightsM t c mm (q, wasB b, bc, n, ar, fi, rn)).2.2.2.1 = n + mm := nightsM_n t c mm (q, wasB b, bc, n, ar, fi, rn)
        refine lv_aload_n hx hb dX5_foresee_58 rfl (lv_at hl 0 rfl) ?_
        refine va_get (D := D) (ci := 5) (v := .ref (Z2 0)) (C := RX5) (T := TX5) (N := 7) hx hb hts hinX5 hown hK hP (0) rfl rfl 6 (by decide) hf28 (fun _ h9 => h9) rfl dX5_foresee_59 ?_
        refine lv_iload_n hx hb dX5_foresee_62 rfl (lv_at hl 2 rfl) ?_
        refine zcNMV (As := [.int 7]) (rest := []) (st1 := [.int ((cntF t ((nightsM t c mm (q, wasB b, bc, n, ar, fi, rn)).1) c ((nightsM t c mm (q, wasB b, bc, n, ar, fi, rn)).2.2.1) ((nightsM t c mm (q, wasB b, bc, n, ar, fi, rn)).2.2.2.1) ((nightsM t c mm (q, wasB b, bc, n, ar, fi, rn)).2.2.2.2.1) ((nightsM t c mm (q, wasB b, bc, n, ar, fi, rn)).2.2.2.2.2.1) ((nightsM t c mm (q, wasB b, bc, n, ar, fi, rn)).2.2.2.2.2.2) 7))]) (cells1 := 1) (slots1 := 10) ⟨hx, hb, hml, hown, hts⟩ (c_X4_counted l D y Y Z2 (Z 0) (Z2 0) 0 t c ((nightsM t c mm (q, wasB b, bc, n, ar, fi, rn)).1) ((nightsM t c mm (q, wasB b, bc, n, ar, fi, rn)).2.1) ((nightsM t c mm (q, wasB b, bc, n, ar, fi, rn)).2.2.1) ((nightsM t c mm (q, wasB b, bc, n, ar, fi, rn)).2.2.2.1) ((nightsM t c mm (q, wasB b, bc, n, ar, fi, rn)).2.2.2.2.1) ((nightsM t c mm (q, wasB b, bc, n, ar, fi, rn)).2.2.2.2.2.1) ((nightsM t c mm (q, wasB b, bc, n, ar, fi, rn)).2.2.2.2.2.2) 7 (by omega) (by omega) (by omega) _) (cwV 1 hts gX5_foresee_X4_counted rfl rfl rfl (by decide +kernel) ⟨Nat.le_of_ble_eq_true rfl, Nat.le_of_ble_eq_true rfl⟩) hN hK (zz_aP hq0 hq3 hP) (zz_aD hq0 hq3 hD) (ci := 4) (q0 := 4) rfl rfl rfl rfl hl.1 rfl (lv_room (Nat.le_of_ble_eq_true rfl)) dX5_foresee_63 hS (zz_aF hq0 hq3 hD hS hA) ⟨Nat.le_of_ble_eq_true rfl, Nat.le_of_ble_eq_true rfl⟩ rfl rfl rfl (fun H locs hP1 hz hfr hS => ?_)
        obtain ⟨hP, hD⟩ := zz_aB (T1 := (nightsM t c mm (q, wasB b, bc, n, ar, fi, rn))) hP hD hq0 hq3 hq0 hq3 hP1 hfr
        have hP : va_P D vwCl (zW Y Z Z2 y 0 t c q b bc n ar fi rn (nightsM t c mm (q, wasB b, bc, n, ar, fi, rn))) H := hP
        have hD : va_D A (zW Y Z Z2 y 0 t c q b bc n ar fi rn (nightsM t c mm (q, wasB b, bc, n, ar, fi, rn))) := hD
        have hq0 : (nightsM t c mm (q, wasB b, bc, n, ar, fi, rn)).1 0 = q 0 := hq0
        have hq3 : (nightsM t c mm (q, wasB b, bc, n, ar, fi, rn)).1 3 = q 3 := hq3
        exact zM_i hx hb hr hlocks hS dX5_foresee_66 rfl hP
      · exact absurd (zb_f c3) (by rw [(show inB 6 7 9 = true from by decide)]; decide)
  · exact absurd (zb_f c1) (by rw [hw]; decide)
set_option maxHeartbeats 1000000 in
set_option maxRecDepth 100000 in
theorem c_X5_foresee_8 (l : Launch) (D : va_G) (y : Nat → ClassId) (Y Z Z2 : Nat → Nat) (th : Int32) (t : Nat → Int32) (c : Nat) (q b : Fld) (bc n : Nat) (ar fi rn : Int32) (T : Nst) (mm : Nat) (hw : inB 1 (nI mm) 56 = true) (hn : n + mm < 2147483648) (hc : c ≤ 6) (hbc : bc ≤ 5) (sz : Nat) : zMN l yX5_foresee wsX5_foresee { frames := 6, cells := 1, slots := 10, locals := 132 } D y [.ref (Y 0), .int (nI mm), .int 8] (zW Y Z Z2 y th t c q b bc n ar fi rn T) sz (some (.int (cntF t (nightsM t c mm (q, wasB b, bc, n, ar, fi, rn)).1 c (nightsM t c mm (q, wasB b, bc, n, ar, fi, rn)).2.2.1 (nightsM t c mm (q, wasB b, bc, n, ar, fi, rn)).2.2.2.1 (nightsM t c mm (q, wasB b, bc, n, ar, fi, rn)).2.2.2.2.1 (nightsM t c mm (q, wasB b, bc, n, ar, fi, rn)).2.2.2.2.2.1 (nightsM t c mm (q, wasB b, bc, n, ar, fi, rn)).2.2.2.2.2.2 8))) (zW Y Z Z2 y 0 t c q b bc n ar fi rn (nightsM t c mm (q, wasB b, bc, n, ar, fi, rn))) 1 10 := by
  refine zMN.of (cc := cX5_foresee) (maxL := 3) (ret := (some .int)) (own := RX5) (by decide) rfl (Nat.le_of_ble_eq_true rfl) rfl ?_
  intro p e s m args below meth cd ls A H locs hx hb hr hml hown hts hlocks hP hK hD hA hS hN hl hin
  have hS0 := hS
  have hl : lv_has ls 3 [(0, .ref (Y 0)), (1, .int (nI mm)), (2, .int 8)] := hl
  have hf31 : (Cond.fieldLink RX5 31 "StakeWeirsModel" "thrown" "I").before args s = true := hts _ (by decide +kernel)
  have hinX5 : ∀ w ∈ wsX50, w ∈ wsX5_foresee := by decide +kernel
  have hf28 : (Cond.fieldLink RX5 28 "StakeWeirsModel" "ahead" "LStakeWeirsModel$State;").before args s = true := hts _ (by decide +kernel)
  have hf24 : (Cond.fieldLink RX5 24 "StakeWeirsModel" "s" "LStakeWeirsModel$State;").before args s = true := hts _ (by decide +kernel)
  refine lv_aload_n hx hb dX5_foresee_0 rfl (lv_at hl 0 rfl) ?_
  refine lv_iconst (v := 0) hx hb dX5_foresee_1 (by decide) ?_
  refine va_put (D := D) (ci := 5) (v := .int 0) (ty := .int) (C := RX5) (T := TX5) (N := 7) hx hb hts hinX5 tyX5 tyX5_ok nmX5 hown hK hP hD hS (0) rfl rfl 0 (by decide) hf31 (fun _ h9 => h9) rfl (by decide +kernel) rfl rfl (Nat.le_of_ble_eq_true rfl) dX5_foresee_2 (fun H locs hP hD hS => ?_)
  have hP : va_P D vwCl (zW Y Z Z2 y 0 t c q b bc n ar fi rn T) H := hP
  have hD : va_D A (zW Y Z Z2 y 0 t c q b bc n ar fi rn T) := hD
  refine lv_iload_n hx hb dX5_foresee_5 rfl (lv_at hl 1 rfl) ?_
  refine lv_iconst (v := 1) hx hb dX5_foresee_6 (by decide) ?_
  refine lv_bipush (v := 56) hx hb dX5_foresee_7 (by decide) ?_
  refine zcRS (As := [.int (nI mm), .int 1, .int 56]) (rest := []) (st1 := [.int (zb (inB 1 (nI mm) 56))]) ⟨hx, hb, hml, hown, hts⟩ (c_X5_isIn l D y (nI mm) 1 56) (cwS 3 hts gX5_foresee_X5_isIn rfl rfl rfl (by decide +kernel) ⟨Nat.le_of_ble_eq_true rfl, Nat.le_of_ble_eq_true rfl⟩) hK va_P_nil rfl hl.1 rfl (lv_room (Nat.le_of_ble_eq_true rfl)) dX5_foresee_9 ⟨Nat.le_of_ble_eq_true rfl, Nat.le_of_ble_eq_true rfl⟩ rfl ?_
  refine lv_if_ne (tgt := 21) hx hb dX5_foresee_12 (by decide) (fun c1 => ?_) (fun c1 => ?_)
  · have c1 := c1
    refine lv_iload_n hx hb dX5_foresee_21 rfl (lv_at hl 2 rfl) ?_
    refine lv_iconst (v := 4) hx hb dX5_foresee_22 (by decide) ?_
    refine lv_icmp_eq (tgt := 43) hx hb dX5_foresee_23 (by decide) (fun c2 => ?_) (fun c2 => ?_)
    · exact absurd c2 (by decide)
    · have d2 := c2
      refine lv_iload_n hx hb dX5_foresee_26 rfl (lv_at hl 2 rfl) ?_
      refine lv_bipush (v := 6) hx hb dX5_foresee_27 (by decide) ?_
      refine lv_bipush (v := 9) hx hb dX5_foresee_29 (by decide) ?_
      refine zcRS (As := [.int 8, .int 6, .int 9]) (rest := []) (st1 := [.int (zb (inB 6 8 9))]) ⟨hx, hb, hml, hown, hts⟩ (c_X5_isIn l D y 8 6 9) (cwS 3 hts gX5_foresee_X5_isIn rfl rfl rfl (by decide +kernel) ⟨Nat.le_of_ble_eq_true rfl, Nat.le_of_ble_eq_true rfl⟩) hK va_P_nil rfl hl.1 rfl (lv_room (Nat.le_of_ble_eq_true rfl)) dX5_foresee_31 ⟨Nat.le_of_ble_eq_true rfl, Nat.le_of_ble_eq_true rfl⟩ rfl ?_
      refine lv_if_ne (tgt := 43) hx hb dX5_foresee_34 (by decide) (fun c3 => ?_) (fun c3 => ?_)
      · have c3 := c3
        refine lv_aload_n hx hb dX5_foresee_43 rfl (lv_at hl 0 rfl) ?_
        refine va_get (D := D) (ci := 5) (v := .ref (Z2 0)) (C := RX5) (T := TX5) (N := 7) hx hb hts hinX5 hown hK hP (0) rfl rfl 6 (by decide) hf28 (fun _ h9 => h9) rfl dX5_foresee_44 ?_
        refine lv_aload_n hx hb dX5_foresee_47 rfl (lv_at hl 0 rfl) ?_
        refine va_get (D := D) (ci := 5) (v := .ref (Z 0)) (C := RX5) (T := TX5) (N := 7) hx hb hts hinX5 hown hK hP (0) rfl rfl 5 (by decide) hf24 (fun _ h9 => h9) rfl dX5_foresee_48 ?_
        refine zcMV (As := [.ref (Z 0)]) (rest := []) (st1 := [.ref (Z2 0)]) (cells1 := 0) (slots1 := 0) ⟨hx, hb, hml, hown, hts⟩ (c_X4_become l D y (Y 0) Z2 Z T.1 T.2.1 T.2.2.1 T.2.2.2.1 T.2.2.2.2.1 T.2.2.2.2.2.1 T.2.2.2.2.2.2 q b bc n ar fi rn _) (cwV 1 hts gX5_foresee_X4_become rfl rfl rfl (by decide +kernel) ⟨Nat.le_of_ble_eq_true rfl, Nat.le_of_ble_eq_true rfl⟩) hK (z_sub_P hP (fun z h => List.mem_append_right _ ((List.mem_append.mp h).elim (fun h => List.mem_append_right _ h) (fun h => List.mem_append_left _ h)))) (z_D_s (l1 := (oW Y (Z 0) (Z2 0) y 0 t c (q 0) (q 3))) hD) (ci := 4) (q0 := 0) rfl rfl rfl rfl hl.1 rfl (lv_room (Nat.le_of_ble_eq_true rfl)) dX5_foresee_51 hS (z_sub_F hD hS hA (fun z h => List.mem_append_right _ ((List.mem_append.mp h).elim (fun h => List.mem_append_right _ h) (fun h => List.mem_append_left _ h)))) ⟨Nat.le_of_ble_eq_true rfl, Nat.le_of_ble_eq_true rfl⟩ rfl rfl rfl (fun H locs hP1 hz hfr hS => ?_)
        obtain ⟨hP, hD⟩ := z_segS (ws1 := zW Y Z Z2 y 0 t c q b bc n ar fi rn (q, wasB b, bc, n, ar, fi, rn)) (l1 := (oW Y (Z 0) (Z2 0) y 0 t c (q 0) (q 3))) (a := (stW Z (Y 0) y q b bc n ar fi rn)) (b := (stW Z2 (Y 0) y T.1 T.2.1 T.2.2.1 T.2.2.2.1 T.2.2.2.2.1 T.2.2.2.2.2.1 T.2.2.2.2.2.2)) (b1 := (stW Z2 (Y 0) y q (wasB b) bc n ar fi rn)) hP hD rfl rfl rfl hP1 hfr
        have hq0 : (q, wasB b, bc, n, ar, fi, rn).1 0 = q 0 := rfl
        have hq3 : (q, wasB b, bc, n, ar, fi, rn).1 3 = q 3 := rfl
        have hTb : (q, wasB b, bc, n, ar, fi, rn).2.2.1 = bc := rfl
        have hTn : (q, wasB b, bc, n, ar, fi, rn).2.2.2.1 = n := rfl
        refine lv_iload_n hx hb dX5_foresee_54 rfl (lv_at hl 1 rfl) ?_
        refine zcNMV (As := [.int (nI mm)]) (rest := []) (st1 := []) (cells1 := 0) (slots1 := 0) ⟨hx, hb, hml, hown, hts⟩ (c_X4_pass_ l D y Y Z2 (Z 0) (Z2 0) 0 t c ((q, wasB b, bc, n, ar, fi, rn).1) ((q, wasB b, bc, n, ar, fi, rn).2.1) ((q, wasB b, bc, n, ar, fi, rn).2.2.1) ((q, wasB b, bc, n, ar, fi, rn).2.2.2.1) ((q, wasB b, bc, n, ar, fi, rn).2.2.2.2.1) ((q, wasB b, bc, n, ar, fi, rn).2.2.2.2.2.1) ((q, wasB b, bc, n, ar, fi, rn).2.2.2.2.2.2) mm (by omega) (by omega) (by omega) _) (cwV 1 hts gX5_foresee_X4_pass_ rfl rfl rfl (by decide +kernel) ⟨Nat.le_of_ble_eq_true rfl, Nat.le_of_ble_eq_true rfl⟩) hN hK (zz_aP hq0 hq3 hP) (zz_aD hq0 hq3 hD) (ci := 4) (q0 := 4) rfl rfl rfl rfl hl.1 rfl (lv_room (Nat.le_of_ble_eq_true rfl)) dX5_foresee_55 hS (zz_aF hq0 hq3 hD hS hA) ⟨Nat.le_of_ble_eq_true rfl, Nat.le_of_ble_eq_true rfl⟩ rfl rfl rfl (fun H locs hP1 hz hfr hS => ?_)
        obtain ⟨hP, hD⟩ := zz_aB (T1 := (nightsM t c mm (q, wasB b, bc, n, ar, fi, rn))) hP hD hq0 hq3 ((nightsM_q0 _ _ _ _).1.trans hq0) ((nightsM_q0 _ _ _ _).2.trans hq3) hP1 hfr
        have hP : va_P D vwCl (zW Y Z Z2 y 0 t c q b bc n ar fi rn (nightsM t c mm (q, wasB b, bc, n, ar, fi, rn))) H := hP
        have hD : va_D A (zW Y Z Z2 y 0 t c q b bc n ar fi rn (nightsM t c mm (q, wasB b, bc, n, ar, fi, rn))) := hD
        have hq0 : (nightsM t c mm (q, wasB b, bc, n, ar, fi, rn)).1 0 = q 0 := ((nightsM_q0 _ _ _ _).1.trans hq0)
        have hq3 : (nightsM t c mm (q, wasB b, bc, n, ar, fi, rn)).1 3 = q 3 := ((nightsM_q0 _ _ _ _).2.trans hq3)
        have hTn2 : (nightsM t c mm (q, wasB b, bc, n, ar, fi, rn)).2.2.2.1 = n + mm := nightsM_n t c mm (q, wasB b, bc, n, ar, fi, rn)
        refine lv_aload_n hx hb dX5_foresee_58 rfl (lv_at hl 0 rfl) ?_
        refine va_get (D := D) (ci := 5) (v := .ref (Z2 0)) (C := RX5) (T := TX5) (N := 7) hx hb hts hinX5 hown hK hP (0) rfl rfl 6 (by decide) hf28 (fun _ h9 => h9) rfl dX5_foresee_59 ?_
        refine lv_iload_n hx hb dX5_foresee_62 rfl (lv_at hl 2 rfl) ?_
        refine zcNMV (As := [.int 8]) (rest := []) (st1 := [.int ((cntF t ((nightsM t c mm (q, wasB b, bc, n, ar, fi, rn)).1) c ((nightsM t c mm (q, wasB b, bc, n, ar, fi, rn)).2.2.1) ((nightsM t c mm (q, wasB b, bc, n, ar, fi, rn)).2.2.2.1) ((nightsM t c mm (q, wasB b, bc, n, ar, fi, rn)).2.2.2.2.1) ((nightsM t c mm (q, wasB b, bc, n, ar, fi, rn)).2.2.2.2.2.1) ((nightsM t c mm (q, wasB b, bc, n, ar, fi, rn)).2.2.2.2.2.2) 8))]) (cells1 := 1) (slots1 := 10) ⟨hx, hb, hml, hown, hts⟩ (c_X4_counted l D y Y Z2 (Z 0) (Z2 0) 0 t c ((nightsM t c mm (q, wasB b, bc, n, ar, fi, rn)).1) ((nightsM t c mm (q, wasB b, bc, n, ar, fi, rn)).2.1) ((nightsM t c mm (q, wasB b, bc, n, ar, fi, rn)).2.2.1) ((nightsM t c mm (q, wasB b, bc, n, ar, fi, rn)).2.2.2.1) ((nightsM t c mm (q, wasB b, bc, n, ar, fi, rn)).2.2.2.2.1) ((nightsM t c mm (q, wasB b, bc, n, ar, fi, rn)).2.2.2.2.2.1) ((nightsM t c mm (q, wasB b, bc, n, ar, fi, rn)).2.2.2.2.2.2) 8 (by omega) (by omega) (by omega) _) (cwV 1 hts gX5_foresee_X4_counted rfl rfl rfl (by decide +kernel) ⟨Nat.le_of_ble_eq_true rfl, Nat.le_of_ble_eq_true rfl⟩) hN hK (zz_aP hq0 hq3 hP) (zz_aD hq0 hq3 hD) (ci := 4) (q0 := 4) rfl rfl rfl rfl hl.1 rfl (lv_room (Nat.le_of_ble_eq_true rfl)) dX5_foresee_63 hS (zz_aF hq0 hq3 hD hS hA) ⟨Nat.le_of_ble_eq_true rfl, Nat.le_of_ble_eq_true rfl⟩ rfl rfl rfl (fun H locs hP1 hz hfr hS => ?_)
        obtain ⟨hP, hD⟩ := zz_aB (T1 := (nightsM t c mm (q, wasB b, bc, n, ar, fi, rn))) hP hD hq0 hq3 hq0 hq3 hP1 hfr
        have hP : va_P D vwCl (zW Y Z Z2 y 0 t c q b bc n ar fi rn (nightsM t c mm (q, wasB b, bc, n, ar, fi, rn))) H := hP
        have hD : va_D A (zW Y Z Z2 y 0 t c q b bc n ar fi rn (nightsM t c mm (q, wasB b, bc, n, ar, fi, rn))) := hD
        have hq0 : (nightsM t c mm (q, wasB b, bc, n, ar, fi, rn)).1 0 = q 0 := hq0
        have hq3 : (nightsM t c mm (q, wasB b, bc, n, ar, fi, rn)).1 3 = q 3 := hq3
        exact zM_i hx hb hr hlocks hS dX5_foresee_66 rfl hP
      · exact absurd (zb_f c3) (by rw [(show inB 6 8 9 = true from by decide)]; decide)
  · exact absurd (zb_f c1) (by rw [hw]; decide)
set_option maxHeartbeats 1000000 in
set_option maxRecDepth 100000 in
theorem c_X5_foresee_9 (l : Launch) (D : va_G) (y : Nat → ClassId) (Y Z Z2 : Nat → Nat) (th : Int32) (t : Nat → Int32) (c : Nat) (q b : Fld) (bc n : Nat) (ar fi rn : Int32) (T : Nst) (mm : Nat) (hw : inB 1 (nI mm) 56 = true) (hn : n + mm < 2147483648) (hc : c ≤ 6) (hbc : bc ≤ 5) (sz : Nat) : zMN l yX5_foresee wsX5_foresee { frames := 6, cells := 1, slots := 10, locals := 132 } D y [.ref (Y 0), .int (nI mm), .int 9] (zW Y Z Z2 y th t c q b bc n ar fi rn T) sz (some (.int (cntF t (nightsM t c mm (q, wasB b, bc, n, ar, fi, rn)).1 c (nightsM t c mm (q, wasB b, bc, n, ar, fi, rn)).2.2.1 (nightsM t c mm (q, wasB b, bc, n, ar, fi, rn)).2.2.2.1 (nightsM t c mm (q, wasB b, bc, n, ar, fi, rn)).2.2.2.2.1 (nightsM t c mm (q, wasB b, bc, n, ar, fi, rn)).2.2.2.2.2.1 (nightsM t c mm (q, wasB b, bc, n, ar, fi, rn)).2.2.2.2.2.2 9))) (zW Y Z Z2 y 0 t c q b bc n ar fi rn (nightsM t c mm (q, wasB b, bc, n, ar, fi, rn))) 1 10 := by
  refine zMN.of (cc := cX5_foresee) (maxL := 3) (ret := (some .int)) (own := RX5) (by decide) rfl (Nat.le_of_ble_eq_true rfl) rfl ?_
  intro p e s m args below meth cd ls A H locs hx hb hr hml hown hts hlocks hP hK hD hA hS hN hl hin
  have hS0 := hS
  have hl : lv_has ls 3 [(0, .ref (Y 0)), (1, .int (nI mm)), (2, .int 9)] := hl
  have hf31 : (Cond.fieldLink RX5 31 "StakeWeirsModel" "thrown" "I").before args s = true := hts _ (by decide +kernel)
  have hinX5 : ∀ w ∈ wsX50, w ∈ wsX5_foresee := by decide +kernel
  have hf28 : (Cond.fieldLink RX5 28 "StakeWeirsModel" "ahead" "LStakeWeirsModel$State;").before args s = true := hts _ (by decide +kernel)
  have hf24 : (Cond.fieldLink RX5 24 "StakeWeirsModel" "s" "LStakeWeirsModel$State;").before args s = true := hts _ (by decide +kernel)
  refine lv_aload_n hx hb dX5_foresee_0 rfl (lv_at hl 0 rfl) ?_
  refine lv_iconst (v := 0) hx hb dX5_foresee_1 (by decide) ?_
  refine va_put (D := D) (ci := 5) (v := .int 0) (ty := .int) (C := RX5) (T := TX5) (N := 7) hx hb hts hinX5 tyX5 tyX5_ok nmX5 hown hK hP hD hS (0) rfl rfl 0 (by decide) hf31 (fun _ h9 => h9) rfl (by decide +kernel) rfl rfl (Nat.le_of_ble_eq_true rfl) dX5_foresee_2 (fun H locs hP hD hS => ?_)
  have hP : va_P D vwCl (zW Y Z Z2 y 0 t c q b bc n ar fi rn T) H := hP
  have hD : va_D A (zW Y Z Z2 y 0 t c q b bc n ar fi rn T) := hD
  refine lv_iload_n hx hb dX5_foresee_5 rfl (lv_at hl 1 rfl) ?_
  refine lv_iconst (v := 1) hx hb dX5_foresee_6 (by decide) ?_
  refine lv_bipush (v := 56) hx hb dX5_foresee_7 (by decide) ?_
  refine zcRS (As := [.int (nI mm), .int 1, .int 56]) (rest := []) (st1 := [.int (zb (inB 1 (nI mm) 56))]) ⟨hx, hb, hml, hown, hts⟩ (c_X5_isIn l D y (nI mm) 1 56) (cwS 3 hts gX5_foresee_X5_isIn rfl rfl rfl (by decide +kernel) ⟨Nat.le_of_ble_eq_true rfl, Nat.le_of_ble_eq_true rfl⟩) hK va_P_nil rfl hl.1 rfl (lv_room (Nat.le_of_ble_eq_true rfl)) dX5_foresee_9 ⟨Nat.le_of_ble_eq_true rfl, Nat.le_of_ble_eq_true rfl⟩ rfl ?_
  refine lv_if_ne (tgt := 21) hx hb dX5_foresee_12 (by decide) (fun c1 => ?_) (fun c1 => ?_)
  · have c1 := c1
    refine lv_iload_n hx hb dX5_foresee_21 rfl (lv_at hl 2 rfl) ?_
    refine lv_iconst (v := 4) hx hb dX5_foresee_22 (by decide) ?_
    refine lv_icmp_eq (tgt := 43) hx hb dX5_foresee_23 (by decide) (fun c2 => ?_) (fun c2 => ?_)
    · exact absurd c2 (by decide)
    · have d2 := c2
      refine lv_iload_n hx hb dX5_foresee_26 rfl (lv_at hl 2 rfl) ?_
      refine lv_bipush (v := 6) hx hb dX5_foresee_27 (by decide) ?_
      refine lv_bipush (v := 9) hx hb dX5_foresee_29 (by decide) ?_
      refine zcRS (As := [.int 9, .int 6, .int 9]) (rest := []) (st1 := [.int (zb (inB 6 9 9))]) ⟨hx, hb, hml, hown, hts⟩ (c_X5_isIn l D y 9 6 9) (cwS 3 hts gX5_foresee_X5_isIn rfl rfl rfl (by decide +kernel) ⟨Nat.le_of_ble_eq_true rfl, Nat.le_of_ble_eq_true rfl⟩) hK va_P_nil rfl hl.1 rfl (lv_room (Nat.le_of_ble_eq_true rfl)) dX5_foresee_31 ⟨Nat.le_of_ble_eq_true rfl, Nat.le_of_ble_eq_true rfl⟩ rfl ?_
      refine lv_if_ne (tgt := 43) hx hb dX5_foresee_34 (by decide) (fun c3 => ?_) (fun c3 => ?_)
      · have c3 := c3
        refine lv_aload_n hx hb dX5_foresee_43 rfl (lv_at hl 0 rfl) ?_
        refine va_get (D := D) (ci := 5) (v := .ref (Z2 0)) (C := RX5) (T := TX5) (N := 7) hx hb hts hinX5 hown hK hP (0) rfl rfl 6 (by decide) hf28 (fun _ h9 => h9) rfl dX5_foresee_44 ?_
        refine lv_aload_n hx hb dX5_foresee_47 rfl (lv_at hl 0 rfl) ?_
        refine va_get (D := D) (ci := 5) (v := .ref (Z 0)) (C := RX5) (T := TX5) (N := 7) hx hb hts hinX5 hown hK hP (0) rfl rfl 5 (by decide) hf24 (fun _ h9 => h9) rfl dX5_foresee_48 ?_
        refine zcMV (As := [.ref (Z 0)]) (rest := []) (st1 := [.ref (Z2 0)]) (cells1 := 0) (slots1 := 0) ⟨hx, hb, hml, hown, hts⟩ (c_X4_become l D y (Y 0) Z2 Z T.1 T.2.1 T.2.2.1 T.2.2.2.1 T.2.2.2.2.1 T.2.2.2.2.2.1 T.2.2.2.2.2.2 q b bc n ar fi rn _) (cwV 1 hts gX5_foresee_X4_become rfl rfl rfl (by decide +kernel) ⟨Nat.le_of_ble_eq_true rfl, Nat.le_of_ble_eq_true rfl⟩) hK (z_sub_P hP (fun z h => List.mem_append_right _ ((List.mem_append.mp h).elim (fun h => List.mem_append_right _ h) (fun h => List.mem_append_left _ h)))) (z_D_s (l1 := (oW Y (Z 0) (Z2 0) y 0 t c (q 0) (q 3))) hD) (ci := 4) (q0 := 0) rfl rfl rfl rfl hl.1 rfl (lv_room (Nat.le_of_ble_eq_true rfl)) dX5_foresee_51 hS (z_sub_F hD hS hA (fun z h => List.mem_append_right _ ((List.mem_append.mp h).elim (fun h => List.mem_append_right _ h) (fun h => List.mem_append_left _ h)))) ⟨Nat.le_of_ble_eq_true rfl, Nat.le_of_ble_eq_true rfl⟩ rfl rfl rfl (fun H locs hP1 hz hfr hS => ?_)
        obtain ⟨hP, hD⟩ := z_segS (ws1 := zW Y Z Z2 y 0 t c q b bc n ar fi rn (q, wasB b, bc, n, ar, fi, rn)) (l1 := (oW Y (Z 0) (Z2 0) y 0 t c (q 0) (q 3))) (a := (stW Z (Y 0) y q b bc n ar fi rn)) (b := (stW Z2 (Y 0) y T.1 T.2.1 T.2.2.1 T.2.2.2.1 T.2.2.2.2.1 T.2.2.2.2.2.1 T.2.2.2.2.2.2)) (b1 := (stW Z2 (Y 0) y q (wasB b) bc n ar fi rn)) hP hD rfl rfl rfl hP1 hfr
        have hq0 : (q, wasB b, bc, n, ar, fi, rn).1 0 = q 0 := rfl
        have hq3 : (q, wasB b, bc, n, ar, fi, rn).1 3 = q 3 := rfl
        have hTb : (q, wasB b, bc, n, ar, fi, rn).2.2.1 = bc := rfl
        have hTn : (q, wasB b, bc, n, ar, fi, rn).2.2.2.1 = n := rfl
        refine lv_iload_n hx hb dX5_foresee_54 rfl (lv_at hl 1 rfl) ?_
        refine zcNMV (As := [.int (nI mm)]) (rest := []) (st1 := []) (cells1 := 0) (slots1 := 0) ⟨hx, hb, hml, hown, hts⟩ (c_X4_pass_ l D y Y Z2 (Z 0) (Z2 0) 0 t c ((q, wasB b, bc, n, ar, fi, rn).1) ((q, wasB b, bc, n, ar, fi, rn).2.1) ((q, wasB b, bc, n, ar, fi, rn).2.2.1) ((q, wasB b, bc, n, ar, fi, rn).2.2.2.1) ((q, wasB b, bc, n, ar, fi, rn).2.2.2.2.1) ((q, wasB b, bc, n, ar, fi, rn).2.2.2.2.2.1) ((q, wasB b, bc, n, ar, fi, rn).2.2.2.2.2.2) mm (by omega) (by omega) (by omega) _) (cwV 1 hts gX5_foresee_X4_pass_ rfl rfl rfl (by decide +kernel) ⟨Nat.le_of_ble_eq_true rfl, Nat.le_of_ble_eq_true rfl⟩) hN hK (zz_aP hq0 hq3 hP) (zz_aD hq0 hq3 hD) (ci := 4) (q0 := 4) rfl rfl rfl rfl hl.1 rfl (lv_room (Nat.le_of_ble_eq_true rfl)) dX5_foresee_55 hS (zz_aF hq0 hq3 hD hS hA) ⟨Nat.le_of_ble_eq_true rfl, Nat.le_of_ble_eq_true rfl⟩ rfl rfl rfl (fun H locs hP1 hz hfr hS => ?_)
        obtain ⟨hP, hD⟩ := zz_aB (T1 := (nightsM t c mm (q, wasB b, bc, n, ar, fi, rn))) hP hD hq0 hq3 ((nightsM_q0 _ _ _ _).1.trans hq0) ((nightsM_q0 _ _ _ _).2.trans hq3) hP1 hfr
        have hP : va_P D vwCl (zW Y Z Z2 y 0 t c q b bc n ar fi rn (nightsM t c mm (q, wasB b, bc, n, ar, fi, rn))) H := hP
        have hD : va_D A (zW Y Z Z2 y 0 t c q b bc n ar fi rn (nightsM t c mm (q, wasB b, bc, n, ar, fi, rn))) := hD
        have hq0 : (nightsM t c mm (q, wasB b, bc, n, ar, fi, rn)).1 0 = q 0 := ((nightsM_q0 _ _ _ _).1.trans hq0)
        have hq3 : (nightsM t c mm (q, wasB b, bc, n, ar, fi, rn)).1 3 = q 3 := ((nightsM_q0 _ _ _ _).2.trans hq3)
        have hTn2 : (nightsM t c mm (q, wasB b, bc, n, ar, fi, rn)).2.2.2.1 = n + mm := nightsM_n t c mm (q, wasB b, bc, n, ar, fi, rn)
        refine lv_aload_n hx hb dX5_foresee_58 rfl (lv_at hl 0 rfl) ?_
        refine va_get (D := D) (ci := 5) (v := .ref (Z2 0)) (C := RX5) (T := TX5) (N := 7) hx hb hts hinX5 hown hK hP (0) rfl rfl 6 (by decide) hf28 (fun _ h9 => h9) rfl dX5_foresee_59 ?_
        refine lv_iload_n hx hb dX5_foresee_62 rfl (lv_at hl 2 rfl) ?_
        refine zcNMV (As := [.int 9]) (rest := []) (st1 := [.int ((cntF t ((nightsM t c mm (q, wasB b, bc, n, ar, fi, rn)).1) c ((nightsM t c mm (q, wasB b, bc, n, ar, fi, rn)).2.2.1) ((nightsM t c mm (q, wasB b, bc, n, ar, fi, rn)).2.2.2.1) ((nightsM t c mm (q, wasB b, bc, n, ar, fi, rn)).2.2.2.2.1) ((nightsM t c mm (q, wasB b, bc, n, ar, fi, rn)).2.2.2.2.2.1) ((nightsM t c mm (q, wasB b, bc, n, ar, fi, rn)).2.2.2.2.2.2) 9))]) (cells1 := 1) (slots1 := 10) ⟨hx, hb, hml, hown, hts⟩ (c_X4_counted l D y Y Z2 (Z 0) (Z2 0) 0 t c ((nightsM t c mm (q, wasB b, bc, n, ar, fi, rn)).1) ((nightsM t c mm (q, wasB b, bc, n, ar, fi, rn)).2.1) ((nightsM t c mm (q, wasB b, bc, n, ar, fi, rn)).2.2.1) ((nightsM t c mm (q, wasB b, bc, n, ar, fi, rn)).2.2.2.1) ((nightsM t c mm (q, wasB b, bc, n, ar, fi, rn)).2.2.2.2.1) ((nightsM t c mm (q, wasB b, bc, n, ar, fi, rn)).2.2.2.2.2.1) ((nightsM t c mm (q, wasB b, bc, n, ar, fi, rn)).2.2.2.2.2.2) 9 (by omega) (by omega) (by omega) _) (cwV 1 hts gX5_foresee_X4_counted rfl rfl rfl (by decide +kernel) ⟨Nat.le_of_ble_eq_true rfl, Nat.le_of_ble_eq_true rfl⟩) hN hK (zz_aP hq0 hq3 hP) (zz_aD hq0 hq3 hD) (ci := 4) (q0 := 4) rfl rfl rfl rfl hl.1 rfl (lv_room (Nat.le_of_ble_eq_true rfl)) dX5_foresee_63 hS (zz_aF hq0 hq3 hD hS hA) ⟨Nat.le_of_ble_eq_true rfl, Nat.le_of_ble_eq_true rfl⟩ rfl rfl rfl (fun H locs hP1 hz hfr hS => ?_)
        obtain ⟨hP, hD⟩ := zz_aB (T1 := (nightsM t c mm (q, wasB b, bc, n, ar, fi, rn))) hP hD hq0 hq3 hq0 hq3 hP1 hfr
        have hP : va_P D vwCl (zW Y Z Z2 y 0 t c q b bc n ar fi rn (nightsM t c mm (q, wasB b, bc, n, ar, fi, rn))) H := hP
        have hD : va_D A (zW Y Z Z2 y 0 t c q b bc n ar fi rn (nightsM t c mm (q, wasB b, bc, n, ar, fi, rn))) := hD
        have hq0 : (nightsM t c mm (q, wasB b, bc, n, ar, fi, rn)).1 0 = q 0 := hq0
        have hq3 : (nightsM t c mm (q, wasB b, bc, n, ar, fi, rn)).1 3 = q 3 := hq3
        exact zM_i hx hb hr hlocks hS dX5_foresee_66 rfl hP
      · exact absurd (zb_f c3) (by rw [(show inB 6 9 9 = true from by decide)]; decide)
  · exact absurd (zb_f c1) (by rw [hw]; decide)
set_option maxHeartbeats 1000000 in
set_option maxRecDepth 100000 in
theorem c_X5_foresee_N1 (l : Launch) (D : va_G) (y : Nat → ClassId) (Y Z Z2 : Nat → Nat) (th : Int32) (t : Nat → Int32) (c : Nat) (q b : Fld) (bc n : Nat) (ar fi rn : Int32) (T : Nst) (x z : Int32) (hw : inB 1 x 56 = false) (sz : Nat) : zMN l yX5_foresee wsX5_foresee { frames := 1, cells := 0, slots := 0, locals := 22 } D y [.ref (Y 0), .int x, .int z] (zW Y Z Z2 y th t c q b bc n ar fi rn T) sz (some (.int 0)) (zW Y Z Z2 y 1 t c q b bc n ar fi rn T) 0 0 := by
  refine zMN.of (cc := cX5_foresee) (maxL := 3) (ret := (some .int)) (own := RX5) (by decide) rfl (Nat.le_of_ble_eq_true rfl) rfl ?_
  intro p e s m args below meth cd ls A H locs hx hb hr hml hown hts hlocks hP hK hD hA hS hN hl hin
  have hS0 := hS
  have hl : lv_has ls 3 [(0, .ref (Y 0)), (1, .int x), (2, .int z)] := hl
  have hf31 : (Cond.fieldLink RX5 31 "StakeWeirsModel" "thrown" "I").before args s = true := hts _ (by decide +kernel)
  have hinX5 : ∀ w ∈ wsX50, w ∈ wsX5_foresee := by decide +kernel
  refine lv_aload_n hx hb dX5_foresee_0 rfl (lv_at hl 0 rfl) ?_
  refine lv_iconst (v := 0) hx hb dX5_foresee_1 (by decide) ?_
  refine va_put (D := D) (ci := 5) (v := .int 0) (ty := .int) (C := RX5) (T := TX5) (N := 7) hx hb hts hinX5 tyX5 tyX5_ok nmX5 hown hK hP hD hS (0) rfl rfl 0 (by decide) hf31 (fun _ h9 => h9) rfl (by decide +kernel) rfl rfl (Nat.le_of_ble_eq_true rfl) dX5_foresee_2 (fun H locs hP hD hS => ?_)
  have hP : va_P D vwCl (zW Y Z Z2 y 0 t c q b bc n ar fi rn T) H := hP
  have hD : va_D A (zW Y Z Z2 y 0 t c q b bc n ar fi rn T) := hD
  refine lv_iload_n hx hb dX5_foresee_5 rfl (lv_at hl 1 rfl) ?_
  refine lv_iconst (v := 1) hx hb dX5_foresee_6 (by decide) ?_
  refine lv_bipush (v := 56) hx hb dX5_foresee_7 (by decide) ?_
  refine zcRS (As := [.int x, .int 1, .int 56]) (rest := []) (st1 := [.int (zb (inB 1 x 56))]) ⟨hx, hb, hml, hown, hts⟩ (c_X5_isIn l D y x 1 56) (cwS 3 hts gX5_foresee_X5_isIn rfl rfl rfl (by decide +kernel) ⟨Nat.le_of_ble_eq_true rfl, Nat.le_of_ble_eq_true rfl⟩) hK va_P_nil rfl hl.1 rfl (lv_room (Nat.le_of_ble_eq_true rfl)) dX5_foresee_9 ⟨Nat.le_of_ble_eq_true rfl, Nat.le_of_ble_eq_true rfl⟩ rfl ?_
  refine lv_if_ne (tgt := 21) hx hb dX5_foresee_12 (by decide) (fun c1 => ?_) (fun c1 => ?_)
  · exact absurd (zb_t c1) (by rw [hw]; decide)
  · have c1 := c1
    refine lv_aload_n hx hb dX5_foresee_15 rfl (lv_at hl 0 rfl) ?_
    refine lv_iconst (v := 1) hx hb dX5_foresee_16 (by decide) ?_
    refine zcMV (As := [.int 1]) (rest := []) (st1 := [.int 0]) (cells1 := 0) (slots1 := 0) ⟨hx, hb, hml, hown, hts⟩ (c_X5_no l D y Y Z Z2 0 t c q b bc n ar fi rn T 1 _) (cwV 1 hts gX5_foresee_X5_no rfl rfl rfl (by decide +kernel) ⟨Nat.le_of_ble_eq_true rfl, Nat.le_of_ble_eq_true rfl⟩) hK hP (z_D_T hD) (ci := 5) (q0 := 0) rfl rfl rfl rfl hl.1 rfl (lv_room (Nat.le_of_ble_eq_true rfl)) dX5_foresee_17 hS (z_sub_F hD hS hA z_in_r) ⟨Nat.le_of_ble_eq_true rfl, Nat.le_of_ble_eq_true rfl⟩ rfl rfl rfl (fun H locs hP1 hz hfr hS => ?_)
    have hD := z_D_adr hD (show (zW Y Z Z2 y 1 t c q b bc n ar fi rn T).map Prod.fst = _ from rfl)
    have hP := hP1
    exact zM_i hx hb hr hlocks hS dX5_foresee_20 rfl hP
set_option maxHeartbeats 1000000 in
set_option maxRecDepth 100000 in
theorem c_X5_foresee_N2 (l : Launch) (D : va_G) (y : Nat → ClassId) (Y Z Z2 : Nat → Nat) (th : Int32) (t : Nat → Int32) (c : Nat) (q b : Fld) (bc n : Nat) (ar fi rn : Int32) (T : Nst) (x z : Int32) (hi : inB 1 x 56 = true) (h4 : ¬ z = 4) (hw : inB 6 z 9 = false) (sz : Nat) : zMN l yX5_foresee wsX5_foresee { frames := 1, cells := 0, slots := 0, locals := 22 } D y [.ref (Y 0), .int x, .int z] (zW Y Z Z2 y th t c q b bc n ar fi rn T) sz (some (.int 0)) (zW Y Z Z2 y 2 t c q b bc n ar fi rn T) 0 0 := by
  refine zMN.of (cc := cX5_foresee) (maxL := 3) (ret := (some .int)) (own := RX5) (by decide) rfl (Nat.le_of_ble_eq_true rfl) rfl ?_
  intro p e s m args below meth cd ls A H locs hx hb hr hml hown hts hlocks hP hK hD hA hS hN hl hin
  have hS0 := hS
  have hl : lv_has ls 3 [(0, .ref (Y 0)), (1, .int x), (2, .int z)] := hl
  have hf31 : (Cond.fieldLink RX5 31 "StakeWeirsModel" "thrown" "I").before args s = true := hts _ (by decide +kernel)
  have hinX5 : ∀ w ∈ wsX50, w ∈ wsX5_foresee := by decide +kernel
  refine lv_aload_n hx hb dX5_foresee_0 rfl (lv_at hl 0 rfl) ?_
  refine lv_iconst (v := 0) hx hb dX5_foresee_1 (by decide) ?_
  refine va_put (D := D) (ci := 5) (v := .int 0) (ty := .int) (C := RX5) (T := TX5) (N := 7) hx hb hts hinX5 tyX5 tyX5_ok nmX5 hown hK hP hD hS (0) rfl rfl 0 (by decide) hf31 (fun _ h9 => h9) rfl (by decide +kernel) rfl rfl (Nat.le_of_ble_eq_true rfl) dX5_foresee_2 (fun H locs hP hD hS => ?_)
  have hP : va_P D vwCl (zW Y Z Z2 y 0 t c q b bc n ar fi rn T) H := hP
  have hD : va_D A (zW Y Z Z2 y 0 t c q b bc n ar fi rn T) := hD
  refine lv_iload_n hx hb dX5_foresee_5 rfl (lv_at hl 1 rfl) ?_
  refine lv_iconst (v := 1) hx hb dX5_foresee_6 (by decide) ?_
  refine lv_bipush (v := 56) hx hb dX5_foresee_7 (by decide) ?_
  refine zcRS (As := [.int x, .int 1, .int 56]) (rest := []) (st1 := [.int (zb (inB 1 x 56))]) ⟨hx, hb, hml, hown, hts⟩ (c_X5_isIn l D y x 1 56) (cwS 3 hts gX5_foresee_X5_isIn rfl rfl rfl (by decide +kernel) ⟨Nat.le_of_ble_eq_true rfl, Nat.le_of_ble_eq_true rfl⟩) hK va_P_nil rfl hl.1 rfl (lv_room (Nat.le_of_ble_eq_true rfl)) dX5_foresee_9 ⟨Nat.le_of_ble_eq_true rfl, Nat.le_of_ble_eq_true rfl⟩ rfl ?_
  refine lv_if_ne (tgt := 21) hx hb dX5_foresee_12 (by decide) (fun c1 => ?_) (fun c1 => ?_)
  · have c1 := c1
    refine lv_iload_n hx hb dX5_foresee_21 rfl (lv_at hl 2 rfl) ?_
    refine lv_iconst (v := 4) hx hb dX5_foresee_22 (by decide) ?_
    refine lv_icmp_eq (tgt := 43) hx hb dX5_foresee_23 (by decide) (fun c2 => ?_) (fun c2 => ?_)
    · exact absurd c2 h4
    · have d2 := c2
      refine lv_iload_n hx hb dX5_foresee_26 rfl (lv_at hl 2 rfl) ?_
      refine lv_bipush (v := 6) hx hb dX5_foresee_27 (by decide) ?_
      refine lv_bipush (v := 9) hx hb dX5_foresee_29 (by decide) ?_
      refine zcRS (As := [.int z, .int 6, .int 9]) (rest := []) (st1 := [.int (zb (inB 6 z 9))]) ⟨hx, hb, hml, hown, hts⟩ (c_X5_isIn l D y z 6 9) (cwS 3 hts gX5_foresee_X5_isIn rfl rfl rfl (by decide +kernel) ⟨Nat.le_of_ble_eq_true rfl, Nat.le_of_ble_eq_true rfl⟩) hK va_P_nil rfl hl.1 rfl (lv_room (Nat.le_of_ble_eq_true rfl)) dX5_foresee_31 ⟨Nat.le_of_ble_eq_true rfl, Nat.le_of_ble_eq_true rfl⟩ rfl ?_
      refine lv_if_ne (tgt := 43) hx hb dX5_foresee_34 (by decide) (fun c3 => ?_) (fun c3 => ?_)
      · exact absurd (zb_t c3) (by rw [hw]; decide)
      · have c3 := c3
        refine lv_aload_n hx hb dX5_foresee_37 rfl (lv_at hl 0 rfl) ?_
        refine lv_iconst (v := 2) hx hb dX5_foresee_38 (by decide) ?_
        refine zcMV (As := [.int 2]) (rest := []) (st1 := [.int 0]) (cells1 := 0) (slots1 := 0) ⟨hx, hb, hml, hown, hts⟩ (c_X5_no l D y Y Z Z2 0 t c q b bc n ar fi rn T 2 _) (cwV 1 hts gX5_foresee_X5_no rfl rfl rfl (by decide +kernel) ⟨Nat.le_of_ble_eq_true rfl, Nat.le_of_ble_eq_true rfl⟩) hK hP (z_D_T hD) (ci := 5) (q0 := 0) rfl rfl rfl rfl hl.1 rfl (lv_room (Nat.le_of_ble_eq_true rfl)) dX5_foresee_39 hS (z_sub_F hD hS hA z_in_r) ⟨Nat.le_of_ble_eq_true rfl, Nat.le_of_ble_eq_true rfl⟩ rfl rfl rfl (fun H locs hP1 hz hfr hS => ?_)
        have hD := z_D_adr hD (show (zW Y Z Z2 y 2 t c q b bc n ar fi rn T).map Prod.fst = _ from rfl)
        have hP := hP1
        exact zM_i hx hb hr hlocks hS dX5_foresee_42 rfl hP
  · exact absurd (zb_f c1) (by rw [hi]; decide)
set_option maxHeartbeats 1000000 in
set_option maxRecDepth 100000 in
theorem c_X5_advise (l : Launch) (D : va_G) (y : Nat → ClassId) (Y Z Z2 : Nat → Nat) (th : Int32) (t : Nat → Int32) (c : Nat) (q b : Fld) (bc n : Nat) (ar fi rn : Int32) (T : Nst) (k : Nat) (hk : k < c) (mm : Nat) (hw : inB 1 (nI mm) 20 = true) (hn : n + mm < 2147483648) (hc : c ≤ 6) (hbc : bc ≤ 5) (sz : Nat) : zMN l yX5_advise wsX5_advise { frames := 6, cells := 0, slots := 0, locals := 132 } D y [.ref (Y 0), .int (nI k), .int (nI mm)] (zW Y Z Z2 y th t c q b bc n ar fi rn T) sz (some (.int (advM t c k mm (q, wasB b, bc, n, ar, fi, rn) T 30).1)) (zW Y Z Z2 y 0 t c q b bc n ar fi rn ((advM t c k mm (q, wasB b, bc, n, ar, fi, rn) T 30).2.2)) 0 0 := by
  refine zMN.of (cc := cX5_advise) (maxL := 6) (ret := (some .int)) (own := RX5) (by decide) rfl (Nat.le_of_ble_eq_true rfl) rfl ?_
  intro p e s m args below meth cd ls A H locs hx hb hr hml hown hts hlocks hP hK hD hA hS hN hl hin
  have hS0 := hS
  have hl : lv_has ls 6 [(0, .ref (Y 0)), (1, .int (nI k)), (2, .int (nI mm))] := hl
  have hf31 : (Cond.fieldLink RX5 31 "StakeWeirsModel" "thrown" "I").before args s = true := hts _ (by decide +kernel)
  have hinX5 : ∀ w ∈ wsX50, w ∈ wsX5_advise := by decide +kernel
  have hf28 : (Cond.fieldLink RX5 28 "StakeWeirsModel" "ahead" "LStakeWeirsModel$State;").before args s = true := hts _ (by decide +kernel)
  have hf24 : (Cond.fieldLink RX5 24 "StakeWeirsModel" "s" "LStakeWeirsModel$State;").before args s = true := hts _ (by decide +kernel)
  have hf49 : (Cond.fieldLinkNest "StakeWeirsModel" 49 "StakeWeirsModel$State" "stakes" "[I" "StakeWeirsModel").before args s = true := va_Nw.use rfl (hN ("StakeWeirsModel", 49, "StakeWeirsModel$State", "stakes", "[I", "StakeWeirsModel") (by decide +kernel))
  have hinX4 : ∀ w ∈ wsX40, w ∈ wsX5_advise := by decide +kernel
  have hf68 : (Cond.fieldLinkNest "StakeWeirsModel" 68 "StakeWeirsModel$State" "eels" "[I" "StakeWeirsModel").before args s = true := va_Nw.use rfl (hN ("StakeWeirsModel", 68, "StakeWeirsModel$State", "eels", "[I", "StakeWeirsModel") (by decide +kernel))
  refine lv_aload_n hx hb dX5_advise_0 rfl (lv_at hl 0 rfl) ?_
  refine lv_iconst (v := 0) hx hb dX5_advise_1 (by decide) ?_
  refine va_put (D := D) (ci := 5) (v := .int 0) (ty := .int) (C := RX5) (T := TX5) (N := 7) hx hb hts hinX5 tyX5 tyX5_ok nmX5 hown hK hP hD hS (0) rfl rfl 0 (by decide) hf31 (fun _ h9 => h9) rfl (by decide +kernel) rfl rfl (Nat.le_of_ble_eq_true rfl) dX5_advise_2 (fun H locs hP hD hS => ?_)
  have hP : va_P D vwCl (zW Y Z Z2 y 0 t c q b bc n ar fi rn T) H := hP
  have hD : va_D A (zW Y Z Z2 y 0 t c q b bc n ar fi rn T) := hD
  refine lv_aload_n hx hb dX5_advise_5 rfl (lv_at hl 0 rfl) ?_
  refine lv_iload_n hx hb dX5_advise_6 rfl (lv_at hl 1 rfl) ?_
  refine zcRV (As := [.int (nI k)]) (rest := []) (st1 := [.int (zb (inB 0 (nI k) (nI c - 1)))]) ⟨hx, hb, hml, hown, hts⟩ (c_X5_isWeir l D y Y Z Z2 0 t c q b bc n ar fi rn T (nI k)) (cwV 1 hts gX5_advise_X5_isWeir rfl rfl rfl (by decide +kernel) ⟨Nat.le_of_ble_eq_true rfl, Nat.le_of_ble_eq_true rfl⟩) hK hP (ci := 5) (q0 := 0) rfl rfl rfl rfl hl.1 rfl (lv_room (Nat.le_of_ble_eq_true rfl)) dX5_advise_7 ⟨Nat.le_of_ble_eq_true rfl, Nat.le_of_ble_eq_true rfl⟩ rfl ?_
  refine lv_if_ne (tgt := 19) hx hb dX5_advise_10 (by decide) (fun c1 => ?_) (fun c1 => ?_)
  · have c1 := c1
    refine lv_iload_n hx hb dX5_advise_19 rfl (lv_at hl 2 rfl) ?_
    refine lv_iconst (v := 1) hx hb dX5_advise_20 (by decide) ?_
    refine lv_bipush (v := 20) hx hb dX5_advise_21 (by decide) ?_
    refine zcRS (As := [.int (nI mm), .int 1, .int 20]) (rest := []) (st1 := [.int (zb (inB 1 (nI mm) 20))]) ⟨hx, hb, hml, hown, hts⟩ (c_X5_isIn l D y (nI mm) 1 20) (cwS 3 hts gX5_advise_X5_isIn rfl rfl rfl (by decide +kernel) ⟨Nat.le_of_ble_eq_true rfl, Nat.le_of_ble_eq_true rfl⟩) hK va_P_nil rfl hl.1 rfl (lv_room (Nat.le_of_ble_eq_true rfl)) dX5_advise_23 ⟨Nat.le_of_ble_eq_true rfl, Nat.le_of_ble_eq_true rfl⟩ rfl ?_
    refine lv_if_ne (tgt := 35) hx hb dX5_advise_26 (by decide) (fun c2 => ?_) (fun c2 => ?_)
    · have c2 := c2
      refine lv_iconst (v := 0) hx hb dX5_advise_35 (by decide) ?_
      refine lv_istore_n (lv' := [(3, .int 0), (0, .ref (Y 0)), (1, .int (nI k)), (2, .int (nI mm))]) hx hb dX5_advise_36 rfl hl (by decide) rfl (fun ls hl => ?_)
      refine lv_iconst (v := (-1)) hx hb dX5_advise_37 (by decide) ?_
      refine lv_istore (lv' := [(4, .int (-1)), (3, .int 0), (0, .ref (Y 0)), (1, .int (nI k)), (2, .int (nI mm))]) hx hb dX5_advise_38 hl (by decide) rfl (fun ls hl => ?_)
      refine lv_iconst (v := 1) hx hb dX5_advise_40 (by decide) ?_
      refine lv_istore (lv' := [(5, .int 1), (4, .int (-1)), (3, .int 0), (0, .ref (Y 0)), (1, .int (nI k)), (2, .int (nI mm))]) hx hb dX5_advise_41 hl (by decide) rfl (fun ls hl => ?_)
      have loop3 : ∀ i, i ≤ 30 → ∀ (H : Heap) (locs : List Loc) (ls : Array Slot), va_P D vwCl (zW Y Z Z2 y 0 t c q b bc n ar fi rn ((advM t c k mm (q, wasB b, bc, n, ar, fi, rn) T i).2.2)) H → va_D A (zW Y Z Z2 y 0 t c q b bc n ar fi rn ((advM t c k mm (q, wasB b, bc, n, ar, fi, rn) T i).2.2)) → va_S A s.heap H locs → lv_has ls 6 [(5, .int (nI (i + 1))), (4, .int ((advM t c k mm (q, wasB b, bc, n, ar, fi, rn) T i).2.1)), (3, .int ((advM t c k mm (q, wasB b, bc, n, ar, fi, rn) T i).1)), (0, .ref (Y 0)), (1, .int (nI k)), (2, .int (nI mm))] → W p l e ({ frames := 6, cells := 0, slots := 0, locals := 132 } : Room) s m args below meth cd H locs 0 0 (MQ below (zMQ (some (.int (advM t c k mm (q, wasB b, bc, n, ar, fi, rn) T 30).1)) D (zW Y Z Z2 y 0 t c q b bc n ar fi rn ((advM t c k mm (q, wasB b, bc, n, ar, fi, rn) T 30).2.2)) A) args s 0 0 A) (F0 m 43 ls []) := by
        refine down ?_ ?_
        · intro H locs ls hP hD hS hl
          refine lv_iload hx hb dX5_advise_43 (lv_at hl 0 rfl) ?_
          refine lv_bipush (v := 30) hx hb dX5_advise_45 (by decide) ?_
          refine lv_icmp_gt (tgt := 118) hx hb dX5_advise_47 (by decide) (fun c4 => ?_) (fun c4 => ?_)
          · have d4 := Int32.not_le.mpr c4
            refine lv_iload_n hx hb dX5_advise_118 rfl (lv_at hl 2 rfl) ?_
            exact zM_i hx hb hr hlocks hS dX5_advise_119 rfl hP
          · exact absurd (nI_lt (a := 30) (b := 31) (by decide) (by decide)) c4
        · intro i hki ihi H locs ls hP hD hS hl
          refine lv_iload hx hb dX5_advise_43 (lv_at hl 0 rfl) ?_
          refine lv_bipush (v := 30) hx hb dX5_advise_45 (by decide) ?_
          refine lv_icmp_gt (tgt := 118) hx hb dX5_advise_47 (by decide) (fun c5 => ?_) (fun c5 => ?_)
          · exact absurd c5 (nI_nlt (a := 30) (b := (i + 1)) (by omega) (by omega))
          · have d5 := Int32.not_lt.mp c5
            refine lv_aload_n hx hb dX5_advise_50 rfl (lv_at hl 3 rfl) ?_
            refine va_get (D := D) (ci := 5) (v := .ref (Z2 0)) (C := RX5) (T := TX5) (N := 7) hx hb hts hinX5 hown hK hP (0) rfl rfl 6 (by decide) hf28 (fun _ h9 => h9) rfl dX5_advise_51 ?_
            refine lv_aload_n hx hb dX5_advise_54 rfl (lv_at hl 3 rfl) ?_
            refine va_get (D := D) (ci := 5) (v := .ref (Z 0)) (C := RX5) (T := TX5) (N := 7) hx hb hts hinX5 hown hK hP (0) rfl rfl 5 (by decide) hf24 (fun _ h9 => h9) rfl dX5_advise_55 ?_
            refine zcMV (As := [.ref (Z 0)]) (rest := []) (st1 := [.ref (Z2 0)]) (cells1 := 0) (slots1 := 0) ⟨hx, hb, hml, hown, hts⟩ (c_X4_become l D y (Y 0) Z2 Z (((advM t c k mm (q, wasB b, bc, n, ar, fi, rn) T i).2.2).1) (((advM t c k mm (q, wasB b, bc, n, ar, fi, rn) T i).2.2).2.1) (((advM t c k mm (q, wasB b, bc, n, ar, fi, rn) T i).2.2).2.2.1) (((advM t c k mm (q, wasB b, bc, n, ar, fi, rn) T i).2.2).2.2.2.1) (((advM t c k mm (q, wasB b, bc, n, ar, fi, rn) T i).2.2).2.2.2.2.1) (((advM t c k mm (q, wasB b, bc, n, ar, fi, rn) T i).2.2).2.2.2.2.2.1) (((advM t c k mm (q, wasB b, bc, n, ar, fi, rn) T i).2.2).2.2.2.2.2.2) q b bc n ar fi rn _) (cwV 1 hts gX5_advise_X4_become rfl rfl rfl (by decide +kernel) ⟨Nat.le_of_ble_eq_true rfl, Nat.le_of_ble_eq_true rfl⟩) hK (z_sub_P hP (fun z h => List.mem_append_right _ ((List.mem_append.mp h).elim (fun h => List.mem_append_right _ h) (fun h => List.mem_append_left _ h)))) (z_D_s (l1 := (oW Y (Z 0) (Z2 0) y 0 t c (q 0) (q 3))) hD) (ci := 4) (q0 := 0) rfl rfl rfl rfl hl.1 rfl (lv_room (Nat.le_of_ble_eq_true rfl)) dX5_advise_58 hS (z_sub_F hD hS hA (fun z h => List.mem_append_right _ ((List.mem_append.mp h).elim (fun h => List.mem_append_right _ h) (fun h => List.mem_append_left _ h)))) ⟨Nat.le_of_ble_eq_true rfl, Nat.le_of_ble_eq_true rfl⟩ rfl rfl rfl (fun H locs hP1 hz hfr hS => ?_)
            obtain ⟨hP, hD⟩ := z_segS (ws1 := zW Y Z Z2 y 0 t c q b bc n ar fi rn (q, wasB b, bc, n, ar, fi, rn)) (l1 := (oW Y (Z 0) (Z2 0) y 0 t c (q 0) (q 3))) (a := (stW Z (Y 0) y q b bc n ar fi rn)) (b := (stW Z2 (Y 0) y (((advM t c k mm (q, wasB b, bc, n, ar, fi, rn) T i).2.2).1) (((advM t c k mm (q, wasB b, bc, n, ar, fi, rn) T i).2.2).2.1) (((advM t c k mm (q, wasB b, bc, n, ar, fi, rn) T i).2.2).2.2.1) (((advM t c k mm (q, wasB b, bc, n, ar, fi, rn) T i).2.2).2.2.2.1) (((advM t c k mm (q, wasB b, bc, n, ar, fi, rn) T i).2.2).2.2.2.2.1) (((advM t c k mm (q, wasB b, bc, n, ar, fi, rn) T i).2.2).2.2.2.2.2.1) (((advM t c k mm (q, wasB b, bc, n, ar, fi, rn) T i).2.2).2.2.2.2.2.2))) (b1 := (stW Z2 (Y 0) y q (wasB b) bc n ar fi rn)) hP hD rfl rfl rfl hP1 hfr
            have hq0 : (q, wasB b, bc, n, ar, fi, rn).1 0 = q 0 := rfl
            have hq3 : (q, wasB b, bc, n, ar, fi, rn).1 3 = q 3 := rfl
            have hTb : (q, wasB b, bc, n, ar, fi, rn).2.2.1 = bc := rfl
            have hTn : (q, wasB b, bc, n, ar, fi, rn).2.2.2.1 = n := rfl
            refine lv_pop hx hb dX5_advise_61 rfl ?_
            refine lv_aload_n hx hb dX5_advise_62 rfl (lv_at hl 3 rfl) ?_
            refine va_get (D := D) (ci := 5) (v := .ref (Z2 0)) (C := RX5) (T := TX5) (N := 7) hx hb hts hinX5 hown hK hP (0) rfl rfl 6 (by decide) hf28 (fun _ h9 => h9) rfl dX5_advise_63 ?_
            refine va_getN (D := D) (ci := 4) (v := .ref (Z2 1)) (C := RX4) (T := TX4) (N := 16) hx hb hts hinX4 hown hK hP (15) rfl rfl 1 (by decide) hf49 (fun _ h9 => h9) rfl dX5_advise_66 ?_
            refine lv_iload_n hx hb dX5_advise_69 rfl (lv_at hl 4 rfl) ?_
            refine lv_iload hx hb dX5_advise_70 (lv_at hl 0 rfl) ?_
            refine z_ast hx hb hK hP hD hS 16 (f := ((q, wasB b, bc, n, ar, fi, rn).1 1)) rfl k rfl (by omega) (by decide) (zW_T1 (k := k)) dX5_advise_72 (fun H locs hP hD hS => ?_)
            have hP : va_P D vwCl (zW Y Z Z2 y 0 t c q b bc n ar fi rn (up2 ((q, wasB b, bc, n, ar, fi, rn).1) 1 k (nI (i + 1)), (q, wasB b, bc, n, ar, fi, rn).2)) H := hP
            have hD : va_D A (zW Y Z Z2 y 0 t c q b bc n ar fi rn (up2 ((q, wasB b, bc, n, ar, fi, rn).1) 1 k (nI (i + 1)), (q, wasB b, bc, n, ar, fi, rn).2)) := hD
            have hq0 : (up2 ((q, wasB b, bc, n, ar, fi, rn).1) 1 k (nI (i + 1)), (q, wasB b, bc, n, ar, fi, rn).2).1 0 = q 0 := rfl
            have hq3 : (up2 ((q, wasB b, bc, n, ar, fi, rn).1) 1 k (nI (i + 1)), (q, wasB b, bc, n, ar, fi, rn).2).1 3 = q 3 := rfl
            have hSb : (up2 ((q, wasB b, bc, n, ar, fi, rn).1) 1 k (nI (i + 1)), (q, wasB b, bc, n, ar, fi, rn).2).2.2.1 = bc := rfl
            have hSn : (up2 ((q, wasB b, bc, n, ar, fi, rn).1) 1 k (nI (i + 1)), (q, wasB b, bc, n, ar, fi, rn).2).2.2.2.1 = n := rfl
            refine lv_aload_n hx hb dX5_advise_73 rfl (lv_at hl 3 rfl) ?_
            refine va_get (D := D) (ci := 5) (v := .ref (Z2 0)) (C := RX5) (T := TX5) (N := 7) hx hb hts hinX5 hown hK hP (0) rfl rfl 6 (by decide) hf28 (fun _ h9 => h9) rfl dX5_advise_74 ?_
            refine lv_iload_n hx hb dX5_advise_77 rfl (lv_at hl 5 rfl) ?_
            refine zcNMV (As := [.int (nI mm)]) (rest := []) (st1 := []) (cells1 := 0) (slots1 := 0) ⟨hx, hb, hml, hown, hts⟩ (c_X4_pass_ l D y Y Z2 (Z 0) (Z2 0) 0 t c ((up2 ((q, wasB b, bc, n, ar, fi, rn).1) 1 k (nI (i + 1)), (q, wasB b, bc, n, ar, fi, rn).2).1) ((up2 ((q, wasB b, bc, n, ar, fi, rn).1) 1 k (nI (i + 1)), (q, wasB b, bc, n, ar, fi, rn).2).2.1) ((up2 ((q, wasB b, bc, n, ar, fi, rn).1) 1 k (nI (i + 1)), (q, wasB b, bc, n, ar, fi, rn).2).2.2.1) ((up2 ((q, wasB b, bc, n, ar, fi, rn).1) 1 k (nI (i + 1)), (q, wasB b, bc, n, ar, fi, rn).2).2.2.2.1) ((up2 ((q, wasB b, bc, n, ar, fi, rn).1) 1 k (nI (i + 1)), (q, wasB b, bc, n, ar, fi, rn).2).2.2.2.2.1) ((up2 ((q, wasB b, bc, n, ar, fi, rn).1) 1 k (nI (i + 1)), (q, wasB b, bc, n, ar, fi, rn).2).2.2.2.2.2.1) ((up2 ((q, wasB b, bc, n, ar, fi, rn).1) 1 k (nI (i + 1)), (q, wasB b, bc, n, ar, fi, rn).2).2.2.2.2.2.2) mm (by omega) (by omega) (by omega) _) (cwV 1 hts gX5_advise_X4_pass_ rfl rfl rfl (by decide +kernel) ⟨Nat.le_of_ble_eq_true rfl, Nat.le_of_ble_eq_true rfl⟩) hN hK (zz_aP hq0 hq3 hP) (zz_aD hq0 hq3 hD) (ci := 4) (q0 := 4) rfl rfl rfl rfl hl.1 rfl (lv_room (Nat.le_of_ble_eq_true rfl)) dX5_advise_78 hS (zz_aF hq0 hq3 hD hS hA) ⟨Nat.le_of_ble_eq_true rfl, Nat.le_of_ble_eq_true rfl⟩ rfl rfl rfl (fun H locs hP1 hz hfr hS => ?_)
            obtain ⟨hP, hD⟩ := zz_aB (T1 := (nightsM t c mm (up2 ((q, wasB b, bc, n, ar, fi, rn).1) 1 k (nI (i + 1)), (q, wasB b, bc, n, ar, fi, rn).2))) hP hD hq0 hq3 ((nightsM_q0 _ _ _ _).1.trans hq0) ((nightsM_q0 _ _ _ _).2.trans hq3) hP1 hfr
            have hP : va_P D vwCl (zW Y Z Z2 y 0 t c q b bc n ar fi rn (nightsM t c mm (up2 ((q, wasB b, bc, n, ar, fi, rn).1) 1 k (nI (i + 1)), (q, wasB b, bc, n, ar, fi, rn).2))) H := hP
            have hD : va_D A (zW Y Z Z2 y 0 t c q b bc n ar fi rn (nightsM t c mm (up2 ((q, wasB b, bc, n, ar, fi, rn).1) 1 k (nI (i + 1)), (q, wasB b, bc, n, ar, fi, rn).2))) := hD
            have hq0 : (nightsM t c mm (up2 ((q, wasB b, bc, n, ar, fi, rn).1) 1 k (nI (i + 1)), (q, wasB b, bc, n, ar, fi, rn).2)).1 0 = q 0 := ((nightsM_q0 _ _ _ _).1.trans hq0)
            have hq3 : (nightsM t c mm (up2 ((q, wasB b, bc, n, ar, fi, rn).1) 1 k (nI (i + 1)), (q, wasB b, bc, n, ar, fi, rn).2)).1 3 = q 3 := ((nightsM_q0 _ _ _ _).2.trans hq3)
            refine lv_aload_n hx hb dX5_advise_81 rfl (lv_at hl 3 rfl) ?_
            refine va_get (D := D) (ci := 5) (v := .ref (Z2 0)) (C := RX5) (T := TX5) (N := 7) hx hb hts hinX5 hown hK hP (0) rfl rfl 6 (by decide) hf28 (fun _ h9 => h9) rfl dX5_advise_82 ?_
            refine va_getN (D := D) (ci := 4) (v := .ref (Z2 4)) (C := RX4) (T := TX4) (N := 16) hx hb hts hinX4 hown hK hP (15) rfl rfl 4 (by decide) hf68 (fun _ h9 => h9) rfl dX5_advise_85 ?_
            refine lv_iload_n hx hb dX5_advise_88 rfl (lv_at hl 4 rfl) ?_
            refine z_ald hx hb hK hP 19 (f := ((nightsM t c mm (up2 ((q, wasB b, bc, n, ar, fi, rn).1) 1 k (nI (i + 1)), (q, wasB b, bc, n, ar, fi, rn).2)).1 5)) rfl k rfl (by omega) (by decide) dX5_advise_89 ?_
            refine lv_iload hx hb dX5_advise_90 (lv_at hl 1 rfl) ?_
            refine lv_icmp_gt (tgt := 98) hx hb dX5_advise_92 (by decide) (fun c6 => ?_) (fun c6 => ?_)
            · have d6 := Int32.not_le.mpr c6
              refine lv_aload_n hx hb dX5_advise_98 rfl (lv_at hl 3 rfl) ?_
              refine va_get (D := D) (ci := 5) (v := .ref (Z2 0)) (C := RX5) (T := TX5) (N := 7) hx hb hts hinX5 hown hK hP (0) rfl rfl 6 (by decide) hf28 (fun _ h9 => h9) rfl dX5_advise_99 ?_
              refine va_getN (D := D) (ci := 4) (v := .ref (Z2 4)) (C := RX4) (T := TX4) (N := 16) hx hb hts hinX4 hown hK hP (15) rfl rfl 4 (by decide) hf68 (fun _ h9 => h9) rfl dX5_advise_102 ?_
              refine lv_iload_n hx hb dX5_advise_105 rfl (lv_at hl 4 rfl) ?_
              refine z_ald hx hb hK hP 19 (f := ((nightsM t c mm (up2 ((q, wasB b, bc, n, ar, fi, rn).1) 1 k (nI (i + 1)), (q, wasB b, bc, n, ar, fi, rn).2)).1 5)) rfl k rfl (by omega) (by decide) dX5_advise_106 ?_
              refine lv_istore (lv' := [(4, .int ((((nightsM t c mm (up2 ((q, wasB b, bc, n, ar, fi, rn).1) 1 k (nI (i + 1)), (q, wasB b, bc, n, ar, fi, rn).2)).1 5) k))), (5, .int (nI (i + 1))), (3, .int ((advM t c k mm (q, wasB b, bc, n, ar, fi, rn) T i).1)), (0, .ref (Y 0)), (1, .int (nI k)), (2, .int (nI mm))]) hx hb dX5_advise_107 hl (by decide) rfl (fun ls hl => ?_)
              refine lv_iload hx hb dX5_advise_109 (lv_at hl 1 rfl) ?_
              refine lv_istore_n (lv' := [(3, .int (nI (i + 1))), (4, .int ((((nightsM t c mm (up2 ((q, wasB b, bc, n, ar, fi, rn).1) 1 k (nI (i + 1)), (q, wasB b, bc, n, ar, fi, rn).2)).1 5) k))), (5, .int (nI (i + 1))), (0, .ref (Y 0)), (1, .int (nI k)), (2, .int (nI mm))]) hx hb dX5_advise_111 rfl hl (by decide) rfl (fun ls hl => ?_)
              refine lv_iinc (v := nI ((i + 1) + 1)) (lv' := [(5, .int (nI ((i + 1) + 1))), (3, .int (nI (i + 1))), (4, .int ((((nightsM t c mm (up2 ((q, wasB b, bc, n, ar, fi, rn).1) 1 k (nI (i + 1)), (q, wasB b, bc, n, ar, fi, rn).2)).1 5) k))), (0, .ref (Y 0)), (1, .int (nI k)), (2, .int (nI mm))]) hx hb dX5_advise_112 hl (k := 2) rfl (nI_1 _) (by decide) rfl (fun ls hl => ?_)
              refine lv_goto (tgt := 43) hx hb dX5_advise_115 (by decide) ?_
              have e7 : (advM t c k mm (q, wasB b, bc, n, ar, fi, rn) T (i + 1)).2.1 = (((nightsM t c mm (up2 ((q, wasB b, bc, n, ar, fi, rn).1) 1 k (nI (i + 1)), (q, wasB b, bc, n, ar, fi, rn).2)).1 5) k) := by simp [advM_s, advMS, c6, d6]
              have e8 : (advM t c k mm (q, wasB b, bc, n, ar, fi, rn) T (i + 1)).1 = nI (i + 1) := by simp [advM_s, advMS, c6, d6]
              have e9 : (advM t c k mm (q, wasB b, bc, n, ar, fi, rn) T (i + 1)).2.2 = (nightsM t c mm (up2 ((q, wasB b, bc, n, ar, fi, rn).1) 1 k (nI (i + 1)), (q, wasB b, bc, n, ar, fi, rn).2)) := by simp [advM_s, advMS, c6, d6]
              refine ihi H locs ls ?_ ?_ hS ?_
              · first | exact hP | (simp only [e7, e8, e9]; exact hP)
              · first | exact hD | (simp only [e7, e8, e9]; exact hD)
              · first | exact lv_sub hl [0, 2, 1, 3, 4, 5] rfl | (simp only [e7, e8, e9]; exact lv_sub hl [0, 2, 1, 3, 4, 5] rfl)
            · have d6 := Int32.not_lt.mp c6
              refine lv_goto (tgt := 112) hx hb dX5_advise_95 (by decide) ?_
              refine lv_iinc (v := nI ((i + 1) + 1)) (lv' := [(5, .int (nI ((i + 1) + 1))), (4, .int ((advM t c k mm (q, wasB b, bc, n, ar, fi, rn) T i).2.1)), (3, .int ((advM t c k mm (q, wasB b, bc, n, ar, fi, rn) T i).1)), (0, .ref (Y 0)), (1, .int (nI k)), (2, .int (nI mm))]) hx hb dX5_advise_112 hl (k := 0) rfl (nI_1 _) (by decide) rfl (fun ls hl => ?_)
              refine lv_goto (tgt := 43) hx hb dX5_advise_115 (by decide) ?_
              have e10 : (advM t c k mm (q, wasB b, bc, n, ar, fi, rn) T (i + 1)).2.1 = (advM t c k mm (q, wasB b, bc, n, ar, fi, rn) T i).2.1 := by simp [advM_s, advMS, c6, d6]
              have e11 : (advM t c k mm (q, wasB b, bc, n, ar, fi, rn) T (i + 1)).1 = (advM t c k mm (q, wasB b, bc, n, ar, fi, rn) T i).1 := by simp [advM_s, advMS, c6, d6]
              have e12 : (advM t c k mm (q, wasB b, bc, n, ar, fi, rn) T (i + 1)).2.2 = (nightsM t c mm (up2 ((q, wasB b, bc, n, ar, fi, rn).1) 1 k (nI (i + 1)), (q, wasB b, bc, n, ar, fi, rn).2)) := by simp [advM_s, advMS, c6, d6]
              refine ihi H locs ls ?_ ?_ hS ?_
              · first | exact hP | (simp only [e10, e11, e12]; exact hP)
              · first | exact hD | (simp only [e10, e11, e12]; exact hD)
              · first | exact lv_sub hl [0, 1, 2, 3, 4, 5] rfl | (simp only [e10, e11, e12]; exact lv_sub hl [0, 1, 2, 3, 4, 5] rfl)
      exact loop3 0 (Nat.zero_le _) H locs ls hP hD hS (lv_sub hl [0, 1, 2, 3, 4, 5] rfl)
    · exact absurd (zb_f c2) (by rw [hw]; decide)
  · exact absurd (zb_f c1) (by rw [(inW_t hk hc)]; decide)
set_option maxHeartbeats 1000000 in
set_option maxRecDepth 100000 in
theorem c_X5_advise_N1 (l : Launch) (D : va_G) (y : Nat → ClassId) (Y Z Z2 : Nat → Nat) (th : Int32) (t : Nat → Int32) (c : Nat) (q b : Fld) (bc n : Nat) (ar fi rn : Int32) (T : Nst) (x : Int32) (hx0 : x < 0 ∨ nI c ≤ x) (z : Int32) (hc : c ≤ 6) (sz : Nat) : zMN l yX5_advise wsX5_advise { frames := 2, cells := 0, slots := 0, locals := 43 } D y [.ref (Y 0), .int x, .int z] (zW Y Z Z2 y th t c q b bc n ar fi rn T) sz (some (.int 0)) (zW Y Z Z2 y 1 t c q b bc n ar fi rn T) 0 0 := by
  refine zMN.of (cc := cX5_advise) (maxL := 6) (ret := (some .int)) (own := RX5) (by decide) rfl (Nat.le_of_ble_eq_true rfl) rfl ?_
  intro p e s m args below meth cd ls A H locs hx hb hr hml hown hts hlocks hP hK hD hA hS hN hl hin
  have hS0 := hS
  have hl : lv_has ls 6 [(0, .ref (Y 0)), (1, .int x), (2, .int z)] := hl
  have hf31 : (Cond.fieldLink RX5 31 "StakeWeirsModel" "thrown" "I").before args s = true := hts _ (by decide +kernel)
  have hinX5 : ∀ w ∈ wsX50, w ∈ wsX5_advise := by decide +kernel
  refine lv_aload_n hx hb dX5_advise_0 rfl (lv_at hl 0 rfl) ?_
  refine lv_iconst (v := 0) hx hb dX5_advise_1 (by decide) ?_
  refine va_put (D := D) (ci := 5) (v := .int 0) (ty := .int) (C := RX5) (T := TX5) (N := 7) hx hb hts hinX5 tyX5 tyX5_ok nmX5 hown hK hP hD hS (0) rfl rfl 0 (by decide) hf31 (fun _ h9 => h9) rfl (by decide +kernel) rfl rfl (Nat.le_of_ble_eq_true rfl) dX5_advise_2 (fun H locs hP hD hS => ?_)
  have hP : va_P D vwCl (zW Y Z Z2 y 0 t c q b bc n ar fi rn T) H := hP
  have hD : va_D A (zW Y Z Z2 y 0 t c q b bc n ar fi rn T) := hD
  refine lv_aload_n hx hb dX5_advise_5 rfl (lv_at hl 0 rfl) ?_
  refine lv_iload_n hx hb dX5_advise_6 rfl (lv_at hl 1 rfl) ?_
  refine zcRV (As := [.int x]) (rest := []) (st1 := [.int (zb (inB 0 x (nI c - 1)))]) ⟨hx, hb, hml, hown, hts⟩ (c_X5_isWeir l D y Y Z Z2 0 t c q b bc n ar fi rn T x) (cwV 1 hts gX5_advise_X5_isWeir rfl rfl rfl (by decide +kernel) ⟨Nat.le_of_ble_eq_true rfl, Nat.le_of_ble_eq_true rfl⟩) hK hP (ci := 5) (q0 := 0) rfl rfl rfl rfl hl.1 rfl (lv_room (Nat.le_of_ble_eq_true rfl)) dX5_advise_7 ⟨Nat.le_of_ble_eq_true rfl, Nat.le_of_ble_eq_true rfl⟩ rfl ?_
  refine lv_if_ne (tgt := 19) hx hb dX5_advise_10 (by decide) (fun c1 => ?_) (fun c1 => ?_)
  · exact absurd (zb_t c1) (by rw [(inW_f hx0 hc)]; decide)
  · have c1 := c1
    refine lv_aload_n hx hb dX5_advise_13 rfl (lv_at hl 0 rfl) ?_
    refine lv_iconst (v := 1) hx hb dX5_advise_14 (by decide) ?_
    refine zcMV (As := [.int 1]) (rest := []) (st1 := [.int 0]) (cells1 := 0) (slots1 := 0) ⟨hx, hb, hml, hown, hts⟩ (c_X5_no l D y Y Z Z2 0 t c q b bc n ar fi rn T 1 _) (cwV 1 hts gX5_advise_X5_no rfl rfl rfl (by decide +kernel) ⟨Nat.le_of_ble_eq_true rfl, Nat.le_of_ble_eq_true rfl⟩) hK hP (z_D_T hD) (ci := 5) (q0 := 0) rfl rfl rfl rfl hl.1 rfl (lv_room (Nat.le_of_ble_eq_true rfl)) dX5_advise_15 hS (z_sub_F hD hS hA z_in_r) ⟨Nat.le_of_ble_eq_true rfl, Nat.le_of_ble_eq_true rfl⟩ rfl rfl rfl (fun H locs hP1 hz hfr hS => ?_)
    have hD := z_D_adr hD (show (zW Y Z Z2 y 1 t c q b bc n ar fi rn T).map Prod.fst = _ from rfl)
    have hP := hP1
    exact zM_i hx hb hr hlocks hS dX5_advise_18 rfl hP
set_option maxHeartbeats 1000000 in
set_option maxRecDepth 100000 in
theorem c_X5_advise_N2 (l : Launch) (D : va_G) (y : Nat → ClassId) (Y Z Z2 : Nat → Nat) (th : Int32) (t : Nat → Int32) (c : Nat) (q b : Fld) (bc n : Nat) (ar fi rn : Int32) (T : Nst) (k : Nat) (hk : k < c) (x : Int32) (hw : inB 1 x 20 = false) (hc : c ≤ 6) (sz : Nat) : zMN l yX5_advise wsX5_advise { frames := 2, cells := 0, slots := 0, locals := 43 } D y [.ref (Y 0), .int (nI k), .int x] (zW Y Z Z2 y th t c q b bc n ar fi rn T) sz (some (.int 0)) (zW Y Z Z2 y 2 t c q b bc n ar fi rn T) 0 0 := by
  refine zMN.of (cc := cX5_advise) (maxL := 6) (ret := (some .int)) (own := RX5) (by decide) rfl (Nat.le_of_ble_eq_true rfl) rfl ?_
  intro p e s m args below meth cd ls A H locs hx hb hr hml hown hts hlocks hP hK hD hA hS hN hl hin
  have hS0 := hS
  have hl : lv_has ls 6 [(0, .ref (Y 0)), (1, .int (nI k)), (2, .int x)] := hl
  have hf31 : (Cond.fieldLink RX5 31 "StakeWeirsModel" "thrown" "I").before args s = true := hts _ (by decide +kernel)
  have hinX5 : ∀ w ∈ wsX50, w ∈ wsX5_advise := by decide +kernel
  refine lv_aload_n hx hb dX5_advise_0 rfl (lv_at hl 0 rfl) ?_
  refine lv_iconst (v := 0) hx hb dX5_advise_1 (by decide) ?_
  refine va_put (D := D) (ci := 5) (v := .int 0) (ty := .int) (C := RX5) (T := TX5) (N := 7) hx hb hts hinX5 tyX5 tyX5_ok nmX5 hown hK hP hD hS (0) rfl rfl 0 (by decide) hf31 (fun _ h9 => h9) rfl (by decide +kernel) rfl rfl (Nat.le_of_ble_eq_true rfl) dX5_advise_2 (fun H locs hP hD hS => ?_)
  have hP : va_P D vwCl (zW Y Z Z2 y 0 t c q b bc n ar fi rn T) H := hP
  have hD : va_D A (zW Y Z Z2 y 0 t c q b bc n ar fi rn T) := hD
  refine lv_aload_n hx hb dX5_advise_5 rfl (lv_at hl 0 rfl) ?_
  refine lv_iload_n hx hb dX5_advise_6 rfl (lv_at hl 1 rfl) ?_
  refine zcRV (As := [.int (nI k)]) (rest := []) (st1 := [.int (zb (inB 0 (nI k) (nI c - 1)))]) ⟨hx, hb, hml, hown, hts⟩ (c_X5_isWeir l D y Y Z Z2 0 t c q b bc n ar fi rn T (nI k)) (cwV 1 hts gX5_advise_X5_isWeir rfl rfl rfl (by decide +kernel) ⟨Nat.le_of_ble_eq_true rfl, Nat.le_of_ble_eq_true rfl⟩) hK hP (ci := 5) (q0 := 0) rfl rfl rfl rfl hl.1 rfl (lv_room (Nat.le_of_ble_eq_true rfl)) dX5_advise_7 ⟨Nat.le_of_ble_eq_true rfl, Nat.le_of_ble_eq_true rfl⟩ rfl ?_
  refine lv_if_ne (tgt := 19) hx hb dX5_advise_10 (by decide) (fun c1 => ?_) (fun c1 => ?_)
  · have c1 := c1
    refine lv_iload_n hx hb dX5_advise_19 rfl (lv_at hl 2 rfl) ?_
    refine lv_iconst (v := 1) hx hb dX5_advise_20 (by decide) ?_
    refine lv_bipush (v := 20) hx hb dX5_advise_21 (by decide) ?_
    refine zcRS (As := [.int x, .int 1, .int 20]) (rest := []) (st1 := [.int (zb (inB 1 x 20))]) ⟨hx, hb, hml, hown, hts⟩ (c_X5_isIn l D y x 1 20) (cwS 3 hts gX5_advise_X5_isIn rfl rfl rfl (by decide +kernel) ⟨Nat.le_of_ble_eq_true rfl, Nat.le_of_ble_eq_true rfl⟩) hK va_P_nil rfl hl.1 rfl (lv_room (Nat.le_of_ble_eq_true rfl)) dX5_advise_23 ⟨Nat.le_of_ble_eq_true rfl, Nat.le_of_ble_eq_true rfl⟩ rfl ?_
    refine lv_if_ne (tgt := 35) hx hb dX5_advise_26 (by decide) (fun c2 => ?_) (fun c2 => ?_)
    · exact absurd (zb_t c2) (by rw [hw]; decide)
    · have c2 := c2
      refine lv_aload_n hx hb dX5_advise_29 rfl (lv_at hl 0 rfl) ?_
      refine lv_iconst (v := 2) hx hb dX5_advise_30 (by decide) ?_
      refine zcMV (As := [.int 2]) (rest := []) (st1 := [.int 0]) (cells1 := 0) (slots1 := 0) ⟨hx, hb, hml, hown, hts⟩ (c_X5_no l D y Y Z Z2 0 t c q b bc n ar fi rn T 2 _) (cwV 1 hts gX5_advise_X5_no rfl rfl rfl (by decide +kernel) ⟨Nat.le_of_ble_eq_true rfl, Nat.le_of_ble_eq_true rfl⟩) hK hP (z_D_T hD) (ci := 5) (q0 := 0) rfl rfl rfl rfl hl.1 rfl (lv_room (Nat.le_of_ble_eq_true rfl)) dX5_advise_31 hS (z_sub_F hD hS hA z_in_r) ⟨Nat.le_of_ble_eq_true rfl, Nat.le_of_ble_eq_true rfl⟩ rfl rfl rfl (fun H locs hP1 hz hfr hS => ?_)
      have hD := z_D_adr hD (show (zW Y Z Z2 y 2 t c q b bc n ar fi rn T).map Prod.fst = _ from rfl)
      have hP := hP1
      exact zM_i hx hb hr hlocks hS dX5_advise_34 rfl hP
  · exact absurd (zb_f c1) (by rw [(inW_t hk hc)]; decide)
set_option maxHeartbeats 1000000 in
set_option maxRecDepth 100000 in
theorem c_X5_mean (l : Launch) (D : va_G) (y : Nat → ClassId) (Y Z Z2 : Nat → Nat) (th : Int32) (t : Nat → Int32) (c : Nat) (q b : Fld) (bc n : Nat) (ar fi rn : Int32) (T : Nst) (hc : c ≤ 6) (hne : ¬ heldN q c = 0 → vf_n64 (FP.ddiv (FP.i2d (wattleN q c)) (FP.i2d (heldN q c)))) (sz : Nat) : zMN l yX5_mean wsX5_mean { frames := 2, cells := 0, slots := 0, locals := 43 } D y [.ref (Y 0)] (zW Y Z Z2 y th t c q b bc n ar fi rn T) sz (some (.double (meanI (wattleN q c) (heldN q c)))) (zW Y Z Z2 y 0 t c q b bc n ar fi rn T) 0 0 := by
  refine zMN.of (cc := cX5_mean) (maxL := 3) (ret := (some .double)) (own := RX5) (by decide) rfl (Nat.le_of_ble_eq_true rfl) rfl ?_
  intro p e s m args below meth cd ls A H locs hx hb hr hml hown hts hlocks hP hK hD hA hS hN hl hin
  have hS0 := hS
  have hl : lv_has ls 3 [(0, .ref (Y 0))] := hl
  have hf31 : (Cond.fieldLink RX5 31 "StakeWeirsModel" "thrown" "I").before args s = true := hts _ (by decide +kernel)
  have hinX5 : ∀ w ∈ wsX50, w ∈ wsX5_mean := by decide +kernel
  have hf35 : (Cond.fieldLink RX5 35 "StakeWeirsModel" "weirs" "I").before args s = true := hts _ (by decide +kernel)
  have hf24 : (Cond.fieldLink RX5 24 "StakeWeirsModel" "s" "LStakeWeirsModel$State;").before args s = true := hts _ (by decide +kernel)
  have hf52 : (Cond.fieldLinkNest "StakeWeirsModel" 52 "StakeWeirsModel$State" "wattle" "[I" "StakeWeirsModel").before args s = true := va_Nw.use rfl (hN ("StakeWeirsModel", 52, "StakeWeirsModel$State", "wattle", "[I", "StakeWeirsModel") (by decide +kernel))
  have hinX4 : ∀ w ∈ wsX40, w ∈ wsX5_mean := by decide +kernel
  refine lv_aload_n hx hb dX5_mean_0 rfl (lv_at hl 0 rfl) ?_
  refine lv_iconst (v := 0) hx hb dX5_mean_1 (by decide) ?_
  refine va_put (D := D) (ci := 5) (v := .int 0) (ty := .int) (C := RX5) (T := TX5) (N := 7) hx hb hts hinX5 tyX5 tyX5_ok nmX5 hown hK hP hD hS (0) rfl rfl 0 (by decide) hf31 (fun _ h9 => h9) rfl (by decide +kernel) rfl rfl (Nat.le_of_ble_eq_true rfl) dX5_mean_2 (fun H locs hP hD hS => ?_)
  have hP : va_P D vwCl (zW Y Z Z2 y 0 t c q b bc n ar fi rn T) H := hP
  have hD : va_D A (zW Y Z Z2 y 0 t c q b bc n ar fi rn T) := hD
  refine lv_iconst (v := 0) hx hb dX5_mean_5 (by decide) ?_
  refine lv_istore_n (lv' := [(1, .int 0), (0, .ref (Y 0))]) hx hb dX5_mean_6 rfl hl (by decide) rfl (fun ls hl => ?_)
  refine lv_iconst (v := 0) hx hb dX5_mean_7 (by decide) ?_
  refine lv_istore_n (lv' := [(2, .int 0), (1, .int 0), (0, .ref (Y 0))]) hx hb dX5_mean_8 rfl hl (by decide) rfl (fun ls hl => ?_)
  have loop1 : ∀ k, k ≤ c → ∀ (H : Heap) (locs : List Loc) (ls : Array Slot), va_P D vwCl (zW Y Z Z2 y 0 t c q b bc n ar fi rn T) H → va_D A (zW Y Z Z2 y 0 t c q b bc n ar fi rn T) → va_S A s.heap H locs → lv_has ls 3 [(2, .int (nI k)), (1, .int ((wattleN q k))), (0, .ref (Y 0))] → W p l e ({ frames := 2, cells := 0, slots := 0, locals := 43 } : Room) s m args below meth cd H locs 0 0 (MQ below (zMQ (some (.double (meanI (wattleN q c) (heldN q c)))) D (zW Y Z Z2 y 0 t c q b bc n ar fi rn T) A) args s 0 0 A) (F0 m 9 ls []) := by
    refine down ?_ ?_
    · intro H locs ls hP hD hS hl
      refine lv_iload_n hx hb dX5_mean_9 rfl (lv_at hl 0 rfl) ?_
      refine lv_aload_n hx hb dX5_mean_10 rfl (lv_at hl 2 rfl) ?_
      refine va_get (D := D) (ci := 5) (v := .int (nI c)) (C := RX5) (T := TX5) (N := 7) hx hb hts hinX5 hown hK hP (0) rfl rfl 2 (by decide) hf35 (fun _ h9 => h9) rfl dX5_mean_11 ?_
      refine lv_icmp_ge (tgt := 50) hx hb dX5_mean_14 (by decide) (fun c2 => ?_) (fun c2 => ?_)
      · have d2 := Int32.not_lt.mpr c2
        refine lv_aload_n hx hb dX5_mean_50 rfl (lv_at hl 2 rfl) ?_
        refine va_get (D := D) (ci := 5) (v := .ref (Z 0)) (C := RX5) (T := TX5) (N := 7) hx hb hts hinX5 hown hK hP (0) rfl rfl 5 (by decide) hf24 (fun _ h9 => h9) rfl dX5_mean_51 ?_
        refine zcNRV (As := []) (rest := []) (st1 := [.int ((heldN q c))]) ⟨hx, hb, hml, hown, hts⟩ (c_X4_held l D y Y Z (Z 0) (Z2 0) 0 t c q b bc n ar fi rn  (by omega)) (cwV 0 hts gX5_mean_X4_held rfl rfl rfl (by decide +kernel) ⟨Nat.le_of_ble_eq_true rfl, Nat.le_of_ble_eq_true rfl⟩) hN hK (zz_sP hP) (ci := 4) (q0 := 4) rfl rfl rfl rfl hl.1 rfl (lv_room (Nat.le_of_ble_eq_true rfl)) dX5_mean_54 ⟨Nat.le_of_ble_eq_true rfl, Nat.le_of_ble_eq_true rfl⟩ rfl ?_
        refine lv_if_ne (tgt := 64) hx hb dX5_mean_57 (by decide) (fun c3 => ?_) (fun c3 => ?_)
        · have d3 := c3
          refine lv_iload_n hx hb dX5_mean_64 rfl (lv_at hl 1 rfl) ?_
          refine lv_i2d hx hb dX5_mean_65 ?_
          refine lv_aload_n hx hb dX5_mean_66 rfl (lv_at hl 2 rfl) ?_
          refine va_get (D := D) (ci := 5) (v := .ref (Z 0)) (C := RX5) (T := TX5) (N := 7) hx hb hts hinX5 hown hK hP (0) rfl rfl 5 (by decide) hf24 (fun _ h9 => h9) rfl dX5_mean_67 ?_
          refine zcNRV (As := []) (rest := [.double ((FP.i2d (wattleN q c)))]) (st1 := [.int ((heldN q c)), .double ((FP.i2d (wattleN q c)))]) ⟨hx, hb, hml, hown, hts⟩ (c_X4_held l D y Y Z (Z 0) (Z2 0) 0 t c q b bc n ar fi rn  (by omega)) (cwV 0 hts gX5_mean_X4_held rfl rfl rfl (by decide +kernel) ⟨Nat.le_of_ble_eq_true rfl, Nat.le_of_ble_eq_true rfl⟩) hN hK (zz_sP hP) (ci := 4) (q0 := 4) rfl rfl rfl rfl hl.1 rfl (lv_room (Nat.le_of_ble_eq_true rfl)) dX5_mean_70 ⟨Nat.le_of_ble_eq_true rfl, Nat.le_of_ble_eq_true rfl⟩ rfl ?_
          refine lv_i2d hx hb dX5_mean_73 ?_
          have hne9 := hne c3
          refine lv_ddiv hx hb dX5_mean_74 hne9 ?_
          exact zM_d hx hb hr hlocks hS dX5_mean_75 (by simp [meanI, c3, d3]) hP
        · have d3 := c3
          refine lv_dconst0 hx hb dX5_mean_60 ?_
          refine lv_goto (tgt := 75) hx hb dX5_mean_61 (by decide) ?_
          exact zM_d hx hb hr hlocks hS dX5_mean_75 (by simp [meanI, c3, d3]) hP
      · exact absurd (nI_le (a := c) (b := c) (by omega) (by omega)) c2
    · intro k hkk ihk H locs ls hP hD hS hl
      refine lv_iload_n hx hb dX5_mean_9 rfl (lv_at hl 0 rfl) ?_
      refine lv_aload_n hx hb dX5_mean_10 rfl (lv_at hl 2 rfl) ?_
      refine va_get (D := D) (ci := 5) (v := .int (nI c)) (C := RX5) (T := TX5) (N := 7) hx hb hts hinX5 hown hK hP (0) rfl rfl 2 (by decide) hf35 (fun _ h9 => h9) rfl dX5_mean_11 ?_
      refine lv_icmp_ge (tgt := 50) hx hb dX5_mean_14 (by decide) (fun c4 => ?_) (fun c4 => ?_)
      · exact absurd c4 (nI_ge (a := k) (b := c) (by omega) (by omega))
      · have d4 := Int32.not_le.mp c4
        refine lv_iload_n hx hb dX5_mean_17 rfl (lv_at hl 1 rfl) ?_
        refine lv_aload_n hx hb dX5_mean_18 rfl (lv_at hl 2 rfl) ?_
        refine va_get (D := D) (ci := 5) (v := .ref (Z 0)) (C := RX5) (T := TX5) (N := 7) hx hb hts hinX5 hown hK hP (0) rfl rfl 5 (by decide) hf24 (fun _ h9 => h9) rfl dX5_mean_19 ?_
        refine lv_iload_n hx hb dX5_mean_22 rfl (lv_at hl 0 rfl) ?_
        refine zcRV (As := [.int (nI k)]) (rest := [.int ((wattleN q k))]) (st1 := [.int (zb (heldB q k)), .int ((wattleN q k))]) ⟨hx, hb, hml, hown, hts⟩ (c_X4_isHeld l D y Y Z (Z 0) (Z2 0) 0 t c q b bc n ar fi rn k (by omega)) (cwV 1 hts gX5_mean_X4_isHeld rfl rfl rfl (by decide +kernel) ⟨Nat.le_of_ble_eq_true rfl, Nat.le_of_ble_eq_true rfl⟩) hK (zz_sP hP) (ci := 4) (q0 := 4) rfl rfl rfl rfl hl.1 rfl (lv_room (Nat.le_of_ble_eq_true rfl)) dX5_mean_23 ⟨Nat.le_of_ble_eq_true rfl, Nat.le_of_ble_eq_true rfl⟩ rfl ?_
        refine lv_if_eq (tgt := 41) hx hb dX5_mean_26 (by decide) (fun c5 => ?_) (fun c5 => ?_)
        · have c5 : heldB q k = false := zb_f c5
          refine lv_iconst (v := 0) hx hb dX5_mean_41 (by decide) ?_
          refine lv_iadd hx hb dX5_mean_42 ?_
          refine lv_istore_n (lv' := [(1, .int (((wattleN q k) + 0))), (2, .int (nI k)), (0, .ref (Y 0))]) hx hb dX5_mean_43 rfl hl (by decide) rfl (fun ls hl => ?_)
          refine lv_iinc (v := nI (k + 1)) (lv' := [(2, .int (nI (k + 1))), (1, .int (((wattleN q k) + 0))), (0, .ref (Y 0))]) hx hb dX5_mean_44 hl (k := 1) rfl (nI_1 _) (by decide) rfl (fun ls hl => ?_)
          refine lv_goto (tgt := 9) hx hb dX5_mean_47 (by decide) ?_
          have e6 : (wattleN q (k + 1)) = ((wattleN q k) + 0) := by simp [wattleN_s, c5]
          refine ihk H locs ls ?_ ?_ hS ?_
          · first | exact hP | (simp only [e6]; exact hP)
          · first | exact hD | (simp only [e6]; exact hD)
          · first | exact lv_sub hl [0, 1, 2] rfl | (simp only [e6]; exact lv_sub hl [0, 1, 2] rfl)
        · have c5 : heldB q k = true := zb_t c5
          refine lv_aload_n hx hb dX5_mean_29 rfl (lv_at hl 2 rfl) ?_
          refine va_get (D := D) (ci := 5) (v := .ref (Z 0)) (C := RX5) (T := TX5) (N := 7) hx hb hts hinX5 hown hK hP (0) rfl rfl 5 (by decide) hf24 (fun _ h9 => h9) rfl dX5_mean_30 ?_
          refine va_getN (D := D) (ci := 4) (v := .ref (Z 2)) (C := RX4) (T := TX4) (N := 16) hx hb hts hinX4 hown hK hP (4) rfl rfl 2 (by decide) hf52 (fun _ h9 => h9) rfl dX5_mean_33 ?_
          refine lv_iload_n hx hb dX5_mean_36 rfl (lv_at hl 0 rfl) ?_
          refine z_ald hx hb hK hP 6 (f := q 2) rfl k rfl (by omega) (by decide) dX5_mean_37 ?_
          refine lv_goto (tgt := 42) hx hb dX5_mean_38 (by decide) ?_
          refine lv_iadd hx hb dX5_mean_42 ?_
          refine lv_istore_n (lv' := [(1, .int (((wattleN q k) + (q 2 k)))), (2, .int (nI k)), (0, .ref (Y 0))]) hx hb dX5_mean_43 rfl hl (by decide) rfl (fun ls hl => ?_)
          refine lv_iinc (v := nI (k + 1)) (lv' := [(2, .int (nI (k + 1))), (1, .int (((wattleN q k) + (q 2 k)))), (0, .ref (Y 0))]) hx hb dX5_mean_44 hl (k := 1) rfl (nI_1 _) (by decide) rfl (fun ls hl => ?_)
          refine lv_goto (tgt := 9) hx hb dX5_mean_47 (by decide) ?_
          have e7 : (wattleN q (k + 1)) = ((wattleN q k) + (q 2 k)) := by simp [wattleN_s, c5]
          refine ihk H locs ls ?_ ?_ hS ?_
          · first | exact hP | (simp only [e7]; exact hP)
          · first | exact hD | (simp only [e7]; exact hD)
          · first | exact lv_sub hl [0, 1, 2] rfl | (simp only [e7]; exact lv_sub hl [0, 1, 2] rfl)
  exact loop1 0 (Nat.zero_le _) H locs ls hP hD hS (lv_sub hl [0, 1, 2] rfl)
