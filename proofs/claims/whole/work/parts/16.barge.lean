set_option maxHeartbeats 4000000 in
set_option maxRecDepth 100000 in
theorem c_X0_makeNew (l : Launch) (D : va_G) (y : Nat → ClassId) (h : Nat) (b : Fld) (k : Nat) (p0 p1 : Int32)  (sz : Nat) : zM l yX0_makeNew wsX0_makeNew { frames := 0, cells := 0, slots := 0, locals := 0 } D y [.ref h, .int p0, .int p1] ([(h, .inr (0, bF b k))]) sz (none) ([(h, .inr (0, bF (newB b k p0 p1) k))]) 0 0 := by
  refine zM.of (cc := cX0_makeNew) (maxL := 3) (ret := none) (own := RX0) (by decide) rfl (Nat.le_of_ble_eq_true rfl) rfl ?_
  intro p e s m args below meth cd ls A hx hb hr hml hown hts hlocks hP hK hD hA hS hl hin
  have hS0 := hS
  have hl : lv_has ls 3 [(0, .ref h), (1, .int p0), (2, .int p1)] := hl
  have hf9 : (Cond.fieldLink RX0 9 "StakeWeirs$Barge" "ticket" "I").before args s = true := hts _ (by decide +kernel)
  have hinX0 : ∀ w ∈ wsX00, w ∈ wsX0_makeNew := by decide +kernel
  have hf15 : (Cond.fieldLink RX0 15 "StakeWeirs$Barge" "wide" "I").before args s = true := hts _ (by decide +kernel)
  have hf18 : (Cond.fieldLink RX0 18 "StakeWeirs$Barge" "place" "I").before args s = true := hts _ (by decide +kernel)
  have hf21 : (Cond.fieldLink RX0 21 "StakeWeirs$Barge" "broken" "I").before args s = true := hts _ (by decide +kernel)
  refine lv_aload_n hx hb dX0_makeNew_0 rfl (lv_at hl 0 rfl) ?_
  refine lv_iload_n hx hb dX0_makeNew_1 rfl (lv_at hl 1 rfl) ?_
  refine va_put (D := D) (ci := 0) (v := .int p0) (ty := .int) (C := RX0) (T := TX0) (N := 4) hx hb hts hinX0 tyX0 tyX0_ok nmX0 hown hK hP hD hS (0) rfl rfl 0 (by decide) hf9 (fun _ h9 => h9) rfl (by decide +kernel) rfl rfl (Nat.le_of_ble_eq_true rfl) dX0_makeNew_2 (fun H locs hP hD hS => ?_)
  have hP : va_P D vwCl ([(h, .inr (0, bF (up2 b 0 k p0) k))]) H := by rw [← bF_0]; exact hP
  have hD : va_D A ([(h, .inr (0, bF (up2 b 0 k p0) k))]) := by rw [← bF_0]; exact hD
  refine lv_aload_n hx hb dX0_makeNew_5 rfl (lv_at hl 0 rfl) ?_
  refine lv_iload_n hx hb dX0_makeNew_6 rfl (lv_at hl 2 rfl) ?_
  refine va_put (D := D) (ci := 0) (v := .int p1) (ty := .int) (C := RX0) (T := TX0) (N := 4) hx hb hts hinX0 tyX0 tyX0_ok nmX0 hown hK hP hD hS (0) rfl rfl 1 (by decide) hf15 (fun _ h9 => h9) rfl (by decide +kernel) rfl rfl (Nat.le_of_ble_eq_true rfl) dX0_makeNew_7 (fun H locs hP hD hS => ?_)
  have hP : va_P D vwCl ([(h, .inr (0, bF (up2 (up2 b 0 k p0) 1 k p1) k))]) H := by rw [← bF_1]; exact hP
  have hD : va_D A ([(h, .inr (0, bF (up2 (up2 b 0 k p0) 1 k p1) k))]) := by rw [← bF_1]; exact hD
  refine lv_aload_n hx hb dX0_makeNew_10 rfl (lv_at hl 0 rfl) ?_
  refine lv_iconst (v := (-1)) hx hb dX0_makeNew_11 (by decide) ?_
  refine va_put (D := D) (ci := 0) (v := .int (-1)) (ty := .int) (C := RX0) (T := TX0) (N := 4) hx hb hts hinX0 tyX0 tyX0_ok nmX0 hown hK hP hD hS (0) rfl rfl 2 (by decide) hf18 (fun _ h9 => h9) rfl (by decide +kernel) rfl rfl (Nat.le_of_ble_eq_true rfl) dX0_makeNew_12 (fun H locs hP hD hS => ?_)
  have hP : va_P D vwCl ([(h, .inr (0, bF (up2 (up2 (up2 b 0 k p0) 1 k p1) 2 k (-1)) k))]) H := by rw [← bF_2]; exact hP
  have hD : va_D A ([(h, .inr (0, bF (up2 (up2 (up2 b 0 k p0) 1 k p1) 2 k (-1)) k))]) := by rw [← bF_2]; exact hD
  refine lv_aload_n hx hb dX0_makeNew_15 rfl (lv_at hl 0 rfl) ?_
  refine lv_iconst (v := 0) hx hb dX0_makeNew_16 (by decide) ?_
  refine va_put (D := D) (ci := 0) (v := .int 0) (ty := .int) (C := RX0) (T := TX0) (N := 4) hx hb hts hinX0 tyX0 tyX0_ok nmX0 hown hK hP hD hS (0) rfl rfl 3 (by decide) hf21 (fun _ h9 => h9) rfl (by decide +kernel) rfl rfl (Nat.le_of_ble_eq_true rfl) dX0_makeNew_17 (fun H locs hP hD hS => ?_)
  have hP : va_P D vwCl ([(h, .inr (0, bF (up2 (up2 (up2 (up2 b 0 k p0) 1 k p1) 2 k (-1)) 3 k 0) k))]) H := by rw [← bF_3]; exact hP
  have hD : va_D A ([(h, .inr (0, bF (up2 (up2 (up2 (up2 b 0 k p0) 1 k p1) 2 k (-1)) 3 k 0) k))]) := by rw [← bF_3]; exact hD
  exact zM_v hx hb hr hlocks hS dX0_makeNew_20 rfl hP
set_option maxHeartbeats 4000000 in
set_option maxRecDepth 100000 in
theorem c_X0_goOn (l : Launch) (D : va_G) (y : Nat → ClassId) (h : Nat) (b : Fld) (k : Nat) (x : Int32)  (sz : Nat) : zM l yX0_goOn wsX0_goOn { frames := 1, cells := 0, slots := 0, locals := 21 } D y [.ref h, .int x] ([(h, .inr (0, bF b k))]) sz (none) ([(h, .inr (0, bF (goB b k x) k))]) 0 0 := by
  refine zM.of (cc := cX0_goOn) (maxL := 2) (ret := none) (own := RX0) (by decide) rfl (Nat.le_of_ble_eq_true rfl) rfl ?_
  intro p e s m args below meth cd ls A hx hb hr hml hown hts hlocks hP hK hD hA hS hl hin
  have hS0 := hS
  have hl : lv_has ls 2 [(0, .ref h), (1, .int x)] := hl
  have hf18 : (Cond.fieldLink RX0 18 "StakeWeirs$Barge" "place" "I").before args s = true := hts _ (by decide +kernel)
  have hinX0 : ∀ w ∈ wsX00, w ∈ wsX0_goOn := by decide +kernel
  have hlmin24 : (Cond.methodLink RX0 24 Lib.Math.min.name).before args s = true := hts _ (by decide +kernel)
  have hstmin : (Cond.static Lib.Math.min.name).before args s = true := hts _ (by decide +kernel)
  have hiM : (Cond.initialized "java/lang/Math").before args s = true := hts _ (by decide +kernel)
  have hcmin : (Cond.code Lib.Math.min.name Lib.Math.min.code 2 (some .int)).before args s = true := hts _ (by decide +kernel)
  refine lv_aload_n hx hb dX0_goOn_0 rfl (lv_at hl 0 rfl) ?_
  refine lv_aload_n hx hb dX0_goOn_1 rfl (lv_at hl 0 rfl) ?_
  refine va_get (D := D) (ci := 0) (v := .int ((b 2 k))) (C := RX0) (T := TX0) (N := 4) hx hb hts hinX0 hown hK hP (0) rfl rfl 2 (by decide) hf18 (fun _ h9 => h9) rfl dX0_goOn_2 ?_
  refine lv_iconst (v := 5) hx hb dX0_goOn_5 (by decide) ?_
  refine lv_iadd hx hb dX0_goOn_6 ?_
  refine lv_iload_n hx hb dX0_goOn_7 rfl (lv_at hl 1 rfl) ?_
  refine va_mmin hx hb (hml.trans hl.1.symm) hown hlmin24 hstmin hiM hcmin (Nat.le_of_ble_eq_true rfl) (Nat.le_of_ble_eq_true rfl) (Nat.le_of_ble_eq_true rfl) (Nat.le_of_ble_eq_true rfl) dX0_goOn_8 ?_
  refine va_put (D := D) (ci := 0) (v := .int ((minI (((b 2 k) + 5)) x))) (ty := .int) (C := RX0) (T := TX0) (N := 4) hx hb hts hinX0 tyX0 tyX0_ok nmX0 hown hK hP hD hS (0) rfl rfl 2 (by decide) hf18 (fun _ h9 => h9) rfl (by decide +kernel) rfl rfl (Nat.le_of_ble_eq_true rfl) dX0_goOn_11 (fun H locs hP hD hS => ?_)
  have hP : va_P D vwCl ([(h, .inr (0, bF (up2 b 2 k (minI (((b 2 k) + 5)) x)) k))]) H := by rw [← bF_2]; exact hP
  have hD : va_D A ([(h, .inr (0, bF (up2 b 2 k (minI (((b 2 k) + 5)) x)) k))]) := by rw [← bF_2]; exact hD
  exact zM_v hx hb hr hlocks hS dX0_goOn_14 rfl hP
set_option maxHeartbeats 4000000 in
set_option maxRecDepth 100000 in
theorem c_X0_copyFrom (l : Launch) (D : va_G) (y : Nat → ClassId) (h h2 : Nat) (b b2 : Fld) (k k2 : Nat)  (sz : Nat) : zM l yX0_copyFrom wsX0_copyFrom { frames := 0, cells := 0, slots := 0, locals := 0 } D y [.ref h, .ref h2] ([(h, .inr (0, bF b k)), (h2, .inr (0, bF b2 k2))]) sz (none) ([(h, .inr (0, bF (cpF b k b2 k2) k)), (h2, .inr (0, bF b2 k2))]) 0 0 := by
  refine zM.of (cc := cX0_copyFrom) (maxL := 2) (ret := none) (own := RX0) (by decide) rfl (Nat.le_of_ble_eq_true rfl) rfl ?_
  intro p e s m args below meth cd ls A hx hb hr hml hown hts hlocks hP hK hD hA hS hl hin
  have hS0 := hS
  have hl : lv_has ls 2 [(0, .ref h), (1, .ref h2)] := hl
  have hf9 : (Cond.fieldLink RX0 9 "StakeWeirs$Barge" "ticket" "I").before args s = true := hts _ (by decide +kernel)
  have hinX0 : ∀ w ∈ wsX00, w ∈ wsX0_copyFrom := by decide +kernel
  have hf15 : (Cond.fieldLink RX0 15 "StakeWeirs$Barge" "wide" "I").before args s = true := hts _ (by decide +kernel)
  have hf18 : (Cond.fieldLink RX0 18 "StakeWeirs$Barge" "place" "I").before args s = true := hts _ (by decide +kernel)
  have hf21 : (Cond.fieldLink RX0 21 "StakeWeirs$Barge" "broken" "I").before args s = true := hts _ (by decide +kernel)
  refine lv_aload_n hx hb dX0_copyFrom_0 rfl (lv_at hl 0 rfl) ?_
  refine lv_aload_n hx hb dX0_copyFrom_1 rfl (lv_at hl 1 rfl) ?_
  refine va_get (D := D) (ci := 0) (v := .int ((b2 0 k2))) (C := RX0) (T := TX0) (N := 4) hx hb hts hinX0 hown hK hP (1) rfl rfl 0 (by decide) hf9 (fun _ h9 => h9) rfl dX0_copyFrom_2 ?_
  refine va_put (D := D) (ci := 0) (v := .int ((b2 0 k2))) (ty := .int) (C := RX0) (T := TX0) (N := 4) hx hb hts hinX0 tyX0 tyX0_ok nmX0 hown hK hP hD hS (0) rfl rfl 0 (by decide) hf9 (fun _ h9 => h9) rfl (by decide +kernel) rfl rfl (Nat.le_of_ble_eq_true rfl) dX0_copyFrom_5 (fun H locs hP hD hS => ?_)
  have hP : va_P D vwCl ([(h, .inr (0, bF (up2 b 0 k (b2 0 k2)) k)), (h2, .inr (0, bF b2 k2))]) H := by rw [← bF_0]; exact hP
  have hD : va_D A ([(h, .inr (0, bF (up2 b 0 k (b2 0 k2)) k)), (h2, .inr (0, bF b2 k2))]) := by rw [← bF_0]; exact hD
  refine lv_aload_n hx hb dX0_copyFrom_8 rfl (lv_at hl 0 rfl) ?_
  refine lv_aload_n hx hb dX0_copyFrom_9 rfl (lv_at hl 1 rfl) ?_
  refine va_get (D := D) (ci := 0) (v := .int ((b2 1 k2))) (C := RX0) (T := TX0) (N := 4) hx hb hts hinX0 hown hK hP (1) rfl rfl 1 (by decide) hf15 (fun _ h9 => h9) rfl dX0_copyFrom_10 ?_
  refine va_put (D := D) (ci := 0) (v := .int ((b2 1 k2))) (ty := .int) (C := RX0) (T := TX0) (N := 4) hx hb hts hinX0 tyX0 tyX0_ok nmX0 hown hK hP hD hS (0) rfl rfl 1 (by decide) hf15 (fun _ h9 => h9) rfl (by decide +kernel) rfl rfl (Nat.le_of_ble_eq_true rfl) dX0_copyFrom_13 (fun H locs hP hD hS => ?_)
  have hP : va_P D vwCl ([(h, .inr (0, bF (up2 (up2 b 0 k (b2 0 k2)) 1 k (b2 1 k2)) k)), (h2, .inr (0, bF b2 k2))]) H := by rw [← bF_1]; exact hP
  have hD : va_D A ([(h, .inr (0, bF (up2 (up2 b 0 k (b2 0 k2)) 1 k (b2 1 k2)) k)), (h2, .inr (0, bF b2 k2))]) := by rw [← bF_1]; exact hD
  refine lv_aload_n hx hb dX0_copyFrom_16 rfl (lv_at hl 0 rfl) ?_
  refine lv_aload_n hx hb dX0_copyFrom_17 rfl (lv_at hl 1 rfl) ?_
  refine va_get (D := D) (ci := 0) (v := .int ((b2 2 k2))) (C := RX0) (T := TX0) (N := 4) hx hb hts hinX0 hown hK hP (1) rfl rfl 2 (by decide) hf18 (fun _ h9 => h9) rfl dX0_copyFrom_18 ?_
  refine va_put (D := D) (ci := 0) (v := .int ((b2 2 k2))) (ty := .int) (C := RX0) (T := TX0) (N := 4) hx hb hts hinX0 tyX0 tyX0_ok nmX0 hown hK hP hD hS (0) rfl rfl 2 (by decide) hf18 (fun _ h9 => h9) rfl (by decide +kernel) rfl rfl (Nat.le_of_ble_eq_true rfl) dX0_copyFrom_21 (fun H locs hP hD hS => ?_)
  have hP : va_P D vwCl ([(h, .inr (0, bF (up2 (up2 (up2 b 0 k (b2 0 k2)) 1 k (b2 1 k2)) 2 k (b2 2 k2)) k)), (h2, .inr (0, bF b2 k2))]) H := by rw [← bF_2]; exact hP
  have hD : va_D A ([(h, .inr (0, bF (up2 (up2 (up2 b 0 k (b2 0 k2)) 1 k (b2 1 k2)) 2 k (b2 2 k2)) k)), (h2, .inr (0, bF b2 k2))]) := by rw [← bF_2]; exact hD
  refine lv_aload_n hx hb dX0_copyFrom_24 rfl (lv_at hl 0 rfl) ?_
  refine lv_aload_n hx hb dX0_copyFrom_25 rfl (lv_at hl 1 rfl) ?_
  refine va_get (D := D) (ci := 0) (v := .int ((b2 3 k2))) (C := RX0) (T := TX0) (N := 4) hx hb hts hinX0 hown hK hP (1) rfl rfl 3 (by decide) hf21 (fun _ h9 => h9) rfl dX0_copyFrom_26 ?_
  refine va_put (D := D) (ci := 0) (v := .int ((b2 3 k2))) (ty := .int) (C := RX0) (T := TX0) (N := 4) hx hb hts hinX0 tyX0 tyX0_ok nmX0 hown hK hP hD hS (0) rfl rfl 3 (by decide) hf21 (fun _ h9 => h9) rfl (by decide +kernel) rfl rfl (Nat.le_of_ble_eq_true rfl) dX0_copyFrom_29 (fun H locs hP hD hS => ?_)
  have hP : va_P D vwCl ([(h, .inr (0, bF (up2 (up2 (up2 (up2 b 0 k (b2 0 k2)) 1 k (b2 1 k2)) 2 k (b2 2 k2)) 3 k (b2 3 k2)) k)), (h2, .inr (0, bF b2 k2))]) H := by rw [← bF_3]; exact hP
  have hD : va_D A ([(h, .inr (0, bF (up2 (up2 (up2 (up2 b 0 k (b2 0 k2)) 1 k (b2 1 k2)) 2 k (b2 2 k2)) 3 k (b2 3 k2)) k)), (h2, .inr (0, bF b2 k2))]) := by rw [← bF_3]; exact hD
  exact zM_v hx hb hr hlocks hS dX0_copyFrom_32 rfl (by rw [show bF (cpF b k b2 k2) k = bF ((up2 (up2 (up2 (up2 b 0 k (b2 0 k2)) 1 k (b2 1 k2)) 2 k (b2 2 k2)) 3 k (b2 3 k2))) k from by simp [bF, cpF, up2, upd]]; exact hP)
set_option maxHeartbeats 4000000 in
set_option maxRecDepth 100000 in
theorem c_X0_copyFrom_self (l : Launch) (D : va_G) (y : Nat → ClassId) (h : Nat) (b : Fld) (k : Nat)  (sz : Nat) : zM l yX0_copyFrom wsX0_copyFrom { frames := 0, cells := 0, slots := 0, locals := 0 } D y [.ref h, .ref h] ([(h, .inr (0, bF b k))]) sz (none) ([(h, .inr (0, bF b k))]) 0 0 := by
  refine zM.of (cc := cX0_copyFrom) (maxL := 2) (ret := none) (own := RX0) (by decide) rfl (Nat.le_of_ble_eq_true rfl) rfl ?_
  intro p e s m args below meth cd ls A hx hb hr hml hown hts hlocks hP hK hD hA hS hl hin
  have hS0 := hS
  have hl : lv_has ls 2 [(0, .ref h), (1, .ref h)] := hl
  have hf9 : (Cond.fieldLink RX0 9 "StakeWeirs$Barge" "ticket" "I").before args s = true := hts _ (by decide +kernel)
  have hinX0 : ∀ w ∈ wsX00, w ∈ wsX0_copyFrom := by decide +kernel
  have hf15 : (Cond.fieldLink RX0 15 "StakeWeirs$Barge" "wide" "I").before args s = true := hts _ (by decide +kernel)
  have hf18 : (Cond.fieldLink RX0 18 "StakeWeirs$Barge" "place" "I").before args s = true := hts _ (by decide +kernel)
  have hf21 : (Cond.fieldLink RX0 21 "StakeWeirs$Barge" "broken" "I").before args s = true := hts _ (by decide +kernel)
  refine lv_aload_n hx hb dX0_copyFrom_0 rfl (lv_at hl 0 rfl) ?_
  refine lv_aload_n hx hb dX0_copyFrom_1 rfl (lv_at hl 1 rfl) ?_
  refine va_get (D := D) (ci := 0) (v := .int ((b 0 k))) (C := RX0) (T := TX0) (N := 4) hx hb hts hinX0 hown hK hP (0) rfl rfl 0 (by decide) hf9 (fun _ h9 => h9) rfl dX0_copyFrom_2 ?_
  refine va_put (D := D) (ci := 0) (v := .int ((b 0 k))) (ty := .int) (C := RX0) (T := TX0) (N := 4) hx hb hts hinX0 tyX0 tyX0_ok nmX0 hown hK hP hD hS (0) rfl rfl 0 (by decide) hf9 (fun _ h9 => h9) rfl (by decide +kernel) rfl rfl (Nat.le_of_ble_eq_true rfl) dX0_copyFrom_5 (fun H locs hP hD hS => ?_)
  have hP : va_P D vwCl ([(h, .inr (0, bF (up2 b 0 k (b 0 k)) k))]) H := by rw [← bF_0]; exact hP
  have hD : va_D A ([(h, .inr (0, bF (up2 b 0 k (b 0 k)) k))]) := by rw [← bF_0]; exact hD
  refine lv_aload_n hx hb dX0_copyFrom_8 rfl (lv_at hl 0 rfl) ?_
  refine lv_aload_n hx hb dX0_copyFrom_9 rfl (lv_at hl 1 rfl) ?_
  refine va_get (D := D) (ci := 0) (v := .int ((b 1 k))) (C := RX0) (T := TX0) (N := 4) hx hb hts hinX0 hown hK hP (0) rfl rfl 1 (by decide) hf15 (fun _ h9 => h9) rfl dX0_copyFrom_10 ?_
  refine va_put (D := D) (ci := 0) (v := .int ((b 1 k))) (ty := .int) (C := RX0) (T := TX0) (N := 4) hx hb hts hinX0 tyX0 tyX0_ok nmX0 hown hK hP hD hS (0) rfl rfl 1 (by decide) hf15 (fun _ h9 => h9) rfl (by decide +kernel) rfl rfl (Nat.le_of_ble_eq_true rfl) dX0_copyFrom_13 (fun H locs hP hD hS => ?_)
  have hP : va_P D vwCl ([(h, .inr (0, bF (up2 (up2 b 0 k (b 0 k)) 1 k (b 1 k)) k))]) H := by rw [← bF_1]; exact hP
  have hD : va_D A ([(h, .inr (0, bF (up2 (up2 b 0 k (b 0 k)) 1 k (b 1 k)) k))]) := by rw [← bF_1]; exact hD
  refine lv_aload_n hx hb dX0_copyFrom_16 rfl (lv_at hl 0 rfl) ?_
  refine lv_aload_n hx hb dX0_copyFrom_17 rfl (lv_at hl 1 rfl) ?_
  refine va_get (D := D) (ci := 0) (v := .int ((b 2 k))) (C := RX0) (T := TX0) (N := 4) hx hb hts hinX0 hown hK hP (0) rfl rfl 2 (by decide) hf18 (fun _ h9 => h9) rfl dX0_copyFrom_18 ?_
  refine va_put (D := D) (ci := 0) (v := .int ((b 2 k))) (ty := .int) (C := RX0) (T := TX0) (N := 4) hx hb hts hinX0 tyX0 tyX0_ok nmX0 hown hK hP hD hS (0) rfl rfl 2 (by decide) hf18 (fun _ h9 => h9) rfl (by decide +kernel) rfl rfl (Nat.le_of_ble_eq_true rfl) dX0_copyFrom_21 (fun H locs hP hD hS => ?_)
  have hP : va_P D vwCl ([(h, .inr (0, bF (up2 (up2 (up2 b 0 k (b 0 k)) 1 k (b 1 k)) 2 k (b 2 k)) k))]) H := by rw [← bF_2]; exact hP
  have hD : va_D A ([(h, .inr (0, bF (up2 (up2 (up2 b 0 k (b 0 k)) 1 k (b 1 k)) 2 k (b 2 k)) k))]) := by rw [← bF_2]; exact hD
  refine lv_aload_n hx hb dX0_copyFrom_24 rfl (lv_at hl 0 rfl) ?_
  refine lv_aload_n hx hb dX0_copyFrom_25 rfl (lv_at hl 1 rfl) ?_
  refine va_get (D := D) (ci := 0) (v := .int ((b 3 k))) (C := RX0) (T := TX0) (N := 4) hx hb hts hinX0 hown hK hP (0) rfl rfl 3 (by decide) hf21 (fun _ h9 => h9) rfl dX0_copyFrom_26 ?_
  refine va_put (D := D) (ci := 0) (v := .int ((b 3 k))) (ty := .int) (C := RX0) (T := TX0) (N := 4) hx hb hts hinX0 tyX0 tyX0_ok nmX0 hown hK hP hD hS (0) rfl rfl 3 (by decide) hf21 (fun _ h9 => h9) rfl (by decide +kernel) rfl rfl (Nat.le_of_ble_eq_true rfl) dX0_copyFrom_29 (fun H locs hP hD hS => ?_)
  have hP : va_P D vwCl ([(h, .inr (0, bF (up2 (up2 (up2 (up2 b 0 k (b 0 k)) 1 k (b 1 k)) 2 k (b 2 k)) 3 k (b 3 k)) k))]) H := by rw [← bF_3]; exact hP
  have hD : va_D A ([(h, .inr (0, bF (up2 (up2 (up2 (up2 b 0 k (b 0 k)) 1 k (b 1 k)) 2 k (b 2 k)) 3 k (b 3 k)) k))]) := by rw [← bF_3]; exact hD
  exact zM_v hx hb hr hlocks hS dX0_copyFrom_32 rfl (by rw [show bF b k = bF ((up2 (up2 (up2 (up2 b 0 k (b 0 k)) 1 k (b 1 k)) 2 k (b 2 k)) 3 k (b 3 k))) k from by simp [bF, up2, upd]]; exact hP)
