set_option maxHeartbeats 1000000 in
set_option maxRecDepth 100000 in
theorem c_X4_init (l : Launch) (D : va_G) (y : Nat → ClassId) (h Y0 : Nat)  (sz : Nat) : zC l yX4_init wsX4_init { frames := 1, cells := 10, slots := 56, locals := 20 } D y [.ref h, .ref Y0] ([(h, .inr (4, [.int 0, .null, .null, .null, .null, .null, .null, .int 0, .null, .null, .null, .null, .int 0, .int 0, .int 0, .null]))]) sz (fun w1 => ∃ Z : Nat → Nat, Z 0 = h ∧ w1 = stW Z Y0 y (fun _ _ => 0) (fun _ _ => 0) 0 0 0 0 0) 10 56 := by
  refine zC.of (cc := cX4_init) (maxL := 2) (ret := none) (own := RX4) (by decide) rfl (Nat.le_of_ble_eq_true rfl) rfl ?_
  intro p e s m args below meth cd ls A H locs hx hb hr hml hown hts hlocks hP hK hD hA hS hQ0 hl hin
  have hl : lv_has ls 2 [(0, .ref h), (1, .ref Y0)] := hl
  have hf3 : (Cond.fieldLink RX4 3 "StakeWeirsModel$State" "this$0" "LStakeWeirsModel;").before args s = true := hts _ (by decide +kernel)
  have hinX4 : ∀ w ∈ wsX40, w ∈ wsX4_init := by decide +kernel
  have hoi9 : (Cond.methodLink RX4 9 objectInit).before args s = true := hts _ (by decide +kernel)
  have hoI : (Cond.instanceMethod objectInit).before args s = true := hts _ (by decide +kernel)
  have hoC : (Cond.code objectInit ⟨#[0xb1]⟩ 1 none).before args s = true := hts _ (by decide +kernel)
  have harr : (Cond.arrayClass .int).before args s = true := hts _ (by decide +kernel)
  have hf15 : (Cond.fieldLink RX4 15 "StakeWeirsModel$State" "stakes" "[I").before args s = true := hts _ (by decide +kernel)
  have hf19 : (Cond.fieldLink RX4 19 "StakeWeirsModel$State" "wattle" "[I").before args s = true := hts _ (by decide +kernel)
  have hf22 : (Cond.fieldLink RX4 22 "StakeWeirsModel$State" "coins" "[I").before args s = true := hts _ (by decide +kernel)
  have hf25 : (Cond.fieldLink RX4 25 "StakeWeirsModel$State" "eels" "[I").before args s = true := hts _ (by decide +kernel)
  have hf28 : (Cond.fieldLink RX4 28 "StakeWeirsModel$State" "open" "[I").before args s = true := hts _ (by decide +kernel)
  have hf31 : (Cond.fieldLink RX4 31 "StakeWeirsModel$State" "owes" "[I").before args s = true := hts _ (by decide +kernel)
  have hf34 : (Cond.fieldLink RX4 34 "StakeWeirsModel$State" "wide" "[I").before args s = true := hts _ (by decide +kernel)
  have hf37 : (Cond.fieldLink RX4 37 "StakeWeirsModel$State" "at" "[I").before args s = true := hts _ (by decide +kernel)
  have hf40 : (Cond.fieldLink RX4 40 "StakeWeirsModel$State" "broken" "[I").before args s = true := hts _ (by decide +kernel)
  have hf43 : (Cond.fieldLink RX4 43 "StakeWeirsModel$State" "was" "[I").before args s = true := hts _ (by decide +kernel)
  refine lv_aload_n hx hb dX4_init_0 rfl (lv_at hl 0 rfl) ?_
  refine lv_aload_n hx hb dX4_init_1 rfl (lv_at hl 1 rfl) ?_
  refine va_putF (D := D) (ci := 4) (v := .ref Y0) (ty := .object "StakeWeirsModel") (C := RX4) (T := TX4) (N := 16) hx hb hts hinX4 tyX4 tyX4_ok nmX4 hown hK hP hD hS (0) rfl rfl 15 (by decide) hf3 (fun _ h9 => h9) rfl hin rfl (by decide +kernel) rfl rfl (Nat.le_of_ble_eq_true rfl) dX4_init_2 (fun H locs hP hD hS => ?_)
  have hP : va_P D vwCl ([(h, .inr (4, [.int 0, .null, .null, .null, .null, .null, .null, .int 0, .null, .null, .null, .null, .int 0, .int 0, .int 0, .ref Y0]))]) H := hP
  have hD : va_D A ([(h, .inr (4, [.int 0, .null, .null, .null, .null, .null, .null, .int 0, .null, .null, .null, .null, .int 0, .int 0, .int 0, .ref Y0]))]) := hD
  refine lv_aload_n hx hb dX4_init_5 rfl (lv_at hl 0 rfl) ?_
  refine W.objInit hx hb hown hoi9 hoI hoC rfl (hl.1.trans hml.symm) rfl dX4_init_6 (Nat.le_of_ble_eq_true rfl) (Nat.le_of_ble_eq_true rfl) ?_
  show W _ _ _ _ _ _ _ _ _ _ _ _ _ _ _ (F0 m 9 ls [])
  refine lv_aload_n hx hb dX4_init_9 rfl (lv_at hl 0 rfl) ?_
  refine lv_bipush (v := 6) hx hb dX4_init_10 (by decide) ?_
  refine va_newa (atype := .int) (ty := .int) (a0 := (6, .inl (fun _ => 0))) (N' := 6) hx hb harr rfl hK hP hD hS hA (fun _ => rfl) (by decide) rfl (by have h9 : componentBytes .int = 4 := rfl; omega) (Nat.le_of_ble_eq_true rfl) (Nat.le_of_ble_eq_true rfl) dX4_init_12 (fun n1 cA H hKn hP hD hS => ?_)
  obtain rfl := z_uq hKn 0 rfl
  have hP : va_P D vwCl ([(h, .inr (4, [.int 0, .null, .null, .null, .null, .null, .null, .int 0, .null, .null, .null, .null, .int 0, .int 0, .int 0, .ref Y0])), (n1, .inl (y 0, 6, .inl (fun _ => 0)))]) H := hP
  have hD : va_D A ([(h, .inr (4, [.int 0, .null, .null, .null, .null, .null, .null, .int 0, .null, .null, .null, .null, .int 0, .int 0, .int 0, .ref Y0])), (n1, .inl (y 0, 6, .inl (fun _ => 0)))]) := hD
  refine va_putF (D := D) (ci := 4) (v := .ref n1) (ty := .array .int) (C := RX4) (T := TX4) (N := 16) hx hb hts hinX4 tyX4 tyX4_ok nmX4 hown hK hP hD hS (0) rfl rfl 1 (by decide) hf15 (fun _ h9 => h9) rfl hin rfl (by decide +kernel) rfl rfl (Nat.le_of_ble_eq_true rfl) dX4_init_14 (fun H locs hP hD hS => ?_)
  have hP : va_P D vwCl ([(h, .inr (4, [.int 0, .ref n1, .null, .null, .null, .null, .null, .int 0, .null, .null, .null, .null, .int 0, .int 0, .int 0, .ref Y0])), (n1, .inl (y 0, 6, .inl (fun _ => 0)))]) H := hP
  have hD : va_D A ([(h, .inr (4, [.int 0, .ref n1, .null, .null, .null, .null, .null, .int 0, .null, .null, .null, .null, .int 0, .int 0, .int 0, .ref Y0])), (n1, .inl (y 0, 6, .inl (fun _ => 0)))]) := hD
  refine lv_aload_n hx hb dX4_init_17 rfl (lv_at hl 0 rfl) ?_
  refine lv_bipush (v := 6) hx hb dX4_init_18 (by decide) ?_
  refine va_newa (atype := .int) (ty := .int) (a0 := (6, .inl (fun _ => 0))) (N' := 6) hx hb harr rfl hK hP hD hS hA (fun _ => rfl) (by decide) rfl (by have h9 : componentBytes .int = 4 := rfl; omega) (Nat.le_of_ble_eq_true rfl) (Nat.le_of_ble_eq_true rfl) dX4_init_20 (fun n2 cA H hKn hP hD hS => ?_)
  obtain rfl := z_uq hKn 0 rfl
  have hP : va_P D vwCl ([(h, .inr (4, [.int 0, .ref n1, .null, .null, .null, .null, .null, .int 0, .null, .null, .null, .null, .int 0, .int 0, .int 0, .ref Y0])), (n1, .inl (y 0, 6, .inl (fun _ => 0))), (n2, .inl (y 0, 6, .inl (fun _ => 0)))]) H := hP
  have hD : va_D A ([(h, .inr (4, [.int 0, .ref n1, .null, .null, .null, .null, .null, .int 0, .null, .null, .null, .null, .int 0, .int 0, .int 0, .ref Y0])), (n1, .inl (y 0, 6, .inl (fun _ => 0))), (n2, .inl (y 0, 6, .inl (fun _ => 0)))]) := hD
  refine va_putF (D := D) (ci := 4) (v := .ref n2) (ty := .array .int) (C := RX4) (T := TX4) (N := 16) hx hb hts hinX4 tyX4 tyX4_ok nmX4 hown hK hP hD hS (0) rfl rfl 2 (by decide) hf19 (fun _ h9 => h9) rfl hin rfl (by decide +kernel) rfl rfl (Nat.le_of_ble_eq_true rfl) dX4_init_22 (fun H locs hP hD hS => ?_)
  have hP : va_P D vwCl ([(h, .inr (4, [.int 0, .ref n1, .ref n2, .null, .null, .null, .null, .int 0, .null, .null, .null, .null, .int 0, .int 0, .int 0, .ref Y0])), (n1, .inl (y 0, 6, .inl (fun _ => 0))), (n2, .inl (y 0, 6, .inl (fun _ => 0)))]) H := hP
  have hD : va_D A ([(h, .inr (4, [.int 0, .ref n1, .ref n2, .null, .null, .null, .null, .int 0, .null, .null, .null, .null, .int 0, .int 0, .int 0, .ref Y0])), (n1, .inl (y 0, 6, .inl (fun _ => 0))), (n2, .inl (y 0, 6, .inl (fun _ => 0)))]) := hD
  refine lv_aload_n hx hb dX4_init_25 rfl (lv_at hl 0 rfl) ?_
  refine lv_bipush (v := 6) hx hb dX4_init_26 (by decide) ?_
  refine va_newa (atype := .int) (ty := .int) (a0 := (6, .inl (fun _ => 0))) (N' := 6) hx hb harr rfl hK hP hD hS hA (fun _ => rfl) (by decide) rfl (by have h9 : componentBytes .int = 4 := rfl; omega) (Nat.le_of_ble_eq_true rfl) (Nat.le_of_ble_eq_true rfl) dX4_init_28 (fun n3 cA H hKn hP hD hS => ?_)
  obtain rfl := z_uq hKn 0 rfl
  have hP : va_P D vwCl ([(h, .inr (4, [.int 0, .ref n1, .ref n2, .null, .null, .null, .null, .int 0, .null, .null, .null, .null, .int 0, .int 0, .int 0, .ref Y0])), (n1, .inl (y 0, 6, .inl (fun _ => 0))), (n2, .inl (y 0, 6, .inl (fun _ => 0))), (n3, .inl (y 0, 6, .inl (fun _ => 0)))]) H := hP
  have hD : va_D A ([(h, .inr (4, [.int 0, .ref n1, .ref n2, .null, .null, .null, .null, .int 0, .null, .null, .null, .null, .int 0, .int 0, .int 0, .ref Y0])), (n1, .inl (y 0, 6, .inl (fun _ => 0))), (n2, .inl (y 0, 6, .inl (fun _ => 0))), (n3, .inl (y 0, 6, .inl (fun _ => 0)))]) := hD
  refine va_putF (D := D) (ci := 4) (v := .ref n3) (ty := .array .int) (C := RX4) (T := TX4) (N := 16) hx hb hts hinX4 tyX4 tyX4_ok nmX4 hown hK hP hD hS (0) rfl rfl 3 (by decide) hf22 (fun _ h9 => h9) rfl hin rfl (by decide +kernel) rfl rfl (Nat.le_of_ble_eq_true rfl) dX4_init_30 (fun H locs hP hD hS => ?_)
  have hP : va_P D vwCl ([(h, .inr (4, [.int 0, .ref n1, .ref n2, .ref n3, .null, .null, .null, .int 0, .null, .null, .null, .null, .int 0, .int 0, .int 0, .ref Y0])), (n1, .inl (y 0, 6, .inl (fun _ => 0))), (n2, .inl (y 0, 6, .inl (fun _ => 0))), (n3, .inl (y 0, 6, .inl (fun _ => 0)))]) H := hP
  have hD : va_D A ([(h, .inr (4, [.int 0, .ref n1, .ref n2, .ref n3, .null, .null, .null, .int 0, .null, .null, .null, .null, .int 0, .int 0, .int 0, .ref Y0])), (n1, .inl (y 0, 6, .inl (fun _ => 0))), (n2, .inl (y 0, 6, .inl (fun _ => 0))), (n3, .inl (y 0, 6, .inl (fun _ => 0)))]) := hD
  refine lv_aload_n hx hb dX4_init_33 rfl (lv_at hl 0 rfl) ?_
  refine lv_bipush (v := 6) hx hb dX4_init_34 (by decide) ?_
  refine va_newa (atype := .int) (ty := .int) (a0 := (6, .inl (fun _ => 0))) (N' := 6) hx hb harr rfl hK hP hD hS hA (fun _ => rfl) (by decide) rfl (by have h9 : componentBytes .int = 4 := rfl; omega) (Nat.le_of_ble_eq_true rfl) (Nat.le_of_ble_eq_true rfl) dX4_init_36 (fun n4 cA H hKn hP hD hS => ?_)
  obtain rfl := z_uq hKn 0 rfl
  have hP : va_P D vwCl ([(h, .inr (4, [.int 0, .ref n1, .ref n2, .ref n3, .null, .null, .null, .int 0, .null, .null, .null, .null, .int 0, .int 0, .int 0, .ref Y0])), (n1, .inl (y 0, 6, .inl (fun _ => 0))), (n2, .inl (y 0, 6, .inl (fun _ => 0))), (n3, .inl (y 0, 6, .inl (fun _ => 0))), (n4, .inl (y 0, 6, .inl (fun _ => 0)))]) H := hP
  have hD : va_D A ([(h, .inr (4, [.int 0, .ref n1, .ref n2, .ref n3, .null, .null, .null, .int 0, .null, .null, .null, .null, .int 0, .int 0, .int 0, .ref Y0])), (n1, .inl (y 0, 6, .inl (fun _ => 0))), (n2, .inl (y 0, 6, .inl (fun _ => 0))), (n3, .inl (y 0, 6, .inl (fun _ => 0))), (n4, .inl (y 0, 6, .inl (fun _ => 0)))]) := hD
  refine va_putF (D := D) (ci := 4) (v := .ref n4) (ty := .array .int) (C := RX4) (T := TX4) (N := 16) hx hb hts hinX4 tyX4 tyX4_ok nmX4 hown hK hP hD hS (0) rfl rfl 4 (by decide) hf25 (fun _ h9 => h9) rfl hin rfl (by decide +kernel) rfl rfl (Nat.le_of_ble_eq_true rfl) dX4_init_38 (fun H locs hP hD hS => ?_)
  have hP : va_P D vwCl ([(h, .inr (4, [.int 0, .ref n1, .ref n2, .ref n3, .ref n4, .null, .null, .int 0, .null, .null, .null, .null, .int 0, .int 0, .int 0, .ref Y0])), (n1, .inl (y 0, 6, .inl (fun _ => 0))), (n2, .inl (y 0, 6, .inl (fun _ => 0))), (n3, .inl (y 0, 6, .inl (fun _ => 0))), (n4, .inl (y 0, 6, .inl (fun _ => 0)))]) H := hP
  have hD : va_D A ([(h, .inr (4, [.int 0, .ref n1, .ref n2, .ref n3, .ref n4, .null, .null, .int 0, .null, .null, .null, .null, .int 0, .int 0, .int 0, .ref Y0])), (n1, .inl (y 0, 6, .inl (fun _ => 0))), (n2, .inl (y 0, 6, .inl (fun _ => 0))), (n3, .inl (y 0, 6, .inl (fun _ => 0))), (n4, .inl (y 0, 6, .inl (fun _ => 0)))]) := hD
  refine lv_aload_n hx hb dX4_init_41 rfl (lv_at hl 0 rfl) ?_
  refine lv_bipush (v := 6) hx hb dX4_init_42 (by decide) ?_
  refine va_newa (atype := .int) (ty := .int) (a0 := (6, .inl (fun _ => 0))) (N' := 6) hx hb harr rfl hK hP hD hS hA (fun _ => rfl) (by decide) rfl (by have h9 : componentBytes .int = 4 := rfl; omega) (Nat.le_of_ble_eq_true rfl) (Nat.le_of_ble_eq_true rfl) dX4_init_44 (fun n5 cA H hKn hP hD hS => ?_)
  obtain rfl := z_uq hKn 0 rfl
  have hP : va_P D vwCl ([(h, .inr (4, [.int 0, .ref n1, .ref n2, .ref n3, .ref n4, .null, .null, .int 0, .null, .null, .null, .null, .int 0, .int 0, .int 0, .ref Y0])), (n1, .inl (y 0, 6, .inl (fun _ => 0))), (n2, .inl (y 0, 6, .inl (fun _ => 0))), (n3, .inl (y 0, 6, .inl (fun _ => 0))), (n4, .inl (y 0, 6, .inl (fun _ => 0))), (n5, .inl (y 0, 6, .inl (fun _ => 0)))]) H := hP
  have hD : va_D A ([(h, .inr (4, [.int 0, .ref n1, .ref n2, .ref n3, .ref n4, .null, .null, .int 0, .null, .null, .null, .null, .int 0, .int 0, .int 0, .ref Y0])), (n1, .inl (y 0, 6, .inl (fun _ => 0))), (n2, .inl (y 0, 6, .inl (fun _ => 0))), (n3, .inl (y 0, 6, .inl (fun _ => 0))), (n4, .inl (y 0, 6, .inl (fun _ => 0))), (n5, .inl (y 0, 6, .inl (fun _ => 0)))]) := hD
  refine va_putF (D := D) (ci := 4) (v := .ref n5) (ty := .array .int) (C := RX4) (T := TX4) (N := 16) hx hb hts hinX4 tyX4 tyX4_ok nmX4 hown hK hP hD hS (0) rfl rfl 5 (by decide) hf28 (fun _ h9 => h9) rfl hin rfl (by decide +kernel) rfl rfl (Nat.le_of_ble_eq_true rfl) dX4_init_46 (fun H locs hP hD hS => ?_)
  have hP : va_P D vwCl ([(h, .inr (4, [.int 0, .ref n1, .ref n2, .ref n3, .ref n4, .ref n5, .null, .int 0, .null, .null, .null, .null, .int 0, .int 0, .int 0, .ref Y0])), (n1, .inl (y 0, 6, .inl (fun _ => 0))), (n2, .inl (y 0, 6, .inl (fun _ => 0))), (n3, .inl (y 0, 6, .inl (fun _ => 0))), (n4, .inl (y 0, 6, .inl (fun _ => 0))), (n5, .inl (y 0, 6, .inl (fun _ => 0)))]) H := hP
  have hD : va_D A ([(h, .inr (4, [.int 0, .ref n1, .ref n2, .ref n3, .ref n4, .ref n5, .null, .int 0, .null, .null, .null, .null, .int 0, .int 0, .int 0, .ref Y0])), (n1, .inl (y 0, 6, .inl (fun _ => 0))), (n2, .inl (y 0, 6, .inl (fun _ => 0))), (n3, .inl (y 0, 6, .inl (fun _ => 0))), (n4, .inl (y 0, 6, .inl (fun _ => 0))), (n5, .inl (y 0, 6, .inl (fun _ => 0)))]) := hD
  refine lv_aload_n hx hb dX4_init_49 rfl (lv_at hl 0 rfl) ?_
  refine lv_bipush (v := 6) hx hb dX4_init_50 (by decide) ?_
  refine va_newa (atype := .int) (ty := .int) (a0 := (6, .inl (fun _ => 0))) (N' := 6) hx hb harr rfl hK hP hD hS hA (fun _ => rfl) (by decide) rfl (by have h9 : componentBytes .int = 4 := rfl; omega) (Nat.le_of_ble_eq_true rfl) (Nat.le_of_ble_eq_true rfl) dX4_init_52 (fun n6 cA H hKn hP hD hS => ?_)
  obtain rfl := z_uq hKn 0 rfl
  have hP : va_P D vwCl ([(h, .inr (4, [.int 0, .ref n1, .ref n2, .ref n3, .ref n4, .ref n5, .null, .int 0, .null, .null, .null, .null, .int 0, .int 0, .int 0, .ref Y0])), (n1, .inl (y 0, 6, .inl (fun _ => 0))), (n2, .inl (y 0, 6, .inl (fun _ => 0))), (n3, .inl (y 0, 6, .inl (fun _ => 0))), (n4, .inl (y 0, 6, .inl (fun _ => 0))), (n5, .inl (y 0, 6, .inl (fun _ => 0))), (n6, .inl (y 0, 6, .inl (fun _ => 0)))]) H := hP
  have hD : va_D A ([(h, .inr (4, [.int 0, .ref n1, .ref n2, .ref n3, .ref n4, .ref n5, .null, .int 0, .null, .null, .null, .null, .int 0, .int 0, .int 0, .ref Y0])), (n1, .inl (y 0, 6, .inl (fun _ => 0))), (n2, .inl (y 0, 6, .inl (fun _ => 0))), (n3, .inl (y 0, 6, .inl (fun _ => 0))), (n4, .inl (y 0, 6, .inl (fun _ => 0))), (n5, .inl (y 0, 6, .inl (fun _ => 0))), (n6, .inl (y 0, 6, .inl (fun _ => 0)))]) := hD
  refine va_putF (D := D) (ci := 4) (v := .ref n6) (ty := .array .int) (C := RX4) (T := TX4) (N := 16) hx hb hts hinX4 tyX4 tyX4_ok nmX4 hown hK hP hD hS (0) rfl rfl 6 (by decide) hf31 (fun _ h9 => h9) rfl hin rfl (by decide +kernel) rfl rfl (Nat.le_of_ble_eq_true rfl) dX4_init_54 (fun H locs hP hD hS => ?_)
  have hP : va_P D vwCl ([(h, .inr (4, [.int 0, .ref n1, .ref n2, .ref n3, .ref n4, .ref n5, .ref n6, .int 0, .null, .null, .null, .null, .int 0, .int 0, .int 0, .ref Y0])), (n1, .inl (y 0, 6, .inl (fun _ => 0))), (n2, .inl (y 0, 6, .inl (fun _ => 0))), (n3, .inl (y 0, 6, .inl (fun _ => 0))), (n4, .inl (y 0, 6, .inl (fun _ => 0))), (n5, .inl (y 0, 6, .inl (fun _ => 0))), (n6, .inl (y 0, 6, .inl (fun _ => 0)))]) H := hP
  have hD : va_D A ([(h, .inr (4, [.int 0, .ref n1, .ref n2, .ref n3, .ref n4, .ref n5, .ref n6, .int 0, .null, .null, .null, .null, .int 0, .int 0, .int 0, .ref Y0])), (n1, .inl (y 0, 6, .inl (fun _ => 0))), (n2, .inl (y 0, 6, .inl (fun _ => 0))), (n3, .inl (y 0, 6, .inl (fun _ => 0))), (n4, .inl (y 0, 6, .inl (fun _ => 0))), (n5, .inl (y 0, 6, .inl (fun _ => 0))), (n6, .inl (y 0, 6, .inl (fun _ => 0)))]) := hD
  refine lv_aload_n hx hb dX4_init_57 rfl (lv_at hl 0 rfl) ?_
  refine lv_iconst (v := 5) hx hb dX4_init_58 (by decide) ?_
  refine va_newa (atype := .int) (ty := .int) (a0 := (5, .inl (fun _ => 0))) (N' := 5) hx hb harr rfl hK hP hD hS hA (fun _ => rfl) (by decide) rfl (by have h9 : componentBytes .int = 4 := rfl; omega) (Nat.le_of_ble_eq_true rfl) (Nat.le_of_ble_eq_true rfl) dX4_init_59 (fun n7 cA H hKn hP hD hS => ?_)
  obtain rfl := z_uq hKn 0 rfl
  have hP : va_P D vwCl ([(h, .inr (4, [.int 0, .ref n1, .ref n2, .ref n3, .ref n4, .ref n5, .ref n6, .int 0, .null, .null, .null, .null, .int 0, .int 0, .int 0, .ref Y0])), (n1, .inl (y 0, 6, .inl (fun _ => 0))), (n2, .inl (y 0, 6, .inl (fun _ => 0))), (n3, .inl (y 0, 6, .inl (fun _ => 0))), (n4, .inl (y 0, 6, .inl (fun _ => 0))), (n5, .inl (y 0, 6, .inl (fun _ => 0))), (n6, .inl (y 0, 6, .inl (fun _ => 0))), (n7, .inl (y 0, 5, .inl (fun _ => 0)))]) H := hP
  have hD : va_D A ([(h, .inr (4, [.int 0, .ref n1, .ref n2, .ref n3, .ref n4, .ref n5, .ref n6, .int 0, .null, .null, .null, .null, .int 0, .int 0, .int 0, .ref Y0])), (n1, .inl (y 0, 6, .inl (fun _ => 0))), (n2, .inl (y 0, 6, .inl (fun _ => 0))), (n3, .inl (y 0, 6, .inl (fun _ => 0))), (n4, .inl (y 0, 6, .inl (fun _ => 0))), (n5, .inl (y 0, 6, .inl (fun _ => 0))), (n6, .inl (y 0, 6, .inl (fun _ => 0))), (n7, .inl (y 0, 5, .inl (fun _ => 0)))]) := hD
  refine va_putF (D := D) (ci := 4) (v := .ref n7) (ty := .array .int) (C := RX4) (T := TX4) (N := 16) hx hb hts hinX4 tyX4 tyX4_ok nmX4 hown hK hP hD hS (0) rfl rfl 8 (by decide) hf34 (fun _ h9 => h9) rfl hin rfl (by decide +kernel) rfl rfl (Nat.le_of_ble_eq_true rfl) dX4_init_61 (fun H locs hP hD hS => ?_)
  have hP : va_P D vwCl ([(h, .inr (4, [.int 0, .ref n1, .ref n2, .ref n3, .ref n4, .ref n5, .ref n6, .int 0, .ref n7, .null, .null, .null, .int 0, .int 0, .int 0, .ref Y0])), (n1, .inl (y 0, 6, .inl (fun _ => 0))), (n2, .inl (y 0, 6, .inl (fun _ => 0))), (n3, .inl (y 0, 6, .inl (fun _ => 0))), (n4, .inl (y 0, 6, .inl (fun _ => 0))), (n5, .inl (y 0, 6, .inl (fun _ => 0))), (n6, .inl (y 0, 6, .inl (fun _ => 0))), (n7, .inl (y 0, 5, .inl (fun _ => 0)))]) H := hP
  have hD : va_D A ([(h, .inr (4, [.int 0, .ref n1, .ref n2, .ref n3, .ref n4, .ref n5, .ref n6, .int 0, .ref n7, .null, .null, .null, .int 0, .int 0, .int 0, .ref Y0])), (n1, .inl (y 0, 6, .inl (fun _ => 0))), (n2, .inl (y 0, 6, .inl (fun _ => 0))), (n3, .inl (y 0, 6, .inl (fun _ => 0))), (n4, .inl (y 0, 6, .inl (fun _ => 0))), (n5, .inl (y 0, 6, .inl (fun _ => 0))), (n6, .inl (y 0, 6, .inl (fun _ => 0))), (n7, .inl (y 0, 5, .inl (fun _ => 0)))]) := hD
  refine lv_aload_n hx hb dX4_init_64 rfl (lv_at hl 0 rfl) ?_
  refine lv_iconst (v := 5) hx hb dX4_init_65 (by decide) ?_
  refine va_newa (atype := .int) (ty := .int) (a0 := (5, .inl (fun _ => 0))) (N' := 5) hx hb harr rfl hK hP hD hS hA (fun _ => rfl) (by decide) rfl (by have h9 : componentBytes .int = 4 := rfl; omega) (Nat.le_of_ble_eq_true rfl) (Nat.le_of_ble_eq_true rfl) dX4_init_66 (fun n8 cA H hKn hP hD hS => ?_)
  obtain rfl := z_uq hKn 0 rfl
  have hP : va_P D vwCl ([(h, .inr (4, [.int 0, .ref n1, .ref n2, .ref n3, .ref n4, .ref n5, .ref n6, .int 0, .ref n7, .null, .null, .null, .int 0, .int 0, .int 0, .ref Y0])), (n1, .inl (y 0, 6, .inl (fun _ => 0))), (n2, .inl (y 0, 6, .inl (fun _ => 0))), (n3, .inl (y 0, 6, .inl (fun _ => 0))), (n4, .inl (y 0, 6, .inl (fun _ => 0))), (n5, .inl (y 0, 6, .inl (fun _ => 0))), (n6, .inl (y 0, 6, .inl (fun _ => 0))), (n7, .inl (y 0, 5, .inl (fun _ => 0))), (n8, .inl (y 0, 5, .inl (fun _ => 0)))]) H := hP
  have hD : va_D A ([(h, .inr (4, [.int 0, .ref n1, .ref n2, .ref n3, .ref n4, .ref n5, .ref n6, .int 0, .ref n7, .null, .null, .null, .int 0, .int 0, .int 0, .ref Y0])), (n1, .inl (y 0, 6, .inl (fun _ => 0))), (n2, .inl (y 0, 6, .inl (fun _ => 0))), (n3, .inl (y 0, 6, .inl (fun _ => 0))), (n4, .inl (y 0, 6, .inl (fun _ => 0))), (n5, .inl (y 0, 6, .inl (fun _ => 0))), (n6, .inl (y 0, 6, .inl (fun _ => 0))), (n7, .inl (y 0, 5, .inl (fun _ => 0))), (n8, .inl (y 0, 5, .inl (fun _ => 0)))]) := hD
  refine va_putF (D := D) (ci := 4) (v := .ref n8) (ty := .array .int) (C := RX4) (T := TX4) (N := 16) hx hb hts hinX4 tyX4 tyX4_ok nmX4 hown hK hP hD hS (0) rfl rfl 9 (by decide) hf37 (fun _ h9 => h9) rfl hin rfl (by decide +kernel) rfl rfl (Nat.le_of_ble_eq_true rfl) dX4_init_68 (fun H locs hP hD hS => ?_)
  have hP : va_P D vwCl ([(h, .inr (4, [.int 0, .ref n1, .ref n2, .ref n3, .ref n4, .ref n5, .ref n6, .int 0, .ref n7, .ref n8, .null, .null, .int 0, .int 0, .int 0, .ref Y0])), (n1, .inl (y 0, 6, .inl (fun _ => 0))), (n2, .inl (y 0, 6, .inl (fun _ => 0))), (n3, .inl (y 0, 6, .inl (fun _ => 0))), (n4, .inl (y 0, 6, .inl (fun _ => 0))), (n5, .inl (y 0, 6, .inl (fun _ => 0))), (n6, .inl (y 0, 6, .inl (fun _ => 0))), (n7, .inl (y 0, 5, .inl (fun _ => 0))), (n8, .inl (y 0, 5, .inl (fun _ => 0)))]) H := hP
  have hD : va_D A ([(h, .inr (4, [.int 0, .ref n1, .ref n2, .ref n3, .ref n4, .ref n5, .ref n6, .int 0, .ref n7, .ref n8, .null, .null, .int 0, .int 0, .int 0, .ref Y0])), (n1, .inl (y 0, 6, .inl (fun _ => 0))), (n2, .inl (y 0, 6, .inl (fun _ => 0))), (n3, .inl (y 0, 6, .inl (fun _ => 0))), (n4, .inl (y 0, 6, .inl (fun _ => 0))), (n5, .inl (y 0, 6, .inl (fun _ => 0))), (n6, .inl (y 0, 6, .inl (fun _ => 0))), (n7, .inl (y 0, 5, .inl (fun _ => 0))), (n8, .inl (y 0, 5, .inl (fun _ => 0)))]) := hD
  refine lv_aload_n hx hb dX4_init_71 rfl (lv_at hl 0 rfl) ?_
  refine lv_iconst (v := 5) hx hb dX4_init_72 (by decide) ?_
  refine va_newa (atype := .int) (ty := .int) (a0 := (5, .inl (fun _ => 0))) (N' := 5) hx hb harr rfl hK hP hD hS hA (fun _ => rfl) (by decide) rfl (by have h9 : componentBytes .int = 4 := rfl; omega) (Nat.le_of_ble_eq_true rfl) (Nat.le_of_ble_eq_true rfl) dX4_init_73 (fun n9 cA H hKn hP hD hS => ?_)
  obtain rfl := z_uq hKn 0 rfl
  have hP : va_P D vwCl ([(h, .inr (4, [.int 0, .ref n1, .ref n2, .ref n3, .ref n4, .ref n5, .ref n6, .int 0, .ref n7, .ref n8, .null, .null, .int 0, .int 0, .int 0, .ref Y0])), (n1, .inl (y 0, 6, .inl (fun _ => 0))), (n2, .inl (y 0, 6, .inl (fun _ => 0))), (n3, .inl (y 0, 6, .inl (fun _ => 0))), (n4, .inl (y 0, 6, .inl (fun _ => 0))), (n5, .inl (y 0, 6, .inl (fun _ => 0))), (n6, .inl (y 0, 6, .inl (fun _ => 0))), (n7, .inl (y 0, 5, .inl (fun _ => 0))), (n8, .inl (y 0, 5, .inl (fun _ => 0))), (n9, .inl (y 0, 5, .inl (fun _ => 0)))]) H := hP
  have hD : va_D A ([(h, .inr (4, [.int 0, .ref n1, .ref n2, .ref n3, .ref n4, .ref n5, .ref n6, .int 0, .ref n7, .ref n8, .null, .null, .int 0, .int 0, .int 0, .ref Y0])), (n1, .inl (y 0, 6, .inl (fun _ => 0))), (n2, .inl (y 0, 6, .inl (fun _ => 0))), (n3, .inl (y 0, 6, .inl (fun _ => 0))), (n4, .inl (y 0, 6, .inl (fun _ => 0))), (n5, .inl (y 0, 6, .inl (fun _ => 0))), (n6, .inl (y 0, 6, .inl (fun _ => 0))), (n7, .inl (y 0, 5, .inl (fun _ => 0))), (n8, .inl (y 0, 5, .inl (fun _ => 0))), (n9, .inl (y 0, 5, .inl (fun _ => 0)))]) := hD
  refine va_putF (D := D) (ci := 4) (v := .ref n9) (ty := .array .int) (C := RX4) (T := TX4) (N := 16) hx hb hts hinX4 tyX4 tyX4_ok nmX4 hown hK hP hD hS (0) rfl rfl 10 (by decide) hf40 (fun _ h9 => h9) rfl hin rfl (by decide +kernel) rfl rfl (Nat.le_of_ble_eq_true rfl) dX4_init_75 (fun H locs hP hD hS => ?_)
  have hP : va_P D vwCl ([(h, .inr (4, [.int 0, .ref n1, .ref n2, .ref n3, .ref n4, .ref n5, .ref n6, .int 0, .ref n7, .ref n8, .ref n9, .null, .int 0, .int 0, .int 0, .ref Y0])), (n1, .inl (y 0, 6, .inl (fun _ => 0))), (n2, .inl (y 0, 6, .inl (fun _ => 0))), (n3, .inl (y 0, 6, .inl (fun _ => 0))), (n4, .inl (y 0, 6, .inl (fun _ => 0))), (n5, .inl (y 0, 6, .inl (fun _ => 0))), (n6, .inl (y 0, 6, .inl (fun _ => 0))), (n7, .inl (y 0, 5, .inl (fun _ => 0))), (n8, .inl (y 0, 5, .inl (fun _ => 0))), (n9, .inl (y 0, 5, .inl (fun _ => 0)))]) H := hP
  have hD : va_D A ([(h, .inr (4, [.int 0, .ref n1, .ref n2, .ref n3, .ref n4, .ref n5, .ref n6, .int 0, .ref n7, .ref n8, .ref n9, .null, .int 0, .int 0, .int 0, .ref Y0])), (n1, .inl (y 0, 6, .inl (fun _ => 0))), (n2, .inl (y 0, 6, .inl (fun _ => 0))), (n3, .inl (y 0, 6, .inl (fun _ => 0))), (n4, .inl (y 0, 6, .inl (fun _ => 0))), (n5, .inl (y 0, 6, .inl (fun _ => 0))), (n6, .inl (y 0, 6, .inl (fun _ => 0))), (n7, .inl (y 0, 5, .inl (fun _ => 0))), (n8, .inl (y 0, 5, .inl (fun _ => 0))), (n9, .inl (y 0, 5, .inl (fun _ => 0)))]) := hD
  refine lv_aload_n hx hb dX4_init_78 rfl (lv_at hl 0 rfl) ?_
  refine lv_iconst (v := 5) hx hb dX4_init_79 (by decide) ?_
  refine va_newa (atype := .int) (ty := .int) (a0 := (5, .inl (fun _ => 0))) (N' := 5) hx hb harr rfl hK hP hD hS hA (fun _ => rfl) (by decide) rfl (by have h9 : componentBytes .int = 4 := rfl; omega) (Nat.le_of_ble_eq_true rfl) (Nat.le_of_ble_eq_true rfl) dX4_init_80 (fun n10 cA H hKn hP hD hS => ?_)
  obtain rfl := z_uq hKn 0 rfl
  have hP : va_P D vwCl ([(h, .inr (4, [.int 0, .ref n1, .ref n2, .ref n3, .ref n4, .ref n5, .ref n6, .int 0, .ref n7, .ref n8, .ref n9, .null, .int 0, .int 0, .int 0, .ref Y0])), (n1, .inl (y 0, 6, .inl (fun _ => 0))), (n2, .inl (y 0, 6, .inl (fun _ => 0))), (n3, .inl (y 0, 6, .inl (fun _ => 0))), (n4, .inl (y 0, 6, .inl (fun _ => 0))), (n5, .inl (y 0, 6, .inl (fun _ => 0))), (n6, .inl (y 0, 6, .inl (fun _ => 0))), (n7, .inl (y 0, 5, .inl (fun _ => 0))), (n8, .inl (y 0, 5, .inl (fun _ => 0))), (n9, .inl (y 0, 5, .inl (fun _ => 0))), (n10, .inl (y 0, 5, .inl (fun _ => 0)))]) H := hP
  have hD : va_D A ([(h, .inr (4, [.int 0, .ref n1, .ref n2, .ref n3, .ref n4, .ref n5, .ref n6, .int 0, .ref n7, .ref n8, .ref n9, .null, .int 0, .int 0, .int 0, .ref Y0])), (n1, .inl (y 0, 6, .inl (fun _ => 0))), (n2, .inl (y 0, 6, .inl (fun _ => 0))), (n3, .inl (y 0, 6, .inl (fun _ => 0))), (n4, .inl (y 0, 6, .inl (fun _ => 0))), (n5, .inl (y 0, 6, .inl (fun _ => 0))), (n6, .inl (y 0, 6, .inl (fun _ => 0))), (n7, .inl (y 0, 5, .inl (fun _ => 0))), (n8, .inl (y 0, 5, .inl (fun _ => 0))), (n9, .inl (y 0, 5, .inl (fun _ => 0))), (n10, .inl (y 0, 5, .inl (fun _ => 0)))]) := hD
  refine va_putF (D := D) (ci := 4) (v := .ref n10) (ty := .array .int) (C := RX4) (T := TX4) (N := 16) hx hb hts hinX4 tyX4 tyX4_ok nmX4 hown hK hP hD hS (0) rfl rfl 11 (by decide) hf43 (fun _ h9 => h9) rfl hin rfl (by decide +kernel) rfl rfl (Nat.le_of_ble_eq_true rfl) dX4_init_82 (fun H locs hP hD hS => ?_)
  have hP : va_P D vwCl ([(h, .inr (4, [.int 0, .ref n1, .ref n2, .ref n3, .ref n4, .ref n5, .ref n6, .int 0, .ref n7, .ref n8, .ref n9, .ref n10, .int 0, .int 0, .int 0, .ref Y0])), (n1, .inl (y 0, 6, .inl (fun _ => 0))), (n2, .inl (y 0, 6, .inl (fun _ => 0))), (n3, .inl (y 0, 6, .inl (fun _ => 0))), (n4, .inl (y 0, 6, .inl (fun _ => 0))), (n5, .inl (y 0, 6, .inl (fun _ => 0))), (n6, .inl (y 0, 6, .inl (fun _ => 0))), (n7, .inl (y 0, 5, .inl (fun _ => 0))), (n8, .inl (y 0, 5, .inl (fun _ => 0))), (n9, .inl (y 0, 5, .inl (fun _ => 0))), (n10, .inl (y 0, 5, .inl (fun _ => 0)))]) H := hP
  have hD : va_D A ([(h, .inr (4, [.int 0, .ref n1, .ref n2, .ref n3, .ref n4, .ref n5, .ref n6, .int 0, .ref n7, .ref n8, .ref n9, .ref n10, .int 0, .int 0, .int 0, .ref Y0])), (n1, .inl (y 0, 6, .inl (fun _ => 0))), (n2, .inl (y 0, 6, .inl (fun _ => 0))), (n3, .inl (y 0, 6, .inl (fun _ => 0))), (n4, .inl (y 0, 6, .inl (fun _ => 0))), (n5, .inl (y 0, 6, .inl (fun _ => 0))), (n6, .inl (y 0, 6, .inl (fun _ => 0))), (n7, .inl (y 0, 5, .inl (fun _ => 0))), (n8, .inl (y 0, 5, .inl (fun _ => 0))), (n9, .inl (y 0, 5, .inl (fun _ => 0))), (n10, .inl (y 0, 5, .inl (fun _ => 0)))]) := hD
  exact zC_v hx hb hr hlocks hS dX4_init_85 ⟨(fun i => [h, n1, n2, n3, n4, n5, n6, n7, n8, n9, n10].getD i 0), rfl, rfl⟩ hP hD
def T00 : TS := (fun _ => 30, fun _ => 0, (fun _ _ => 0), (fun _ _ => 0), 0, 0, 0, 0, 0, 0)
def N00 : Nst := ((fun _ _ => 0), (fun _ _ => 0), 0, 0, 0, 0, 0)
set_option maxHeartbeats 1000000 in
set_option maxRecDepth 100000 in
theorem c_X3_init (l : Launch) (D : va_G) (y : Nat → ClassId) (h : Nat)  (sz : Nat) : zC l yX3_init wsX3_init { frames := 3, cells := 32, slots := 204, locals := 61 } D y [.ref h] ([(h, .inr (3, [.null, .null]))]) sz (fun w1 => ∃ E E2 : Nat → Nat, w1 = sW h E E2 y (fun _ => 30) (fun _ => 0) (fun _ _ => 0) (fun _ _ => 0) 0 0 0 0 0 0 T00) 32 204 := by
  refine zC.of (cc := cX3_init) (maxL := 1) (ret := none) (own := RX3) (by decide) rfl (Nat.le_of_ble_eq_true rfl) rfl ?_
  intro p e s m args below meth cd ls A H locs hx hb hr hml hown hts hlocks hP hK hD hA hS hQ0 hl hin
  have hl : lv_has ls 1 [(0, .ref h)] := hl
  have hoi3 : (Cond.methodLink RX3 3 objectInit).before args s = true := hts _ (by decide +kernel)
  have hoI : (Cond.instanceMethod objectInit).before args s = true := hts _ (by decide +kernel)
  have hoC : (Cond.code objectInit ⟨#[0xb1]⟩ 1 none).before args s = true := hts _ (by decide +kernel)
  have hcl9 : (Cond.classLink RX3 9 RX1).before args s = true := hts _ (by decide +kernel)
  have hinstX1 : (Cond.instantiable RX1 10).before args s = true := hts _ (by decide +kernel)
  have hiniX1 : (Cond.initialized RX1).before args s = true := hts _ (by decide +kernel)
  have hinX1 : ∀ w ∈ wsX10, w ∈ wsX3_init := by decide +kernel
  have himX1 : (Cond.instanceMethod yX1_init).before args s = true := hts _ (by decide +kernel)
  have hmi11 : (Cond.methodLink RX3 11 yX1_init).before args s = true := hts _ (by decide +kernel)
  have hf12 : (Cond.fieldLink RX3 12 "StakeWeirs" "now" "LStakeWeirs$Estuary;").before args s = true := hts _ (by decide +kernel)
  have hinX3 : ∀ w ∈ wsX30, w ∈ wsX3_init := by decide +kernel
  have hf16 : (Cond.fieldLink RX3 16 "StakeWeirs" "trial" "LStakeWeirs$Estuary;").before args s = true := hts _ (by decide +kernel)
  refine lv_aload_n hx hb dX3_init_0 rfl (lv_at hl 0 rfl) ?_
  refine W.objInit hx hb hown hoi3 hoI hoC rfl (hl.1.trans hml.symm) rfl dX3_init_1 (Nat.le_of_ble_eq_true rfl) (Nat.le_of_ble_eq_true rfl) ?_
  show W _ _ _ _ _ _ _ _ _ _ _ _ _ _ _ (F0 m 4 ls [])
  refine lv_aload_n hx hb dX3_init_4 rfl (lv_at hl 0 rfl) ?_
  refine va_new (C := RX1) (T := TX1) (N := 10) (ci := 1) (fs := [.null, .null, .null, .null, .int 0, .int 0, .int 0, .int 0, .int 0, .int 0]) hx hb hts hinX1 tyX1 tyX1_ok hown hcl9 hinstX1 hiniX1 hK hP hD hS hA rfl dfX1 (Nat.le_of_ble_eq_true rfl) (Nat.le_of_ble_eq_true rfl) dX3_init_5 (fun n1 H hP hD hS => ?_)
  have hP : va_P D vwCl ([(h, .inr (3, [.null, .null]))] ++ [(n1, .inr (1, [.null, .null, .null, .null, .int 0, .int 0, .int 0, .int 0, .int 0, .int 0]))]) H := hP
  have hD : va_D A ([(h, .inr (3, [.null, .null]))] ++ [(n1, .inr (1, [.null, .null, .null, .null, .int 0, .int 0, .int 0, .int 0, .int 0, .int 0]))]) := hD
  refine lv_dup hx hb dX3_init_8 rfl ?_
  have hF2 := z_sub_F hD hS hA (z_in_1 (ws := [(h, .inr (3, [.null, .null]))] ++ [(n1, .inr (1, [.null, .null, .null, .null, .int 0, .int 0, .int 0, .int 0, .int 0, .int 0]))]) (k := 1) rfl)
  refine zcCI (As := []) (rest := [.ref n1, .ref h]) (cells1 := 16) (slots1 := 102) (w := [(n1, .inr (1, [.null, .null, .null, .null, .int 0, .int 0, .int 0, .int 0, .int 0, .int 0]))]) ⟨hx, hb, hml, hown, hts⟩ (c_X1_init l D y n1 _) (cwI 0 hts gX3_init_X1_init rfl rfl rfl hiniX1 hmi11 himX1 rfl (by decide +kernel) ⟨Nat.le_of_ble_eq_true rfl, Nat.le_of_ble_eq_true rfl⟩) hQ0 hK (z_sub_P hP (z_in_1 (k := 1) rfl)) z_D_1 rfl hl.1 rfl (lv_room (Nat.le_of_ble_eq_true rfl)) dX3_init_9 hS hF2 ⟨Nat.le_of_ble_eq_true rfl, Nat.le_of_ble_eq_true rfl⟩ rfl rfl (fun H locs w1 hPo hP1 hD1 hz hfr hS => ?_)
  obtain ⟨E, hE9, rfl⟩ := hPo
  subst hE9
  obtain ⟨hP, hD⟩ := z_grow (l1 := [(h, .inr (3, [.null, .null]))]) (w := [(E 0, .inr (1, [.null, .null, .null, .null, .int 0, .int 0, .int 0, .int 0, .int 0, .int 0]))]) hP hD rfl hP1 hD1 hfr hF2
  have hP : va_P D vwCl (([(h, .inr (3, [.null, .null]))] ++ eW E y (fun _ => 30) (fun _ => 0) (fun _ _ => 0) (fun _ _ => 0) 0 0 0 0 0 0)) H := hP
  have hD : va_D A (([(h, .inr (3, [.null, .null]))] ++ eW E y (fun _ => 30) (fun _ => 0) (fun _ _ => 0) (fun _ _ => 0) 0 0 0 0 0 0)) := hD
  refine va_putF (D := D) (ci := 3) (v := .ref (E 0)) (ty := .object "StakeWeirs$Estuary") (C := RX3) (T := TX3) (N := 2) hx hb hts hinX3 tyX3 tyX3_ok nmX3 hown hK hP hD hS (0) rfl rfl 0 (by decide) hf12 (fun _ h9 => h9) rfl hin rfl (by decide +kernel) rfl rfl (Nat.le_of_ble_eq_true rfl) dX3_init_12 (fun H locs hP hD hS => ?_)
  have hP : va_P D vwCl (([(h, .inr (3, [.ref (E 0), .null]))] ++ eW E y (fun _ => 30) (fun _ => 0) (fun _ _ => 0) (fun _ _ => 0) 0 0 0 0 0 0)) H := hP
  have hD : va_D A (([(h, .inr (3, [.ref (E 0), .null]))] ++ eW E y (fun _ => 30) (fun _ => 0) (fun _ _ => 0) (fun _ _ => 0) 0 0 0 0 0 0)) := hD
  refine lv_aload_n hx hb dX3_init_15 rfl (lv_at hl 0 rfl) ?_
  refine va_new (C := RX1) (T := TX1) (N := 10) (ci := 1) (fs := [.null, .null, .null, .null, .int 0, .int 0, .int 0, .int 0, .int 0, .int 0]) hx hb hts hinX1 tyX1 tyX1_ok hown hcl9 hinstX1 hiniX1 hK hP hD hS hA rfl dfX1 (Nat.le_of_ble_eq_true rfl) (Nat.le_of_ble_eq_true rfl) dX3_init_16 (fun n3 H hP hD hS => ?_)
  have hP : va_P D vwCl (([(h, .inr (3, [.ref (E 0), .null]))] ++ eW E y (fun _ => 30) (fun _ => 0) (fun _ _ => 0) (fun _ _ => 0) 0 0 0 0 0 0) ++ [(n3, .inr (1, [.null, .null, .null, .null, .int 0, .int 0, .int 0, .int 0, .int 0, .int 0]))]) H := hP
  have hD : va_D A (([(h, .inr (3, [.ref (E 0), .null]))] ++ eW E y (fun _ => 30) (fun _ => 0) (fun _ _ => 0) (fun _ _ => 0) 0 0 0 0 0 0) ++ [(n3, .inr (1, [.null, .null, .null, .null, .int 0, .int 0, .int 0, .int 0, .int 0, .int 0]))]) := hD
  refine lv_dup hx hb dX3_init_19 rfl ?_
  have hF4 := z_sub_F hD hS hA (z_in_1 (ws := ([(h, .inr (3, [.ref (E 0), .null]))] ++ eW E y (fun _ => 30) (fun _ => 0) (fun _ _ => 0) (fun _ _ => 0) 0 0 0 0 0 0) ++ [(n3, .inr (1, [.null, .null, .null, .null, .int 0, .int 0, .int 0, .int 0, .int 0, .int 0]))]) (k := 17) rfl)
  refine zcCI (As := []) (rest := [.ref n3, .ref h]) (cells1 := 32) (slots1 := 204) (w := [(n3, .inr (1, [.null, .null, .null, .null, .int 0, .int 0, .int 0, .int 0, .int 0, .int 0]))]) ⟨hx, hb, hml, hown, hts⟩ (c_X1_init l D y n3 _) (cwI 0 hts gX3_init_X1_init rfl rfl rfl hiniX1 hmi11 himX1 rfl (by decide +kernel) ⟨Nat.le_of_ble_eq_true rfl, Nat.le_of_ble_eq_true rfl⟩) hQ0 hK (z_sub_P hP (z_in_1 (k := 17) rfl)) z_D_1 rfl hl.1 rfl (lv_room (Nat.le_of_ble_eq_true rfl)) dX3_init_20 hS hF4 ⟨Nat.le_of_ble_eq_true rfl, Nat.le_of_ble_eq_true rfl⟩ rfl rfl (fun H locs w1 hPo hP1 hD1 hz hfr hS => ?_)
  obtain ⟨E2, hE9, rfl⟩ := hPo
  subst hE9
  obtain ⟨hP, hD⟩ := z_grow (l1 := ([(h, .inr (3, [.ref (E 0), .null]))] ++ eW E y (fun _ => 30) (fun _ => 0) (fun _ _ => 0) (fun _ _ => 0) 0 0 0 0 0 0)) (w := [(E2 0, .inr (1, [.null, .null, .null, .null, .int 0, .int 0, .int 0, .int 0, .int 0, .int 0]))]) hP hD rfl hP1 hD1 hfr hF4
  have hP : va_P D vwCl ((([(h, .inr (3, [.ref (E 0), .null]))] ++ eW E y (fun _ => 30) (fun _ => 0) (fun _ _ => 0) (fun _ _ => 0) 0 0 0 0 0 0) ++ eW E2 y (fun _ => 30) (fun _ => 0) (fun _ _ => 0) (fun _ _ => 0) 0 0 0 0 0 0)) H := hP
  have hD : va_D A ((([(h, .inr (3, [.ref (E 0), .null]))] ++ eW E y (fun _ => 30) (fun _ => 0) (fun _ _ => 0) (fun _ _ => 0) 0 0 0 0 0 0) ++ eW E2 y (fun _ => 30) (fun _ => 0) (fun _ _ => 0) (fun _ _ => 0) 0 0 0 0 0 0)) := hD
  refine va_putF (D := D) (ci := 3) (v := .ref (E2 0)) (ty := .object "StakeWeirs$Estuary") (C := RX3) (T := TX3) (N := 2) hx hb hts hinX3 tyX3 tyX3_ok nmX3 hown hK hP hD hS (0) rfl rfl 1 (by decide) hf16 (fun _ h9 => h9) rfl hin rfl (by decide +kernel) rfl rfl (Nat.le_of_ble_eq_true rfl) dX3_init_23 (fun H locs hP hD hS => ?_)
  have hP : va_P D vwCl ((([(h, .inr (3, [.ref (E 0), .ref (E2 0)]))] ++ eW E y (fun _ => 30) (fun _ => 0) (fun _ _ => 0) (fun _ _ => 0) 0 0 0 0 0 0) ++ eW E2 y (fun _ => 30) (fun _ => 0) (fun _ _ => 0) (fun _ _ => 0) 0 0 0 0 0 0)) H := hP
  have hD : va_D A ((([(h, .inr (3, [.ref (E 0), .ref (E2 0)]))] ++ eW E y (fun _ => 30) (fun _ => 0) (fun _ _ => 0) (fun _ _ => 0) 0 0 0 0 0 0) ++ eW E2 y (fun _ => 30) (fun _ => 0) (fun _ _ => 0) (fun _ _ => 0) 0 0 0 0 0 0)) := hD
  exact zC_v hx hb hr hlocks hS dX3_init_26 ⟨E, E2, rfl⟩ hP hD
set_option maxHeartbeats 1000000 in
set_option maxRecDepth 100000 in
theorem c_X5_init (l : Launch) (D : va_G) (y : Nat → ClassId) (h : Nat)  (sz : Nat) : zC l yX5_init wsX5_init { frames := 2, cells := 25, slots := 163, locals := 41 } D y [.ref h] ([(h, .inr (5, [.int 0, .null, .int 0, .null, .null, .null, .null]))]) sz (fun w1 => ∃ Y Z Z2 : Nat → Nat, Y 0 = h ∧ w1 = zW Y Z Z2 y 0 (fun _ => 30) 0 (fun _ _ => 0) (fun _ _ => 0) 0 0 0 0 0 N00) 25 163 := by
  refine zC.of (cc := cX5_init) (maxL := 1) (ret := none) (own := RX5) (by decide) rfl (Nat.le_of_ble_eq_true rfl) rfl ?_
  intro p e s m args below meth cd ls A H locs hx hb hr hml hown hts hlocks hP hK hD hA hS hQ0 hl hin
  have hl : lv_has ls 1 [(0, .ref h)] := hl
  have hoi1 : (Cond.methodLink RX5 1 objectInit).before args s = true := hts _ (by decide +kernel)
  have hoI : (Cond.instanceMethod objectInit).before args s = true := hts _ (by decide +kernel)
  have hoC : (Cond.code objectInit ⟨#[0xb1]⟩ 1 none).before args s = true := hts _ (by decide +kernel)
  have harr : (Cond.arrayClass .int).before args s = true := hts _ (by decide +kernel)
  have hf7 : (Cond.fieldLink RX5 7 "StakeWeirsModel" "table" "[I").before args s = true := hts _ (by decide +kernel)
  have hinX5 : ∀ w ∈ wsX50, w ∈ wsX5_init := by decide +kernel
  have hf13 : (Cond.fieldLink RX5 13 "StakeWeirsModel" "place" "[I").before args s = true := hts _ (by decide +kernel)
  have hf16 : (Cond.fieldLink RX5 16 "StakeWeirsModel" "rent" "[I").before args s = true := hts _ (by decide +kernel)
  have hcl19 : (Cond.classLink RX5 19 RX4).before args s = true := hts _ (by decide +kernel)
  have hinstX4 : (Cond.instantiable RX4 16).before args s = true := hts _ (by decide +kernel)
  have hiniX4 : (Cond.initialized RX4).before args s = true := hts _ (by decide +kernel)
  have hinX4 : ∀ w ∈ wsX40, w ∈ wsX5_init := by decide +kernel
  have himX4 : (Cond.instanceMethod yX4_init).before args s = true := hts _ (by decide +kernel)
  have hf24 : (Cond.fieldLink RX5 24 "StakeWeirsModel" "s" "LStakeWeirsModel$State;").before args s = true := hts _ (by decide +kernel)
  have hf28 : (Cond.fieldLink RX5 28 "StakeWeirsModel" "ahead" "LStakeWeirsModel$State;").before args s = true := hts _ (by decide +kernel)
  refine lv_aload_n hx hb dX5_init_0 rfl (lv_at hl 0 rfl) ?_
  refine W.objInit hx hb hown hoi1 hoI hoC rfl (hl.1.trans hml.symm) rfl dX5_init_1 (Nat.le_of_ble_eq_true rfl) (Nat.le_of_ble_eq_true rfl) ?_
  show W _ _ _ _ _ _ _ _ _ _ _ _ _ _ _ (F0 m 4 ls [])
  refine lv_aload_n hx hb dX5_init_4 rfl (lv_at hl 0 rfl) ?_
  refine lv_bipush (v := 7) hx hb dX5_init_5 (by decide) ?_
  refine va_newa (atype := .int) (ty := .int) (a0 := (7, .inl (fun _ => 0))) (N' := 7) hx hb harr rfl hK hP hD hS hA (fun _ => rfl) (by decide) rfl (by have h9 : componentBytes .int = 4 := rfl; omega) (Nat.le_of_ble_eq_true rfl) (Nat.le_of_ble_eq_true rfl) dX5_init_7 (fun n1 cA H hKn hP hD hS => ?_)
  obtain rfl := z_uq hKn 0 rfl
  have hP : va_P D vwCl ([(h, .inr (5, [.int 0, .null, .int 0, .null, .null, .null, .null])), (n1, .inl (y 0, 7, .inl (fun _ => 0)))]) H := hP
  have hD : va_D A ([(h, .inr (5, [.int 0, .null, .int 0, .null, .null, .null, .null])), (n1, .inl (y 0, 7, .inl (fun _ => 0)))]) := hD
  refine lv_dup hx hb dX5_init_9 rfl ?_
  refine lv_iconst (v := 0) hx hb dX5_init_10 (by decide) ?_
  refine lv_bipush (v := 30) hx hb dX5_init_11 (by decide) ?_
  refine z_ast hx hb hK hP hD hS 1 (f := (fun _ => 0)) rfl 0 rfl (by omega) (by decide) rfl dX5_init_13 (fun H locs hP hD hS => ?_)
  have hP : va_P D vwCl ([(h, .inr (5, [.int 0, .null, .int 0, .null, .null, .null, .null])), (n1, .inl (y 0, 7, .inl (upd (fun _ => 0) 0 30)))]) H := hP
  have hD : va_D A ([(h, .inr (5, [.int 0, .null, .int 0, .null, .null, .null, .null])), (n1, .inl (y 0, 7, .inl (upd (fun _ => 0) 0 30)))]) := hD
  refine lv_dup hx hb dX5_init_14 rfl ?_
  refine lv_iconst (v := 1) hx hb dX5_init_15 (by decide) ?_
  refine lv_bipush (v := 30) hx hb dX5_init_16 (by decide) ?_
  refine z_ast hx hb hK hP hD hS 1 (f := (upd (fun _ => 0) 0 30)) rfl 1 rfl (by omega) (by decide) rfl dX5_init_18 (fun H locs hP hD hS => ?_)
  have hP : va_P D vwCl ([(h, .inr (5, [.int 0, .null, .int 0, .null, .null, .null, .null])), (n1, .inl (y 0, 7, .inl (upd (upd (fun _ => 0) 0 30) 1 30)))]) H := hP
  have hD : va_D A ([(h, .inr (5, [.int 0, .null, .int 0, .null, .null, .null, .null])), (n1, .inl (y 0, 7, .inl (upd (upd (fun _ => 0) 0 30) 1 30)))]) := hD
  refine lv_dup hx hb dX5_init_19 rfl ?_
  refine lv_iconst (v := 2) hx hb dX5_init_20 (by decide) ?_
  refine lv_bipush (v := 30) hx hb dX5_init_21 (by decide) ?_
  refine z_ast hx hb hK hP hD hS 1 (f := (upd (upd (fun _ => 0) 0 30) 1 30)) rfl 2 rfl (by omega) (by decide) rfl dX5_init_23 (fun H locs hP hD hS => ?_)
  have hP : va_P D vwCl ([(h, .inr (5, [.int 0, .null, .int 0, .null, .null, .null, .null])), (n1, .inl (y 0, 7, .inl (upd (upd (upd (fun _ => 0) 0 30) 1 30) 2 30)))]) H := hP
  have hD : va_D A ([(h, .inr (5, [.int 0, .null, .int 0, .null, .null, .null, .null])), (n1, .inl (y 0, 7, .inl (upd (upd (upd (fun _ => 0) 0 30) 1 30) 2 30)))]) := hD
  refine lv_dup hx hb dX5_init_24 rfl ?_
  refine lv_iconst (v := 3) hx hb dX5_init_25 (by decide) ?_
  refine lv_bipush (v := 30) hx hb dX5_init_26 (by decide) ?_
  refine z_ast hx hb hK hP hD hS 1 (f := (upd (upd (upd (fun _ => 0) 0 30) 1 30) 2 30)) rfl 3 rfl (by omega) (by decide) rfl dX5_init_28 (fun H locs hP hD hS => ?_)
  have hP : va_P D vwCl ([(h, .inr (5, [.int 0, .null, .int 0, .null, .null, .null, .null])), (n1, .inl (y 0, 7, .inl (upd (upd (upd (upd (fun _ => 0) 0 30) 1 30) 2 30) 3 30)))]) H := hP
  have hD : va_D A ([(h, .inr (5, [.int 0, .null, .int 0, .null, .null, .null, .null])), (n1, .inl (y 0, 7, .inl (upd (upd (upd (upd (fun _ => 0) 0 30) 1 30) 2 30) 3 30)))]) := hD
  refine lv_dup hx hb dX5_init_29 rfl ?_
  refine lv_iconst (v := 4) hx hb dX5_init_30 (by decide) ?_
  refine lv_bipush (v := 30) hx hb dX5_init_31 (by decide) ?_
  refine z_ast hx hb hK hP hD hS 1 (f := (upd (upd (upd (upd (fun _ => 0) 0 30) 1 30) 2 30) 3 30)) rfl 4 rfl (by omega) (by decide) rfl dX5_init_33 (fun H locs hP hD hS => ?_)
  have hP : va_P D vwCl ([(h, .inr (5, [.int 0, .null, .int 0, .null, .null, .null, .null])), (n1, .inl (y 0, 7, .inl (upd (upd (upd (upd (upd (fun _ => 0) 0 30) 1 30) 2 30) 3 30) 4 30)))]) H := hP
  have hD : va_D A ([(h, .inr (5, [.int 0, .null, .int 0, .null, .null, .null, .null])), (n1, .inl (y 0, 7, .inl (upd (upd (upd (upd (upd (fun _ => 0) 0 30) 1 30) 2 30) 3 30) 4 30)))]) := hD
  refine lv_dup hx hb dX5_init_34 rfl ?_
  refine lv_iconst (v := 5) hx hb dX5_init_35 (by decide) ?_
  refine lv_bipush (v := 30) hx hb dX5_init_36 (by decide) ?_
  refine z_ast hx hb hK hP hD hS 1 (f := (upd (upd (upd (upd (upd (fun _ => 0) 0 30) 1 30) 2 30) 3 30) 4 30)) rfl 5 rfl (by omega) (by decide) rfl dX5_init_38 (fun H locs hP hD hS => ?_)
  have hP : va_P D vwCl ([(h, .inr (5, [.int 0, .null, .int 0, .null, .null, .null, .null])), (n1, .inl (y 0, 7, .inl (upd (upd (upd (upd (upd (upd (fun _ => 0) 0 30) 1 30) 2 30) 3 30) 4 30) 5 30)))]) H := hP
  have hD : va_D A ([(h, .inr (5, [.int 0, .null, .int 0, .null, .null, .null, .null])), (n1, .inl (y 0, 7, .inl (upd (upd (upd (upd (upd (upd (fun _ => 0) 0 30) 1 30) 2 30) 3 30) 4 30) 5 30)))]) := hD
  refine lv_dup hx hb dX5_init_39 rfl ?_
  refine lv_bipush (v := 6) hx hb dX5_init_40 (by decide) ?_
  refine lv_bipush (v := 30) hx hb dX5_init_42 (by decide) ?_
  refine z_ast hx hb hK hP hD hS 1 (f := (upd (upd (upd (upd (upd (upd (fun _ => 0) 0 30) 1 30) 2 30) 3 30) 4 30) 5 30)) rfl 6 rfl (by omega) (by decide) rfl dX5_init_44 (fun H locs hP hD hS => ?_)
  have hP : va_P D vwCl ([(h, .inr (5, [.int 0, .null, .int 0, .null, .null, .null, .null])), (n1, .inl (y 0, 7, .inl (upd (upd (upd (upd (upd (upd (upd (fun _ => 0) 0 30) 1 30) 2 30) 3 30) 4 30) 5 30) 6 30)))]) H := hP
  have hD : va_D A ([(h, .inr (5, [.int 0, .null, .int 0, .null, .null, .null, .null])), (n1, .inl (y 0, 7, .inl (upd (upd (upd (upd (upd (upd (upd (fun _ => 0) 0 30) 1 30) 2 30) 3 30) 4 30) 5 30) 6 30)))]) := hD
  refine va_putF (D := D) (ci := 5) (v := .ref n1) (ty := .array .int) (C := RX5) (T := TX5) (N := 7) hx hb hts hinX5 tyX5 tyX5_ok nmX5 hown hK hP hD hS (0) rfl rfl 1 (by decide) hf7 (fun _ h9 => h9) rfl hin rfl (by decide +kernel) rfl rfl (Nat.le_of_ble_eq_true rfl) dX5_init_45 (fun H locs hP hD hS => ?_)
  have hP : va_P D vwCl ([(h, .inr (5, [.int 0, .ref n1, .int 0, .null, .null, .null, .null])), (n1, .inl (y 0, 7, .inl (upd (upd (upd (upd (upd (upd (upd (fun _ => 0) 0 30) 1 30) 2 30) 3 30) 4 30) 5 30) 6 30)))]) H := hP
  have hD : va_D A ([(h, .inr (5, [.int 0, .ref n1, .int 0, .null, .null, .null, .null])), (n1, .inl (y 0, 7, .inl (upd (upd (upd (upd (upd (upd (upd (fun _ => 0) 0 30) 1 30) 2 30) 3 30) 4 30) 5 30) 6 30)))]) := hD
  refine lv_aload_n hx hb dX5_init_48 rfl (lv_at hl 0 rfl) ?_
  refine lv_bipush (v := 6) hx hb dX5_init_49 (by decide) ?_
  refine va_newa (atype := .int) (ty := .int) (a0 := (6, .inl (fun _ => 0))) (N' := 6) hx hb harr rfl hK hP hD hS hA (fun _ => rfl) (by decide) rfl (by have h9 : componentBytes .int = 4 := rfl; omega) (Nat.le_of_ble_eq_true rfl) (Nat.le_of_ble_eq_true rfl) dX5_init_51 (fun n2 cA H hKn hP hD hS => ?_)
  obtain rfl := z_uq hKn 0 rfl
  have hP : va_P D vwCl ([(h, .inr (5, [.int 0, .ref n1, .int 0, .null, .null, .null, .null])), (n1, .inl (y 0, 7, .inl (upd (upd (upd (upd (upd (upd (upd (fun _ => 0) 0 30) 1 30) 2 30) 3 30) 4 30) 5 30) 6 30))), (n2, .inl (y 0, 6, .inl (fun _ => 0)))]) H := hP
  have hD : va_D A ([(h, .inr (5, [.int 0, .ref n1, .int 0, .null, .null, .null, .null])), (n1, .inl (y 0, 7, .inl (upd (upd (upd (upd (upd (upd (upd (fun _ => 0) 0 30) 1 30) 2 30) 3 30) 4 30) 5 30) 6 30))), (n2, .inl (y 0, 6, .inl (fun _ => 0)))]) := hD
  refine va_putF (D := D) (ci := 5) (v := .ref n2) (ty := .array .int) (C := RX5) (T := TX5) (N := 7) hx hb hts hinX5 tyX5 tyX5_ok nmX5 hown hK hP hD hS (0) rfl rfl 3 (by decide) hf13 (fun _ h9 => h9) rfl hin rfl (by decide +kernel) rfl rfl (Nat.le_of_ble_eq_true rfl) dX5_init_53 (fun H locs hP hD hS => ?_)
  have hP : va_P D vwCl ([(h, .inr (5, [.int 0, .ref n1, .int 0, .ref n2, .null, .null, .null])), (n1, .inl (y 0, 7, .inl (upd (upd (upd (upd (upd (upd (upd (fun _ => 0) 0 30) 1 30) 2 30) 3 30) 4 30) 5 30) 6 30))), (n2, .inl (y 0, 6, .inl (fun _ => 0)))]) H := hP
  have hD : va_D A ([(h, .inr (5, [.int 0, .ref n1, .int 0, .ref n2, .null, .null, .null])), (n1, .inl (y 0, 7, .inl (upd (upd (upd (upd (upd (upd (upd (fun _ => 0) 0 30) 1 30) 2 30) 3 30) 4 30) 5 30) 6 30))), (n2, .inl (y 0, 6, .inl (fun _ => 0)))]) := hD
  refine lv_aload_n hx hb dX5_init_56 rfl (lv_at hl 0 rfl) ?_
  refine lv_bipush (v := 6) hx hb dX5_init_57 (by decide) ?_
  refine va_newa (atype := .int) (ty := .int) (a0 := (6, .inl (fun _ => 0))) (N' := 6) hx hb harr rfl hK hP hD hS hA (fun _ => rfl) (by decide) rfl (by have h9 : componentBytes .int = 4 := rfl; omega) (Nat.le_of_ble_eq_true rfl) (Nat.le_of_ble_eq_true rfl) dX5_init_59 (fun n3 cA H hKn hP hD hS => ?_)
  obtain rfl := z_uq hKn 0 rfl
  have hP : va_P D vwCl ([(h, .inr (5, [.int 0, .ref n1, .int 0, .ref n2, .null, .null, .null])), (n1, .inl (y 0, 7, .inl (upd (upd (upd (upd (upd (upd (upd (fun _ => 0) 0 30) 1 30) 2 30) 3 30) 4 30) 5 30) 6 30))), (n2, .inl (y 0, 6, .inl (fun _ => 0))), (n3, .inl (y 0, 6, .inl (fun _ => 0)))]) H := hP
  have hD : va_D A ([(h, .inr (5, [.int 0, .ref n1, .int 0, .ref n2, .null, .null, .null])), (n1, .inl (y 0, 7, .inl (upd (upd (upd (upd (upd (upd (upd (fun _ => 0) 0 30) 1 30) 2 30) 3 30) 4 30) 5 30) 6 30))), (n2, .inl (y 0, 6, .inl (fun _ => 0))), (n3, .inl (y 0, 6, .inl (fun _ => 0)))]) := hD
  refine va_putF (D := D) (ci := 5) (v := .ref n3) (ty := .array .int) (C := RX5) (T := TX5) (N := 7) hx hb hts hinX5 tyX5 tyX5_ok nmX5 hown hK hP hD hS (0) rfl rfl 4 (by decide) hf16 (fun _ h9 => h9) rfl hin rfl (by decide +kernel) rfl rfl (Nat.le_of_ble_eq_true rfl) dX5_init_61 (fun H locs hP hD hS => ?_)
  have hP : va_P D vwCl ([(h, .inr (5, [.int 0, .ref n1, .int 0, .ref n2, .ref n3, .null, .null])), (n1, .inl (y 0, 7, .inl (upd (upd (upd (upd (upd (upd (upd (fun _ => 0) 0 30) 1 30) 2 30) 3 30) 4 30) 5 30) 6 30))), (n2, .inl (y 0, 6, .inl (fun _ => 0))), (n3, .inl (y 0, 6, .inl (fun _ => 0)))]) H := hP
  have hD : va_D A ([(h, .inr (5, [.int 0, .ref n1, .int 0, .ref n2, .ref n3, .null, .null])), (n1, .inl (y 0, 7, .inl (upd (upd (upd (upd (upd (upd (upd (fun _ => 0) 0 30) 1 30) 2 30) 3 30) 4 30) 5 30) 6 30))), (n2, .inl (y 0, 6, .inl (fun _ => 0))), (n3, .inl (y 0, 6, .inl (fun _ => 0)))]) := hD
  refine lv_aload_n hx hb dX5_init_64 rfl (lv_at hl 0 rfl) ?_
  refine va_new (C := RX4) (T := TX4) (N := 16) (ci := 4) (fs := [.int 0, .null, .null, .null, .null, .null, .null, .int 0, .null, .null, .null, .null, .int 0, .int 0, .int 0, .null]) hx hb hts hinX4 tyX4 tyX4_ok hown hcl19 hinstX4 hiniX4 hK hP hD hS hA rfl dfX4 (Nat.le_of_ble_eq_true rfl) (Nat.le_of_ble_eq_true rfl) dX5_init_65 (fun n4 H hP hD hS => ?_)
  have hP : va_P D vwCl ([(h, .inr (5, [.int 0, .ref n1, .int 0, .ref n2, .ref n3, .null, .null])), (n1, .inl (y 0, 7, .inl (upd (upd (upd (upd (upd (upd (upd (fun _ => 0) 0 30) 1 30) 2 30) 3 30) 4 30) 5 30) 6 30))), (n2, .inl (y 0, 6, .inl (fun _ => 0))), (n3, .inl (y 0, 6, .inl (fun _ => 0)))] ++ [(n4, .inr (4, [.int 0, .null, .null, .null, .null, .null, .null, .int 0, .null, .null, .null, .null, .int 0, .int 0, .int 0, .null]))]) H := hP
  have hD : va_D A ([(h, .inr (5, [.int 0, .ref n1, .int 0, .ref n2, .ref n3, .null, .null])), (n1, .inl (y 0, 7, .inl (upd (upd (upd (upd (upd (upd (upd (fun _ => 0) 0 30) 1 30) 2 30) 3 30) 4 30) 5 30) 6 30))), (n2, .inl (y 0, 6, .inl (fun _ => 0))), (n3, .inl (y 0, 6, .inl (fun _ => 0)))] ++ [(n4, .inr (4, [.int 0, .null, .null, .null, .null, .null, .null, .int 0, .null, .null, .null, .null, .int 0, .int 0, .int 0, .null]))]) := hD
  refine lv_dup hx hb dX5_init_68 rfl ?_
  refine lv_aload_n hx hb dX5_init_69 rfl (lv_at hl 0 rfl) ?_
  have hF5 := z_sub_F hD hS hA (z_in_1 (ws := [(h, .inr (5, [.int 0, .ref n1, .int 0, .ref n2, .ref n3, .null, .null])), (n1, .inl (y 0, 7, .inl (upd (upd (upd (upd (upd (upd (upd (fun _ => 0) 0 30) 1 30) 2 30) 3 30) 4 30) 5 30) 6 30))), (n2, .inl (y 0, 6, .inl (fun _ => 0))), (n3, .inl (y 0, 6, .inl (fun _ => 0)))] ++ [(n4, .inr (4, [.int 0, .null, .null, .null, .null, .null, .null, .int 0, .null, .null, .null, .null, .int 0, .int 0, .int 0, .null]))]) (k := 4) rfl)
  refine zcCIN (As := [.ref h]) (rest := [.ref n4, .ref h]) (cells1 := 14) (slots1 := 91) (w := [(n4, .inr (4, [.int 0, .null, .null, .null, .null, .null, .null, .int 0, .null, .null, .null, .null, .int 0, .int 0, .int 0, .null]))]) ⟨hx, hb, hml, hown, hts⟩ (c_X4_init l D y n4 h _) ⟨va_cnB 1 hts gX5_init_X4_init_n21 rfl rfl rfl hQ0.2.2.2.2.2 hiniX4 ⟨by decide +kernel, by decide +kernel, by decide +kernel⟩ ⟨Nat.le_of_ble_eq_true rfl, Nat.le_of_ble_eq_true rfl⟩, rfl, himX4⟩ hQ0 hK (z_sub_P hP (z_in_1 (k := 4) rfl)) z_D_1 rfl hl.1 rfl (lv_room (Nat.le_of_ble_eq_true rfl)) dX5_init_70 hS hF5 ⟨Nat.le_of_ble_eq_true rfl, Nat.le_of_ble_eq_true rfl⟩ rfl rfl (fun H locs w1 hPo hP1 hD1 hz hfr hS => ?_)
  obtain ⟨Z, hE9, rfl⟩ := hPo
  subst hE9
  obtain ⟨hP, hD⟩ := z_grow (l1 := [(h, .inr (5, [.int 0, .ref n1, .int 0, .ref n2, .ref n3, .null, .null])), (n1, .inl (y 0, 7, .inl (upd (upd (upd (upd (upd (upd (upd (fun _ => 0) 0 30) 1 30) 2 30) 3 30) 4 30) 5 30) 6 30))), (n2, .inl (y 0, 6, .inl (fun _ => 0))), (n3, .inl (y 0, 6, .inl (fun _ => 0)))]) (w := [(Z 0, .inr (4, [.int 0, .null, .null, .null, .null, .null, .null, .int 0, .null, .null, .null, .null, .int 0, .int 0, .int 0, .null]))]) hP hD rfl hP1 hD1 hfr hF5
  have hP : va_P D vwCl (([(h, .inr (5, [.int 0, .ref n1, .int 0, .ref n2, .ref n3, .null, .null])), (n1, .inl (y 0, 7, .inl (upd (upd (upd (upd (upd (upd (upd (fun _ => 0) 0 30) 1 30) 2 30) 3 30) 4 30) 5 30) 6 30))), (n2, .inl (y 0, 6, .inl (fun _ => 0))), (n3, .inl (y 0, 6, .inl (fun _ => 0)))] ++ stW Z h y (fun _ _ => 0) (fun _ _ => 0) 0 0 0 0 0)) H := hP
  have hD : va_D A (([(h, .inr (5, [.int 0, .ref n1, .int 0, .ref n2, .ref n3, .null, .null])), (n1, .inl (y 0, 7, .inl (upd (upd (upd (upd (upd (upd (upd (fun _ => 0) 0 30) 1 30) 2 30) 3 30) 4 30) 5 30) 6 30))), (n2, .inl (y 0, 6, .inl (fun _ => 0))), (n3, .inl (y 0, 6, .inl (fun _ => 0)))] ++ stW Z h y (fun _ _ => 0) (fun _ _ => 0) 0 0 0 0 0)) := hD
  refine va_putF (D := D) (ci := 5) (v := .ref (Z 0)) (ty := .object "StakeWeirsModel$State") (C := RX5) (T := TX5) (N := 7) hx hb hts hinX5 tyX5 tyX5_ok nmX5 hown hK hP hD hS (0) rfl rfl 5 (by decide) hf24 (fun _ h9 => h9) rfl hin rfl (by decide +kernel) rfl rfl (Nat.le_of_ble_eq_true rfl) dX5_init_73 (fun H locs hP hD hS => ?_)
  have hP : va_P D vwCl (([(h, .inr (5, [.int 0, .ref n1, .int 0, .ref n2, .ref n3, .ref (Z 0), .null])), (n1, .inl (y 0, 7, .inl (upd (upd (upd (upd (upd (upd (upd (fun _ => 0) 0 30) 1 30) 2 30) 3 30) 4 30) 5 30) 6 30))), (n2, .inl (y 0, 6, .inl (fun _ => 0))), (n3, .inl (y 0, 6, .inl (fun _ => 0)))] ++ stW Z h y (fun _ _ => 0) (fun _ _ => 0) 0 0 0 0 0)) H := hP
  have hD : va_D A (([(h, .inr (5, [.int 0, .ref n1, .int 0, .ref n2, .ref n3, .ref (Z 0), .null])), (n1, .inl (y 0, 7, .inl (upd (upd (upd (upd (upd (upd (upd (fun _ => 0) 0 30) 1 30) 2 30) 3 30) 4 30) 5 30) 6 30))), (n2, .inl (y 0, 6, .inl (fun _ => 0))), (n3, .inl (y 0, 6, .inl (fun _ => 0)))] ++ stW Z h y (fun _ _ => 0) (fun _ _ => 0) 0 0 0 0 0)) := hD
  refine lv_aload_n hx hb dX5_init_76 rfl (lv_at hl 0 rfl) ?_
  refine va_new (C := RX4) (T := TX4) (N := 16) (ci := 4) (fs := [.int 0, .null, .null, .null, .null, .null, .null, .int 0, .null, .null, .null, .null, .int 0, .int 0, .int 0, .null]) hx hb hts hinX4 tyX4 tyX4_ok hown hcl19 hinstX4 hiniX4 hK hP hD hS hA rfl dfX4 (Nat.le_of_ble_eq_true rfl) (Nat.le_of_ble_eq_true rfl) dX5_init_77 (fun n6 H hP hD hS => ?_)
  have hP : va_P D vwCl (([(h, .inr (5, [.int 0, .ref n1, .int 0, .ref n2, .ref n3, .ref (Z 0), .null])), (n1, .inl (y 0, 7, .inl (upd (upd (upd (upd (upd (upd (upd (fun _ => 0) 0 30) 1 30) 2 30) 3 30) 4 30) 5 30) 6 30))), (n2, .inl (y 0, 6, .inl (fun _ => 0))), (n3, .inl (y 0, 6, .inl (fun _ => 0)))] ++ stW Z h y (fun _ _ => 0) (fun _ _ => 0) 0 0 0 0 0) ++ [(n6, .inr (4, [.int 0, .null, .null, .null, .null, .null, .null, .int 0, .null, .null, .null, .null, .int 0, .int 0, .int 0, .null]))]) H := hP
  have hD : va_D A (([(h, .inr (5, [.int 0, .ref n1, .int 0, .ref n2, .ref n3, .ref (Z 0), .null])), (n1, .inl (y 0, 7, .inl (upd (upd (upd (upd (upd (upd (upd (fun _ => 0) 0 30) 1 30) 2 30) 3 30) 4 30) 5 30) 6 30))), (n2, .inl (y 0, 6, .inl (fun _ => 0))), (n3, .inl (y 0, 6, .inl (fun _ => 0)))] ++ stW Z h y (fun _ _ => 0) (fun _ _ => 0) 0 0 0 0 0) ++ [(n6, .inr (4, [.int 0, .null, .null, .null, .null, .null, .null, .int 0, .null, .null, .null, .null, .int 0, .int 0, .int 0, .null]))]) := hD
  refine lv_dup hx hb dX5_init_80 rfl ?_
  refine lv_aload_n hx hb dX5_init_81 rfl (lv_at hl 0 rfl) ?_
  have hF7 := z_sub_F hD hS hA (z_in_1 (ws := ([(h, .inr (5, [.int 0, .ref n1, .int 0, .ref n2, .ref n3, .ref (Z 0), .null])), (n1, .inl (y 0, 7, .inl (upd (upd (upd (upd (upd (upd (upd (fun _ => 0) 0 30) 1 30) 2 30) 3 30) 4 30) 5 30) 6 30))), (n2, .inl (y 0, 6, .inl (fun _ => 0))), (n3, .inl (y 0, 6, .inl (fun _ => 0)))] ++ stW Z h y (fun _ _ => 0) (fun _ _ => 0) 0 0 0 0 0) ++ [(n6, .inr (4, [.int 0, .null, .null, .null, .null, .null, .null, .int 0, .null, .null, .null, .null, .int 0, .int 0, .int 0, .null]))]) (k := 15) rfl)
  refine zcCIN (As := [.ref h]) (rest := [.ref n6, .ref h]) (cells1 := 25) (slots1 := 163) (w := [(n6, .inr (4, [.int 0, .null, .null, .null, .null, .null, .null, .int 0, .null, .null, .null, .null, .int 0, .int 0, .int 0, .null]))]) ⟨hx, hb, hml, hown, hts⟩ (c_X4_init l D y n6 h _) ⟨va_cnB 1 hts gX5_init_X4_init_n21 rfl rfl rfl hQ0.2.2.2.2.2 hiniX4 ⟨by decide +kernel, by decide +kernel, by decide +kernel⟩ ⟨Nat.le_of_ble_eq_true rfl, Nat.le_of_ble_eq_true rfl⟩, rfl, himX4⟩ hQ0 hK (z_sub_P hP (z_in_1 (k := 15) rfl)) z_D_1 rfl hl.1 rfl (lv_room (Nat.le_of_ble_eq_true rfl)) dX5_init_82 hS hF7 ⟨Nat.le_of_ble_eq_true rfl, Nat.le_of_ble_eq_true rfl⟩ rfl rfl (fun H locs w1 hPo hP1 hD1 hz hfr hS => ?_)
  obtain ⟨Z2, hE9, rfl⟩ := hPo
  subst hE9
  obtain ⟨hP, hD⟩ := z_grow (l1 := ([(h, .inr (5, [.int 0, .ref n1, .int 0, .ref n2, .ref n3, .ref (Z 0), .null])), (n1, .inl (y 0, 7, .inl (upd (upd (upd (upd (upd (upd (upd (fun _ => 0) 0 30) 1 30) 2 30) 3 30) 4 30) 5 30) 6 30))), (n2, .inl (y 0, 6, .inl (fun _ => 0))), (n3, .inl (y 0, 6, .inl (fun _ => 0)))] ++ stW Z h y (fun _ _ => 0) (fun _ _ => 0) 0 0 0 0 0)) (w := [(Z2 0, .inr (4, [.int 0, .null, .null, .null, .null, .null, .null, .int 0, .null, .null, .null, .null, .int 0, .int 0, .int 0, .null]))]) hP hD rfl hP1 hD1 hfr hF7
  have hP : va_P D vwCl ((([(h, .inr (5, [.int 0, .ref n1, .int 0, .ref n2, .ref n3, .ref (Z 0), .null])), (n1, .inl (y 0, 7, .inl (upd (upd (upd (upd (upd (upd (upd (fun _ => 0) 0 30) 1 30) 2 30) 3 30) 4 30) 5 30) 6 30))), (n2, .inl (y 0, 6, .inl (fun _ => 0))), (n3, .inl (y 0, 6, .inl (fun _ => 0)))] ++ stW Z h y (fun _ _ => 0) (fun _ _ => 0) 0 0 0 0 0) ++ stW Z2 h y (fun _ _ => 0) (fun _ _ => 0) 0 0 0 0 0)) H := hP
  have hD : va_D A ((([(h, .inr (5, [.int 0, .ref n1, .int 0, .ref n2, .ref n3, .ref (Z 0), .null])), (n1, .inl (y 0, 7, .inl (upd (upd (upd (upd (upd (upd (upd (fun _ => 0) 0 30) 1 30) 2 30) 3 30) 4 30) 5 30) 6 30))), (n2, .inl (y 0, 6, .inl (fun _ => 0))), (n3, .inl (y 0, 6, .inl (fun _ => 0)))] ++ stW Z h y (fun _ _ => 0) (fun _ _ => 0) 0 0 0 0 0) ++ stW Z2 h y (fun _ _ => 0) (fun _ _ => 0) 0 0 0 0 0)) := hD
  refine va_putF (D := D) (ci := 5) (v := .ref (Z2 0)) (ty := .object "StakeWeirsModel$State") (C := RX5) (T := TX5) (N := 7) hx hb hts hinX5 tyX5 tyX5_ok nmX5 hown hK hP hD hS (0) rfl rfl 6 (by decide) hf28 (fun _ h9 => h9) rfl hin rfl (by decide +kernel) rfl rfl (Nat.le_of_ble_eq_true rfl) dX5_init_85 (fun H locs hP hD hS => ?_)
  have hP : va_P D vwCl ((([(h, .inr (5, [.int 0, .ref n1, .int 0, .ref n2, .ref n3, .ref (Z 0), .ref (Z2 0)])), (n1, .inl (y 0, 7, .inl (upd (upd (upd (upd (upd (upd (upd (fun _ => 0) 0 30) 1 30) 2 30) 3 30) 4 30) 5 30) 6 30))), (n2, .inl (y 0, 6, .inl (fun _ => 0))), (n3, .inl (y 0, 6, .inl (fun _ => 0)))] ++ stW Z h y (fun _ _ => 0) (fun _ _ => 0) 0 0 0 0 0) ++ stW Z2 h y (fun _ _ => 0) (fun _ _ => 0) 0 0 0 0 0)) H := hP
  have hD : va_D A ((([(h, .inr (5, [.int 0, .ref n1, .int 0, .ref n2, .ref n3, .ref (Z 0), .ref (Z2 0)])), (n1, .inl (y 0, 7, .inl (upd (upd (upd (upd (upd (upd (upd (fun _ => 0) 0 30) 1 30) 2 30) 3 30) 4 30) 5 30) 6 30))), (n2, .inl (y 0, 6, .inl (fun _ => 0))), (n3, .inl (y 0, 6, .inl (fun _ => 0)))] ++ stW Z h y (fun _ _ => 0) (fun _ _ => 0) 0 0 0 0 0) ++ stW Z2 h y (fun _ _ => 0) (fun _ _ => 0) 0 0 0 0 0)) := hD
  have hP := z_arr_eq (k := 1) (g := fun _ => 30) hP rfl (fun i hi => by rcases (show i = 0 ∨ i = 1 ∨ i = 2 ∨ i = 3 ∨ i = 4 ∨ i = 5 ∨ i = 6 by omega) with rfl | rfl | rfl | rfl | rfl | rfl | rfl <;> rfl)
  have hP : va_P D vwCl ((([(h, .inr (5, [.int 0, .ref n1, .int 0, .ref n2, .ref n3, .ref (Z 0), .ref (Z2 0)])), (n1, .inl (y 0, 7, .inl (fun _ => 30))), (n2, .inl (y 0, 6, .inl (fun _ => 0))), (n3, .inl (y 0, 6, .inl (fun _ => 0)))] ++ stW Z h y (fun _ _ => 0) (fun _ _ => 0) 0 0 0 0 0) ++ stW Z2 h y (fun _ _ => 0) (fun _ _ => 0) 0 0 0 0 0)) H := hP
  have hD : va_D A ((([(h, .inr (5, [.int 0, .ref n1, .int 0, .ref n2, .ref n3, .ref (Z 0), .ref (Z2 0)])), (n1, .inl (y 0, 7, .inl (fun _ => 30))), (n2, .inl (y 0, 6, .inl (fun _ => 0))), (n3, .inl (y 0, 6, .inl (fun _ => 0)))] ++ stW Z h y (fun _ _ => 0) (fun _ _ => 0) 0 0 0 0 0) ++ stW Z2 h y (fun _ _ => 0) (fun _ _ => 0) 0 0 0 0 0)) := z_D_adr hD rfl
  exact zC_v hx hb hr hlocks hS dX5_init_88 ⟨(fun i => [h, n1, n2, n3].getD i 0), Z, Z2, rfl, rfl⟩ hP hD
