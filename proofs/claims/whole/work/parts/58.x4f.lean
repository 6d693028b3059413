def cntF (t : Nat → Int32) (q : Fld) (c bc n : Nat) (ar fi rn : Int32) : Nat → Int32 := upd (upd (upd (upd (upd (upd (upd (upd (upd (upd (fun _ => 0) 0 (nI n)) 1 (moonI n)) 2 (runM t n)) 3 (nI c)) 4 (heldN q c)) 5 (nI bc)) 6 ar) 7 fi) 8 rn) 9 (eelsN q c)
set_option maxHeartbeats 1000000 in
set_option maxRecDepth 100000 in
theorem c_X4_counted (l : Launch) (D : va_G) (y : Nat → ClassId) (Y Z : Nat → Nat) (r1 r2 : Nat) (th : Int32) (t : Nat → Int32) (c : Nat) (q b : Fld) (bc n : Nat) (ar fi rn : Int32) (j : Nat) (hj : j < 10) (hc : c ≤ 6) (hn : n < 2147483648) (sz : Nat) : zMN l yX4_counted wsX4_counted { frames := 2, cells := 1, slots := 10, locals := 43 } D y [.ref (Z 0), .int (nI j)] (mW Y Z r1 r2 y th t c q b bc n ar fi rn) sz (some (.int (cntF t q c bc n ar fi rn j))) (mW Y Z r1 r2 y th t c q b bc n ar fi rn) 1 10 := by
  refine zMN.of (cc := cX4_counted) (maxL := 3) (ret := (some .int)) (own := RX4) (by decide) rfl (Nat.le_of_ble_eq_true rfl) rfl ?_
  intro p e s m args below meth cd ls A H locs hx hb hr hml hown hts hlocks hP hK hD hA hS hN hl hin
  have hS0 := hS
  have hl : lv_has ls 3 [(0, .ref (Z 0)), (1, .int (nI j))] := hl
  have harr : (Cond.arrayClass .int).before args s = true := hts _ (by decide +kernel)
  have hf52 : (Cond.fieldLink RX4 52 "StakeWeirsModel$State" "night" "I").before args s = true := hts _ (by decide +kernel)
  have hinX4 : ∀ w ∈ wsX40, w ∈ wsX4_counted := by decide +kernel
  have hf3 : (Cond.fieldLink RX4 3 "StakeWeirsModel$State" "this$0" "LStakeWeirsModel;").before args s = true := hts _ (by decide +kernel)
  have hf86 : (Cond.fieldLinkNest "StakeWeirsModel$State" 86 "StakeWeirsModel" "weirs" "I" "StakeWeirsModel").before args s = true := va_Nw.use rfl (hN ("StakeWeirsModel$State", 86, "StakeWeirsModel", "weirs", "I", "StakeWeirsModel") (by decide +kernel))
  have hinX5 : ∀ w ∈ wsX50, w ∈ wsX4_counted := by decide +kernel
  have hf56 : (Cond.fieldLink RX4 56 "StakeWeirsModel$State" "barges" "I").before args s = true := hts _ (by decide +kernel)
  have hf59 : (Cond.fieldLink RX4 59 "StakeWeirsModel$State" "arrived" "I").before args s = true := hts _ (by decide +kernel)
  have hf62 : (Cond.fieldLink RX4 62 "StakeWeirsModel$State" "fines" "I").before args s = true := hts _ (by decide +kernel)
  have hf65 : (Cond.fieldLink RX4 65 "StakeWeirsModel$State" "rents" "I").before args s = true := hts _ (by decide +kernel)
  refine lv_bipush (v := 10) hx hb dX4_counted_0 (by decide) ?_
  refine va_newa (atype := .int) (ty := .int) (a0 := (10, .inl (fun _ => 0))) (N' := 10) hx hb harr rfl hK hP hD hS hA (fun _ => rfl) (by decide) rfl (by have h9 : componentBytes .int = 4 := rfl; omega) (Nat.le_of_ble_eq_true rfl) (Nat.le_of_ble_eq_true rfl) dX4_counted_2 (fun qn cA H hKn hP hD hS => ?_)
  refine lv_dup hx hb dX4_counted_4 rfl ?_
  refine lv_iconst (v := 0) hx hb dX4_counted_5 (by decide) ?_
  refine lv_aload_n hx hb dX4_counted_6 rfl (lv_at hl 0 rfl) ?_
  refine va_get (D := D) (ci := 4) (v := .int (nI n)) (C := RX4) (T := TX4) (N := 16) hx hb hts hinX4 hown hK hP (4) rfl rfl 0 (by decide) hf52 (fun _ h9 => h9) rfl dX4_counted_7 ?_
  refine z_astG hx hb hKn hP hD hS 15 4 (f := (fun _ => 0)) rfl rfl 0 rfl (by omega) (by decide) rfl dX4_counted_10 (fun H locs hP hD hS => ?_)
  have hP : va_P D vwCl (mW Y Z r1 r2 y th t c q b bc n ar fi rn ++ [(qn, .inl (cA, 10, .inl (upd (fun _ => 0) 0 (nI n))))]) H := hP
  have hD : va_D A (mW Y Z r1 r2 y th t c q b bc n ar fi rn ++ [(qn, .inl (cA, 10, .inl (upd (fun _ => 0) 0 (nI n))))]) := hD
  refine lv_dup hx hb dX4_counted_11 rfl ?_
  refine lv_iconst (v := 1) hx hb dX4_counted_12 (by decide) ?_
  refine lv_aload_n hx hb dX4_counted_13 rfl (lv_at hl 0 rfl) ?_
  refine zcRV (As := []) (rest := [.int 1, .ref qn, .ref qn]) (st1 := [.int ((moonI n)), .int 1, .ref qn, .ref qn]) ⟨hx, hb, hml, hown, hts⟩ (c_X4_moon l D y Y Z r1 r2 th t c q b bc n ar fi rn  (by omega)) (cwV 0 hts gX4_counted_X4_moon rfl rfl rfl (by decide +kernel) ⟨Nat.le_of_ble_eq_true rfl, Nat.le_of_ble_eq_true rfl⟩) hK (z_sub_P hP (fun z h => List.mem_append_left _ h)) (ci := 4) (q0 := 4) rfl rfl rfl rfl hl.1 rfl (lv_room (Nat.le_of_ble_eq_true rfl)) dX4_counted_14 ⟨Nat.le_of_ble_eq_true rfl, Nat.le_of_ble_eq_true rfl⟩ rfl ?_
  refine z_astG hx hb hKn hP hD hS 15 4 (f := (upd (fun _ => 0) 0 (nI n))) rfl rfl 1 rfl (by omega) (by decide) rfl dX4_counted_17 (fun H locs hP hD hS => ?_)
  have hP : va_P D vwCl (mW Y Z r1 r2 y th t c q b bc n ar fi rn ++ [(qn, .inl (cA, 10, .inl (upd (upd (fun _ => 0) 0 (nI n)) 1 (moonI n))))]) H := hP
  have hD : va_D A (mW Y Z r1 r2 y th t c q b bc n ar fi rn ++ [(qn, .inl (cA, 10, .inl (upd (upd (fun _ => 0) 0 (nI n)) 1 (moonI n))))]) := hD
  refine lv_dup hx hb dX4_counted_18 rfl ?_
  refine lv_iconst (v := 2) hx hb dX4_counted_19 (by decide) ?_
  refine lv_aload_n hx hb dX4_counted_20 rfl (lv_at hl 0 rfl) ?_
  refine zcNRV (As := []) (rest := [.int 2, .ref qn, .ref qn]) (st1 := [.int ((runM t n)), .int 2, .ref qn, .ref qn]) ⟨hx, hb, hml, hown, hts⟩ (c_X4_run l D y Y Z r1 r2 th t c q b bc n ar fi rn  (by omega)) (cwV 0 hts gX4_counted_X4_run rfl rfl rfl (by decide +kernel) ⟨Nat.le_of_ble_eq_true rfl, Nat.le_of_ble_eq_true rfl⟩) hN hK (z_sub_P hP (fun z h => List.mem_append_left _ h)) (ci := 4) (q0 := 4) rfl rfl rfl rfl hl.1 rfl (lv_room (Nat.le_of_ble_eq_true rfl)) dX4_counted_21 ⟨Nat.le_of_ble_eq_true rfl, Nat.le_of_ble_eq_true rfl⟩ rfl ?_
  refine z_astG hx hb hKn hP hD hS 15 4 (f := (upd (upd (fun _ => 0) 0 (nI n)) 1 (moonI n))) rfl rfl 2 rfl (by omega) (by decide) rfl dX4_counted_24 (fun H locs hP hD hS => ?_)
  have hP : va_P D vwCl (mW Y Z r1 r2 y th t c q b bc n ar fi rn ++ [(qn, .inl (cA, 10, .inl (upd (upd (upd (fun _ => 0) 0 (nI n)) 1 (moonI n)) 2 (runM t n))))]) H := hP
  have hD : va_D A (mW Y Z r1 r2 y th t c q b bc n ar fi rn ++ [(qn, .inl (cA, 10, .inl (upd (upd (upd (fun _ => 0) 0 (nI n)) 1 (moonI n)) 2 (runM t n))))]) := hD
  refine lv_dup hx hb dX4_counted_25 rfl ?_
  refine lv_iconst (v := 3) hx hb dX4_counted_26 (by decide) ?_
  refine lv_aload_n hx hb dX4_counted_27 rfl (lv_at hl 0 rfl) ?_
  refine va_get (D := D) (ci := 4) (v := .ref (Y 0)) (C := RX4) (T := TX4) (N := 16) hx hb hts hinX4 hown hK hP (4) rfl rfl 15 (by decide) hf3 (fun _ h9 => h9) rfl dX4_counted_28 ?_
  refine va_getN (D := D) (ci := 5) (v := .int (nI c)) (C := RX5) (T := TX5) (N := 7) hx hb hts hinX5 hown hK hP (0) rfl rfl 2 (by decide) hf86 (fun _ h9 => h9) rfl dX4_counted_31 ?_
  refine z_astG hx hb hKn hP hD hS 15 4 (f := (upd (upd (upd (fun _ => 0) 0 (nI n)) 1 (moonI n)) 2 (runM t n))) rfl rfl 3 rfl (by omega) (by decide) rfl dX4_counted_34 (fun H locs hP hD hS => ?_)
  have hP : va_P D vwCl (mW Y Z r1 r2 y th t c q b bc n ar fi rn ++ [(qn, .inl (cA, 10, .inl (upd (upd (upd (upd (fun _ => 0) 0 (nI n)) 1 (moonI n)) 2 (runM t n)) 3 (nI c))))]) H := hP
  have hD : va_D A (mW Y Z r1 r2 y th t c q b bc n ar fi rn ++ [(qn, .inl (cA, 10, .inl (upd (upd (upd (upd (fun _ => 0) 0 (nI n)) 1 (moonI n)) 2 (runM t n)) 3 (nI c))))]) := hD
  refine lv_dup hx hb dX4_counted_35 rfl ?_
  refine lv_iconst (v := 4) hx hb dX4_counted_36 (by decide) ?_
  refine lv_aload_n hx hb dX4_counted_37 rfl (lv_at hl 0 rfl) ?_
  refine zcNRV (As := []) (rest := [.int 4, .ref qn, .ref qn]) (st1 := [.int ((heldN q c)), .int 4, .ref qn, .ref qn]) ⟨hx, hb, hml, hown, hts⟩ (c_X4_held l D y Y Z r1 r2 th t c q b bc n ar fi rn  (by omega)) (cwV 0 hts gX4_counted_X4_held rfl rfl rfl (by decide +kernel) ⟨Nat.le_of_ble_eq_true rfl, Nat.le_of_ble_eq_true rfl⟩) hN hK (z_sub_P hP (fun z h => List.mem_append_left _ h)) (ci := 4) (q0 := 4) rfl rfl rfl rfl hl.1 rfl (lv_room (Nat.le_of_ble_eq_true rfl)) dX4_counted_38 ⟨Nat.le_of_ble_eq_true rfl, Nat.le_of_ble_eq_true rfl⟩ rfl ?_
  refine z_astG hx hb hKn hP hD hS 15 4 (f := (upd (upd (upd (upd (fun _ => 0) 0 (nI n)) 1 (moonI n)) 2 (runM t n)) 3 (nI c))) rfl rfl 4 rfl (by omega) (by decide) rfl dX4_counted_41 (fun H locs hP hD hS => ?_)
  have hP : va_P D vwCl (mW Y Z r1 r2 y th t c q b bc n ar fi rn ++ [(qn, .inl (cA, 10, .inl (upd (upd (upd (upd (upd (fun _ => 0) 0 (nI n)) 1 (moonI n)) 2 (runM t n)) 3 (nI c)) 4 (heldN q c))))]) H := hP
  have hD : va_D A (mW Y Z r1 r2 y th t c q b bc n ar fi rn ++ [(qn, .inl (cA, 10, .inl (upd (upd (upd (upd (upd (fun _ => 0) 0 (nI n)) 1 (moonI n)) 2 (runM t n)) 3 (nI c)) 4 (heldN q c))))]) := hD
  refine lv_dup hx hb dX4_counted_42 rfl ?_
  refine lv_iconst (v := 5) hx hb dX4_counted_43 (by decide) ?_
  refine lv_aload_n hx hb dX4_counted_44 rfl (lv_at hl 0 rfl) ?_
  refine va_get (D := D) (ci := 4) (v := .int (nI bc)) (C := RX4) (T := TX4) (N := 16) hx hb hts hinX4 hown hK hP (4) rfl rfl 7 (by decide) hf56 (fun _ h9 => h9) rfl dX4_counted_45 ?_
  refine z_astG hx hb hKn hP hD hS 15 4 (f := (upd (upd (upd (upd (upd (fun _ => 0) 0 (nI n)) 1 (moonI n)) 2 (runM t n)) 3 (nI c)) 4 (heldN q c))) rfl rfl 5 rfl (by omega) (by decide) rfl dX4_counted_48 (fun H locs hP hD hS => ?_)
  have hP : va_P D vwCl (mW Y Z r1 r2 y th t c q b bc n ar fi rn ++ [(qn, .inl (cA, 10, .inl (upd (upd (upd (upd (upd (upd (fun _ => 0) 0 (nI n)) 1 (moonI n)) 2 (runM t n)) 3 (nI c)) 4 (heldN q c)) 5 (nI bc))))]) H := hP
  have hD : va_D A (mW Y Z r1 r2 y th t c q b bc n ar fi rn ++ [(qn, .inl (cA, 10, .inl (upd (upd (upd (upd (upd (upd (fun _ => 0) 0 (nI n)) 1 (moonI n)) 2 (runM t n)) 3 (nI c)) 4 (heldN q c)) 5 (nI bc))))]) := hD
  refine lv_dup hx hb dX4_counted_49 rfl ?_
  refine lv_bipush (v := 6) hx hb dX4_counted_50 (by decide) ?_
  refine lv_aload_n hx hb dX4_counted_52 rfl (lv_at hl 0 rfl) ?_
  refine va_get (D := D) (ci := 4) (v := .int ar) (C := RX4) (T := TX4) (N := 16) hx hb hts hinX4 hown hK hP (4) rfl rfl 12 (by decide) hf59 (fun _ h9 => h9) rfl dX4_counted_53 ?_
  refine z_astG hx hb hKn hP hD hS 15 4 (f := (upd (upd (upd (upd (upd (upd (fun _ => 0) 0 (nI n)) 1 (moonI n)) 2 (runM t n)) 3 (nI c)) 4 (heldN q c)) 5 (nI bc))) rfl rfl 6 rfl (by omega) (by decide) rfl dX4_counted_56 (fun H locs hP hD hS => ?_)
  have hP : va_P D vwCl (mW Y Z r1 r2 y th t c q b bc n ar fi rn ++ [(qn, .inl (cA, 10, .inl (upd (upd (upd (upd (upd (upd (upd (fun _ => 0) 0 (nI n)) 1 (moonI n)) 2 (runM t n)) 3 (nI c)) 4 (heldN q c)) 5 (nI bc)) 6 ar)))]) H := hP
  have hD : va_D A (mW Y Z r1 r2 y th t c q b bc n ar fi rn ++ [(qn, .inl (cA, 10, .inl (upd (upd (upd (upd (upd (upd (upd (fun _ => 0) 0 (nI n)) 1 (moonI n)) 2 (runM t n)) 3 (nI c)) 4 (heldN q c)) 5 (nI bc)) 6 ar)))]) := hD
  refine lv_dup hx hb dX4_counted_57 rfl ?_
  refine lv_bipush (v := 7) hx hb dX4_counted_58 (by decide) ?_
  refine lv_aload_n hx hb dX4_counted_60 rfl (lv_at hl 0 rfl) ?_
  refine va_get (D := D) (ci := 4) (v := .int fi) (C := RX4) (T := TX4) (N := 16) hx hb hts hinX4 hown hK hP (4) rfl rfl 13 (by decide) hf62 (fun _ h9 => h9) rfl dX4_counted_61 ?_
  refine z_astG hx hb hKn hP hD hS 15 4 (f := (upd (upd (upd (upd (upd (upd (upd (fun _ => 0) 0 (nI n)) 1 (moonI n)) 2 (runM t n)) 3 (nI c)) 4 (heldN q c)) 5 (nI bc)) 6 ar)) rfl rfl 7 rfl (by omega) (by decide) rfl dX4_counted_64 (fun H locs hP hD hS => ?_)
  have hP : va_P D vwCl (mW Y Z r1 r2 y th t c q b bc n ar fi rn ++ [(qn, .inl (cA, 10, .inl (upd (upd (upd (upd (upd (upd (upd (upd (fun _ => 0) 0 (nI n)) 1 (moonI n)) 2 (runM t n)) 3 (nI c)) 4 (heldN q c)) 5 (nI bc)) 6 ar) 7 fi)))]) H := hP
  have hD : va_D A (mW Y Z r1 r2 y th t c q b bc n ar fi rn ++ [(qn, .inl (cA, 10, .inl (upd (upd (upd (upd (upd (upd (upd (upd (fun _ => 0) 0 (nI n)) 1 (moonI n)) 2 (runM t n)) 3 (nI c)) 4 (heldN q c)) 5 (nI bc)) 6 ar) 7 fi)))]) := hD
  refine lv_dup hx hb dX4_counted_65 rfl ?_
  refine lv_bipush (v := 8) hx hb dX4_counted_66 (by decide) ?_
  refine lv_aload_n hx hb dX4_counted_68 rfl (lv_at hl 0 rfl) ?_
  refine va_get (D := D) (ci := 4) (v := .int rn) (C := RX4) (T := TX4) (N := 16) hx hb hts hinX4 hown hK hP (4) rfl rfl 14 (by decide) hf65 (fun _ h9 => h9) rfl dX4_counted_69 ?_
  refine z_astG hx hb hKn hP hD hS 15 4 (f := (upd (upd (upd (upd (upd (upd (upd (upd (fun _ => 0) 0 (nI n)) 1 (moonI n)) 2 (runM t n)) 3 (nI c)) 4 (heldN q c)) 5 (nI bc)) 6 ar) 7 fi)) rfl rfl 8 rfl (by omega) (by decide) rfl dX4_counted_72 (fun H locs hP hD hS => ?_)
  have hP : va_P D vwCl (mW Y Z r1 r2 y th t c q b bc n ar fi rn ++ [(qn, .inl (cA, 10, .inl (upd (upd (upd (upd (upd (upd (upd (upd (upd (fun _ => 0) 0 (nI n)) 1 (moonI n)) 2 (runM t n)) 3 (nI c)) 4 (heldN q c)) 5 (nI bc)) 6 ar) 7 fi) 8 rn)))]) H := hP
  have hD : va_D A (mW Y Z r1 r2 y th t c q b bc n ar fi rn ++ [(qn, .inl (cA, 10, .inl (upd (upd (upd (upd (upd (upd (upd (upd (upd (fun _ => 0) 0 (nI n)) 1 (moonI n)) 2 (runM t n)) 3 (nI c)) 4 (heldN q c)) 5 (nI bc)) 6 ar) 7 fi) 8 rn)))]) := hD
  refine lv_dup hx hb dX4_counted_73 rfl ?_
  refine lv_bipush (v := 9) hx hb dX4_counted_74 (by decide) ?_
  refine lv_aload_n hx hb dX4_counted_76 rfl (lv_at hl 0 rfl) ?_
  refine zcNRV (As := []) (rest := [.int 9, .ref qn, .ref qn]) (st1 := [.int ((eelsN q c)), .int 9, .ref qn, .ref qn]) ⟨hx, hb, hml, hown, hts⟩ (c_X4_allEels l D y Y Z r1 r2 th t c q b bc n ar fi rn  (by omega)) (cwV 0 hts gX4_counted_X4_allEels rfl rfl rfl (by decide +kernel) ⟨Nat.le_of_ble_eq_true rfl, Nat.le_of_ble_eq_true rfl⟩) hN hK (z_sub_P hP (fun z h => List.mem_append_left _ h)) (ci := 4) (q0 := 4) rfl rfl rfl rfl hl.1 rfl (lv_room (Nat.le_of_ble_eq_true rfl)) dX4_counted_77 ⟨Nat.le_of_ble_eq_true rfl, Nat.le_of_ble_eq_true rfl⟩ rfl ?_
  refine z_astG hx hb hKn hP hD hS 15 4 (f := (upd (upd (upd (upd (upd (upd (upd (upd (upd (fun _ => 0) 0 (nI n)) 1 (moonI n)) 2 (runM t n)) 3 (nI c)) 4 (heldN q c)) 5 (nI bc)) 6 ar) 7 fi) 8 rn)) rfl rfl 9 rfl (by omega) (by decide) rfl dX4_counted_80 (fun H locs hP hD hS => ?_)
  have hP : va_P D vwCl (mW Y Z r1 r2 y th t c q b bc n ar fi rn ++ [(qn, .inl (cA, 10, .inl (upd (upd (upd (upd (upd (upd (upd (upd (upd (upd (fun _ => 0) 0 (nI n)) 1 (moonI n)) 2 (runM t n)) 3 (nI c)) 4 (heldN q c)) 5 (nI bc)) 6 ar) 7 fi) 8 rn) 9 (eelsN q c))))]) H := hP
  have hD : va_D A (mW Y Z r1 r2 y th t c q b bc n ar fi rn ++ [(qn, .inl (cA, 10, .inl (upd (upd (upd (upd (upd (upd (upd (upd (upd (upd (fun _ => 0) 0 (nI n)) 1 (moonI n)) 2 (runM t n)) 3 (nI c)) 4 (heldN q c)) 5 (nI bc)) 6 ar) 7 fi) 8 rn) 9 (eelsN q c))))]) := hD
  refine lv_astore_n (lv' := [(2, .ref qn), (0, .ref (Z 0)), (1, .int (nI j))]) hx hb dX4_counted_81 rfl hl (by decide) rfl (fun ls hl => ?_)
  refine lv_aload_n hx hb dX4_counted_82 rfl (lv_at hl 0 rfl) ?_
  refine lv_iload_n hx hb dX4_counted_83 rfl (lv_at hl 2 rfl) ?_
  refine z_aldG hx hb hKn hP 15 4 (f := (upd (upd (upd (upd (upd (upd (upd (upd (upd (upd (fun _ => 0) 0 (nI n)) 1 (moonI n)) 2 (runM t n)) 3 (nI c)) 4 (heldN q c)) 5 (nI bc)) 6 ar) 7 fi) 8 rn) 9 (eelsN q c))) rfl rfl j rfl (by omega) (by decide) dX4_counted_84 ?_
  exact zM_i hx hb hr hlocks hS dX4_counted_85 rfl (z_sub_P hP (fun z h => List.mem_append_left _ h))
