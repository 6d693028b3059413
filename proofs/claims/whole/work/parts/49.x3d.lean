def eelsT (N T : TS) (k mm : Nat) (x : Int32) : TS := nightsT mm (stakeT (copyT N T) k x)
def advS (N : TS) (k mm i : Nat) (a : Int32 × Int32 × TS) : Int32 × Int32 × TS :=
  if a.2.1 < (eelsT N a.2.2 k mm (nI (i + 1))).2.2.1 5 k then (nI (i + 1), (eelsT N a.2.2 k mm (nI (i + 1))).2.2.1 5 k, eelsT N a.2.2 k mm (nI (i + 1))) else (a.1, a.2.1, eelsT N a.2.2 k mm (nI (i + 1)))
def advE (N T : TS) (k mm i : Nat) : Int32 × Int32 × TS := itN (advS N k mm) i (1, -1, T)
theorem advE_s (N T : TS) (k mm i : Nat) : advE N T k mm (i + 1) = advS N k mm i (advE N T k mm i) := rfl
def digS (d : Int64) (x : Int32) : Int64 := d * 31 + x.toInt64
def digW8 (q : Fld) (k : Nat) (d : Int64) : Int64 := (digS (digS (digS (digS (digS (digS (digS (digS d (factW q k 0)) (factW q k 1)) (factW q k 2)) (factW q k 3)) (factW q k 4)) (factW q k 5)) (factW q k 6)) (factW q k 7))
def digB4 (q b : Fld) (c k : Nat) (d : Int64) : Int64 := (digS (digS (digS (digS d (b 1 k)) (b 2 k)) (b 3 k)) ((nextE q c (b 2 k) (b 1 k)).1))
def digWs (q : Fld) (d : Int64) : Nat → Int64
  | 0 => d
  | k + 1 => digW8 q k (digWs q d k)
def digBs (q b : Fld) (c : Nat) (d : Int64) : Nat → Int64
  | 0 => d
  | k + 1 => digB4 q b c k (digBs q b c d k)
def meanI (s h : Int32) : UInt64 := if h = 0 then FP.dconst0 else FP.ddiv (FP.i2d s) (FP.i2d h)
set_option maxHeartbeats 4000000 in
set_option maxRecDepth 100000 in
theorem c_X3_eelsWithStakes (l : Launch) (D : va_G) (y : Nat → ClassId) (X0 : Nat) (E E2 : Nat → Nat) (t : Nat → Int32) (o : Nat → Nat) (q b : Fld) (c bc n : Nat) (ar fi re : Int32) (T : TS) (k : Nat) (hk : k < c) (x : Int32) (mm : Nat) (hn : n + mm < 2147483648) (hc : c ≤ 6) (hbc : bc ≤ 5) (ho : ∀ i, i < c → o i < c) (h01 : ∀ i, i < c → q 6 i = 0 ∨ q 6 i = 1)  (sz : Nat) : zM l yX3_eelsWithStakes wsX3_eelsWithStakes { frames := 5, cells := 0, slots := 0, locals := 111 } D y [.ref X0, .int (nI k), .int x, .int (nI mm)] (sW X0 E E2 y t o q b c bc n ar fi re T) sz (some (.int ((eelsT (t, o, q, b, c, bc, n, ar, fi, re) T k mm x).2.2.1 5 k))) (sW X0 E E2 y t o q b c bc n ar fi re (eelsT (t, o, q, b, c, bc, n, ar, fi, re) T k mm x)) 0 0 := by
  refine zM.ofH (cc := cX3_eelsWithStakes) (maxL := 5) (ret := (some .int)) (own := RX3) (by decide) rfl (Nat.le_of_ble_eq_true rfl) rfl ?_
  intro p e s m args below meth cd ls A H locs hx hb hr hml hown hts hlocks hP hK hD hA hS hl hin
  have hS0 := hS
  have hl : lv_has ls 5 [(0, .ref X0), (1, .int (nI k)), (2, .int x), (3, .int (nI mm))] := hl
  have hf16 : (Cond.fieldLink RX3 16 "StakeWeirs" "trial" "LStakeWeirs$Estuary;").before args s = true := hts _ (by decide +kernel)
  have hinX3 : ∀ w ∈ wsX30, w ∈ wsX3_eelsWithStakes := by decide +kernel
  have hf12 : (Cond.fieldLink RX3 12 "StakeWeirs" "now" "LStakeWeirs$Estuary;").before args s = true := hts _ (by decide +kernel)
  have hf76 : (Cond.fieldLink RX3 76 "StakeWeirs$Weir" "stakes" "I").before args s = true := hts _ (by decide +kernel)
  have hinX2 : ∀ w ∈ wsX20, w ∈ wsX3_eelsWithStakes := by decide +kernel
  have hf81 : (Cond.fieldLink RX3 81 "StakeWeirs$Weir" "eels" "I").before args s = true := hts _ (by decide +kernel)
  refine lv_aload_n hx hb dX3_eelsWithStakes_0 rfl (lv_at hl 0 rfl) ?_
  refine va_get (D := D) (ci := 3) (v := .ref (E2 0)) (C := RX3) (T := TX3) (N := 2) hx hb hts hinX3 hown hK hP (0) rfl rfl 1 (by decide) hf16 (fun _ h9 => h9) rfl dX3_eelsWithStakes_1 ?_
  refine lv_aload_n hx hb dX3_eelsWithStakes_4 rfl (lv_at hl 0 rfl) ?_
  refine va_get (D := D) (ci := 3) (v := .ref (E 0)) (C := RX3) (T := TX3) (N := 2) hx hb hts hinX3 hown hK hP (0) rfl rfl 0 (by decide) hf12 (fun _ h9 => h9) rfl dX3_eelsWithStakes_5 ?_
  refine zcMV (As := [.ref (E 0)]) (rest := []) (st1 := []) (cells1 := 0) (slots1 := 0) ⟨hx, hb, hml, hown, hts⟩ (c_X1_copyFrom l D y E2 T.1 T.2.1 T.2.2.1 T.2.2.2.1 T.2.2.2.2.1 T.2.2.2.2.2.1 T.2.2.2.2.2.2.1 T.2.2.2.2.2.2.2.1 T.2.2.2.2.2.2.2.2.1 T.2.2.2.2.2.2.2.2.2 E t o q b c bc n ar fi re (by omega) (by omega) h01 _) (cwV 1 hts gX3_eelsWithStakes_X1_copyFrom rfl rfl rfl (by decide +kernel) ⟨Nat.le_of_ble_eq_true rfl, Nat.le_of_ble_eq_true rfl⟩) hK (z_sub_P hP (fun z h => List.mem_append_right _ ((List.mem_append.mp h).elim (fun h => List.mem_append_right _ h) (fun h => List.mem_append_left _ h)))) (z_D_s (l1 := [(X0, .inr (3, [.ref (E 0), .ref (E2 0)]))]) hD) (ci := 1) (q0 := 0) rfl rfl rfl rfl hl.1 rfl (lv_room (Nat.le_of_ble_eq_true rfl)) dX3_eelsWithStakes_8 hS (z_sub_F hD hS hA (fun z h => List.mem_append_right _ ((List.mem_append.mp h).elim (fun h => List.mem_append_right _ h) (fun h => List.mem_append_left _ h)))) ⟨Nat.le_of_ble_eq_true rfl, Nat.le_of_ble_eq_true rfl⟩ rfl rfl rfl (fun H locs hP1 hz hfr hS => ?_)
  obtain ⟨hP, hD⟩ := z_segS (ws1 := sW X0 E E2 y t o q b c bc n ar fi re (copyT (t, o, q, b, c, bc, n, ar, fi, re) T)) (l1 := [(X0, .inr (3, [.ref (E 0), .ref (E2 0)]))]) (a := eW E y t o q b c bc n ar fi re) (b := eW E2 y T.1 T.2.1 T.2.2.1 T.2.2.2.1 T.2.2.2.2.1 T.2.2.2.2.2.1 T.2.2.2.2.2.2.1 T.2.2.2.2.2.2.2.1 T.2.2.2.2.2.2.2.2.1 T.2.2.2.2.2.2.2.2.2) (b1 := eW E2 y ((copyT (t, o, q, b, c, bc, n, ar, fi, re) T).1) ((copyT (t, o, q, b, c, bc, n, ar, fi, re) T).2.1) ((copyT (t, o, q, b, c, bc, n, ar, fi, re) T).2.2.1) ((copyT (t, o, q, b, c, bc, n, ar, fi, re) T).2.2.2.1) ((copyT (t, o, q, b, c, bc, n, ar, fi, re) T).2.2.2.2.1) ((copyT (t, o, q, b, c, bc, n, ar, fi, re) T).2.2.2.2.2.1) ((copyT (t, o, q, b, c, bc, n, ar, fi, re) T).2.2.2.2.2.2.1) ((copyT (t, o, q, b, c, bc, n, ar, fi, re) T).2.2.2.2.2.2.2.1) ((copyT (t, o, q, b, c, bc, n, ar, fi, re) T).2.2.2.2.2.2.2.2.1) ((copyT (t, o, q, b, c, bc, n, ar, fi, re) T).2.2.2.2.2.2.2.2.2)) hP hD rfl rfl rfl hP1 hfr
  have hTc : (copyT (t, o, q, b, c, bc, n, ar, fi, re) T).2.2.2.2.1 = c := rfl
  have hTb : (copyT (t, o, q, b, c, bc, n, ar, fi, re) T).2.2.2.2.2.1 = bc := rfl
  have hTn : (copyT (t, o, q, b, c, bc, n, ar, fi, re) T).2.2.2.2.2.2.1 = n := rfl
  have hoT : ∀ i, i < (copyT (t, o, q, b, c, bc, n, ar, fi, re) T).2.2.2.2.1 → (copyT (t, o, q, b, c, bc, n, ar, fi, re) T).2.1 i < (copyT (t, o, q, b, c, bc, n, ar, fi, re) T).2.2.2.2.1 := hoTof hc ho
  refine lv_aload_n hx hb dX3_eelsWithStakes_11 rfl (lv_at hl 0 rfl) ?_
  refine va_get (D := D) (ci := 3) (v := .ref (E2 0)) (C := RX3) (T := TX3) (N := 2) hx hb hts hinX3 hown hK hP (0) rfl rfl 1 (by decide) hf16 (fun _ h9 => h9) rfl dX3_eelsWithStakes_12 ?_
  refine lv_iload_n hx hb dX3_eelsWithStakes_15 rfl (lv_at hl 1 rfl) ?_
  refine zcRV (As := [.int (nI k)]) (rest := []) (st1 := [.ref (E2 (5 + k))]) ⟨hx, hb, hml, hown, hts⟩ (c_X1_weirAt l D y E2 ((copyT (t, o, q, b, c, bc, n, ar, fi, re) T).1) ((copyT (t, o, q, b, c, bc, n, ar, fi, re) T).2.1) ((copyT (t, o, q, b, c, bc, n, ar, fi, re) T).2.2.1) ((copyT (t, o, q, b, c, bc, n, ar, fi, re) T).2.2.2.1) ((copyT (t, o, q, b, c, bc, n, ar, fi, re) T).2.2.2.2.1) ((copyT (t, o, q, b, c, bc, n, ar, fi, re) T).2.2.2.2.2.1) ((copyT (t, o, q, b, c, bc, n, ar, fi, re) T).2.2.2.2.2.2.1) ((copyT (t, o, q, b, c, bc, n, ar, fi, re) T).2.2.2.2.2.2.2.1) ((copyT (t, o, q, b, c, bc, n, ar, fi, re) T).2.2.2.2.2.2.2.2.1) ((copyT (t, o, q, b, c, bc, n, ar, fi, re) T).2.2.2.2.2.2.2.2.2) k (by omega) (by omega)) (cwV 1 hts gX3_eelsWithStakes_X1_weirAt rfl rfl rfl (by decide +kernel) ⟨Nat.le_of_ble_eq_true rfl, Nat.le_of_ble_eq_true rfl⟩) hK (z_sub_P hP (fun z h => List.mem_append_right _ (List.mem_append_right _ h))) (ci := 1) (q0 := 0) rfl rfl rfl rfl hl.1 rfl (lv_room (Nat.le_of_ble_eq_true rfl)) dX3_eelsWithStakes_16 ⟨Nat.le_of_ble_eq_true rfl, Nat.le_of_ble_eq_true rfl⟩ rfl ?_
  refine lv_astore (lv' := [(4, .ref (E2 (5 + k))), (0, .ref X0), (1, .int (nI k)), (2, .int x), (3, .int (nI mm))]) hx hb dX3_eelsWithStakes_19 hl (by decide) rfl (fun ls hl => ?_)
  refine lv_aload hx hb dX3_eelsWithStakes_21 (lv_at hl 0 rfl) ?_
  refine lv_ifnonnull (tgt := 28) hx hb dX3_eelsWithStakes_23 (by decide) ?_
  refine lv_aload hx hb dX3_eelsWithStakes_28 (lv_at hl 0 rfl) ?_
  refine lv_iload_n hx hb dX3_eelsWithStakes_30 rfl (lv_at hl 3 rfl) ?_
  refine va_put (D := D) (ci := 2) (v := .int x) (ty := .int) (C := RX2) (T := TX2) (N := 8) hx hb hts hinX2 tyX2 tyX2_ok nmX2 hown hK hP hD hS (1 + (16 + (5 + k))) (z_apr (n := 1) rfl (z_apr (n := 16) rfl (eW_w (by omega)))) rfl 1 (by decide) hf76 (fun _ h9 => h9) rfl (by decide +kernel) rfl rfl (Nat.le_of_ble_eq_true rfl) dX3_eelsWithStakes_31 (fun H locs hP hD hS => ?_)
  have hP : va_P D vwCl (sW X0 E E2 y t o q b c bc n ar fi re (stakeT (copyT (t, o, q, b, c, bc, n, ar, fi, re) T) k x)) H := by unfold stakeT; rw [← sW_putT (by omega), ← qF_1]; exact hP
  have hD : va_D A (sW X0 E E2 y t o q b c bc n ar fi re (stakeT (copyT (t, o, q, b, c, bc, n, ar, fi, re) T) k x))  := by unfold stakeT; rw [← sW_putT (by omega), ← qF_1]; exact hD
  have hSc : (stakeT (copyT (t, o, q, b, c, bc, n, ar, fi, re) T) k x).2.2.2.2.1 = c := rfl
  have hSb : (stakeT (copyT (t, o, q, b, c, bc, n, ar, fi, re) T) k x).2.2.2.2.2.1 = bc := rfl
  have hSn : (stakeT (copyT (t, o, q, b, c, bc, n, ar, fi, re) T) k x).2.2.2.2.2.2.1 = n := rfl
  have hoT : ∀ i, i < (stakeT (copyT (t, o, q, b, c, bc, n, ar, fi, re) T) k x).2.2.2.2.1 → (stakeT (copyT (t, o, q, b, c, bc, n, ar, fi, re) T) k x).2.1 i < (stakeT (copyT (t, o, q, b, c, bc, n, ar, fi, re) T) k x).2.2.2.2.1 := hoT
  refine lv_aload_n hx hb dX3_eelsWithStakes_34 rfl (lv_at hl 1 rfl) ?_
  refine va_get (D := D) (ci := 3) (v := .ref (E2 0)) (C := RX3) (T := TX3) (N := 2) hx hb hts hinX3 hown hK hP (0) rfl rfl 1 (by decide) hf16 (fun _ h9 => h9) rfl dX3_eelsWithStakes_35 ?_
  refine lv_iload_n hx hb dX3_eelsWithStakes_38 rfl (lv_at hl 4 rfl) ?_
  refine zcMV (As := [.int (nI mm)]) (rest := []) (st1 := []) (cells1 := 0) (slots1 := 0) ⟨hx, hb, hml, hown, hts⟩ (c_X1_goThroughNights l D y E2 ((stakeT (copyT (t, o, q, b, c, bc, n, ar, fi, re) T) k x).1) ((stakeT (copyT (t, o, q, b, c, bc, n, ar, fi, re) T) k x).2.1) ((stakeT (copyT (t, o, q, b, c, bc, n, ar, fi, re) T) k x).2.2.1) ((stakeT (copyT (t, o, q, b, c, bc, n, ar, fi, re) T) k x).2.2.2.1) ((stakeT (copyT (t, o, q, b, c, bc, n, ar, fi, re) T) k x).2.2.2.2.1) ((stakeT (copyT (t, o, q, b, c, bc, n, ar, fi, re) T) k x).2.2.2.2.2.1) ((stakeT (copyT (t, o, q, b, c, bc, n, ar, fi, re) T) k x).2.2.2.2.2.2.1) ((stakeT (copyT (t, o, q, b, c, bc, n, ar, fi, re) T) k x).2.2.2.2.2.2.2.1) ((stakeT (copyT (t, o, q, b, c, bc, n, ar, fi, re) T) k x).2.2.2.2.2.2.2.2.1) ((stakeT (copyT (t, o, q, b, c, bc, n, ar, fi, re) T) k x).2.2.2.2.2.2.2.2.2) mm (by omega) (by omega) (by omega) hoT _) (cwV 1 hts gX3_eelsWithStakes_X1_goThroughNights rfl rfl rfl (by decide +kernel) ⟨Nat.le_of_ble_eq_true rfl, Nat.le_of_ble_eq_true rfl⟩) hK (z_sub_P hP (fun z h => List.mem_append_right _ (List.mem_append_right _ h))) (z_D_e (l1 := [(X0, .inr (3, [.ref (E 0), .ref (E2 0)]))]) (l2 := eW E y t o q b c bc n ar fi re) hD) (ci := 1) (q0 := 0) rfl rfl rfl rfl hl.1 rfl (lv_room (Nat.le_of_ble_eq_true rfl)) dX3_eelsWithStakes_39 hS (z_sub_F hD hS hA (fun z h => List.mem_append_right _ (List.mem_append_right _ h))) ⟨Nat.le_of_ble_eq_true rfl, Nat.le_of_ble_eq_true rfl⟩ rfl rfl rfl (fun H locs hP1 hz hfr hS => ?_)
  obtain ⟨hP, hD⟩ := z_segE (ws1 := sW X0 E E2 y t o q b c bc n ar fi re (nightsT mm (stakeT (copyT (t, o, q, b, c, bc, n, ar, fi, re) T) k x))) (l1 := [(X0, .inr (3, [.ref (E 0), .ref (E2 0)]))]) (l2 := eW E y t o q b c bc n ar fi re) (w := eW E2 y ((stakeT (copyT (t, o, q, b, c, bc, n, ar, fi, re) T) k x).1) ((stakeT (copyT (t, o, q, b, c, bc, n, ar, fi, re) T) k x).2.1) ((stakeT (copyT (t, o, q, b, c, bc, n, ar, fi, re) T) k x).2.2.1) ((stakeT (copyT (t, o, q, b, c, bc, n, ar, fi, re) T) k x).2.2.2.1) ((stakeT (copyT (t, o, q, b, c, bc, n, ar, fi, re) T) k x).2.2.2.2.1) ((stakeT (copyT (t, o, q, b, c, bc, n, ar, fi, re) T) k x).2.2.2.2.2.1) ((stakeT (copyT (t, o, q, b, c, bc, n, ar, fi, re) T) k x).2.2.2.2.2.2.1) ((stakeT (copyT (t, o, q, b, c, bc, n, ar, fi, re) T) k x).2.2.2.2.2.2.2.1) ((stakeT (copyT (t, o, q, b, c, bc, n, ar, fi, re) T) k x).2.2.2.2.2.2.2.2.1) ((stakeT (copyT (t, o, q, b, c, bc, n, ar, fi, re) T) k x).2.2.2.2.2.2.2.2.2)) (w1 := eW E2 y ((nightsT mm (stakeT (copyT (t, o, q, b, c, bc, n, ar, fi, re) T) k x)).1) ((nightsT mm (stakeT (copyT (t, o, q, b, c, bc, n, ar, fi, re) T) k x)).2.1) ((nightsT mm (stakeT (copyT (t, o, q, b, c, bc, n, ar, fi, re) T) k x)).2.2.1) ((nightsT mm (stakeT (copyT (t, o, q, b, c, bc, n, ar, fi, re) T) k x)).2.2.2.1) ((nightsT mm (stakeT (copyT (t, o, q, b, c, bc, n, ar, fi, re) T) k x)).2.2.2.2.1) ((nightsT mm (stakeT (copyT (t, o, q, b, c, bc, n, ar, fi, re) T) k x)).2.2.2.2.2.1) ((nightsT mm (stakeT (copyT (t, o, q, b, c, bc, n, ar, fi, re) T) k x)).2.2.2.2.2.2.1) ((nightsT mm (stakeT (copyT (t, o, q, b, c, bc, n, ar, fi, re) T) k x)).2.2.2.2.2.2.2.1) ((nightsT mm (stakeT (copyT (t, o, q, b, c, bc, n, ar, fi, re) T) k x)).2.2.2.2.2.2.2.2.1) ((nightsT mm (stakeT (copyT (t, o, q, b, c, bc, n, ar, fi, re) T) k x)).2.2.2.2.2.2.2.2.2)) hP hD rfl rfl rfl hP1 hfr
  refine lv_aload hx hb dX3_eelsWithStakes_42 (lv_at hl 0 rfl) ?_
  refine va_get (D := D) (ci := 2) (v := .int ((((nightsT mm (stakeT (copyT (t, o, q, b, c, bc, n, ar, fi, re) T) k x)).2.2.1) 5 k))) (C := RX2) (T := TX2) (N := 8) hx hb hts hinX2 hown hK hP (1 + (16 + (5 + k))) (z_apr (n := 1) rfl (z_apr (n := 16) rfl (eW_w (by omega)))) rfl 5 (by decide) hf81 (fun _ h9 => h9) rfl dX3_eelsWithStakes_44 ?_
  exact zM_i hx hb hr hlocks hS dX3_eelsWithStakes_47 rfl hP
set_option maxHeartbeats 4000000 in
set_option maxRecDepth 100000 in
theorem c_X3_advise_no (l : Launch) (D : va_G) (y : Nat → ClassId) (X0 : Nat) (E E2 : Nat → Nat) (t : Nat → Int32) (o : Nat → Nat) (q b : Fld) (c bc n : Nat) (ar fi re : Int32) (T : TS) (k : Nat) (hk : k < c) (mm : Nat) (hw : inB 1 (nI mm) 20 = true) (hf : fishB q k = false) (hc : c ≤ 6) : zR l yX3_advise wsX3_advise { frames := 1, cells := 0, slots := 0, locals := 22 } D y [.ref X0, .int (nI k), .int (nI mm)] (sW X0 E E2 y t o q b c bc n ar fi re T) (some (.int 1)) := by
  refine zR.of (cc := cX3_advise) (maxL := 8) (ret := (some .int)) (own := RX3) (by decide) rfl (Nat.le_of_ble_eq_true rfl) rfl ?_
  intro p e s m args below meth cd ls hx hb hr hml hown hts hlocks hP hK hl
  have hl : lv_has ls 8 [(0, .ref X0), (1, .int (nI k)), (2, .int (nI mm))] := hl
  have hf12 : (Cond.fieldLink RX3 12 "StakeWeirs" "now" "LStakeWeirs$Estuary;").before args s = true := hts _ (by decide +kernel)
  have hinX3 : ∀ w ∈ wsX30, w ∈ wsX3_advise := by decide +kernel
  refine lv_aload_n hx hb dX3_advise_0 rfl (lv_at hl 0 rfl) ?_
  refine va_get (D := D) (ci := 3) (v := .ref (E 0)) (C := RX3) (T := TX3) (N := 2) hx hb hts hinX3 hown hK hP (0) rfl rfl 0 (by decide) hf12 (fun _ h9 => h9) rfl dX3_advise_1 ?_
  refine lv_iload_n hx hb dX3_advise_4 rfl (lv_at hl 1 rfl) ?_
  refine zcRV (As := [.int (nI k)]) (rest := []) (st1 := [.ref (E (5 + k))]) ⟨hx, hb, hml, hown, hts⟩ (c_X1_weirAt l D y E t o q b c bc n ar fi re k (by omega) (by omega)) (cwV 1 hts gX3_advise_X1_weirAt rfl rfl rfl (by decide +kernel) ⟨Nat.le_of_ble_eq_true rfl, Nat.le_of_ble_eq_true rfl⟩) hK (z_sub_P hP (fun z h => List.mem_append_right _ (List.mem_append_left _ h))) (ci := 1) (q0 := 0) rfl rfl rfl rfl hl.1 rfl (lv_room (Nat.le_of_ble_eq_true rfl)) dX3_advise_5 ⟨Nat.le_of_ble_eq_true rfl, Nat.le_of_ble_eq_true rfl⟩ rfl ?_
  refine lv_astore_n (lv' := [(3, .ref (E (5 + k))), (0, .ref X0), (1, .int (nI k)), (2, .int (nI mm))]) hx hb dX3_advise_8 rfl hl (by decide) rfl (fun ls hl => ?_)
  refine lv_aload_n hx hb dX3_advise_9 rfl (lv_at hl 0 rfl) ?_
  refine lv_ifnonnull (tgt := 23) hx hb dX3_advise_10 (by decide) ?_
  refine lv_iload_n hx hb dX3_advise_23 rfl (lv_at hl 3 rfl) ?_
  refine lv_iconst (v := 1) hx hb dX3_advise_24 (by decide) ?_
  refine lv_bipush (v := 20) hx hb dX3_advise_25 (by decide) ?_
  refine zcRS (As := [.int (nI mm), .int 1, .int 20]) (rest := []) (st1 := [.int (zb (inB 1 (nI mm) 20))]) ⟨hx, hb, hml, hown, hts⟩ (c_X3_isWithin l D y (nI mm) 1 20) (cwS 3 hts gX3_advise_X3_isWithin rfl rfl rfl (by decide +kernel) ⟨Nat.le_of_ble_eq_true rfl, Nat.le_of_ble_eq_true rfl⟩) hK va_P_nil rfl hl.1 rfl (lv_room (Nat.le_of_ble_eq_true rfl)) dX3_advise_27 ⟨Nat.le_of_ble_eq_true rfl, Nat.le_of_ble_eq_true rfl⟩ rfl ?_
  refine lv_if_ne (tgt := 43) hx hb dX3_advise_30 (by decide) (fun c1 => ?_) (fun c1 => ?_)
  · have c1 := c1
    refine lv_aload_n hx hb dX3_advise_43 rfl (lv_at hl 0 rfl) ?_
    refine zcRV (As := []) (rest := []) (st1 := [.int (zb (fishB q k))]) ⟨hx, hb, hml, hown, hts⟩ (c_X2_isFishing l D y (E (5 + k)) q k) (cwV 0 hts gX3_advise_X2_isFishing rfl rfl rfl (by decide +kernel) ⟨Nat.le_of_ble_eq_true rfl, Nat.le_of_ble_eq_true rfl⟩) hK (z_sub_P hP (z_in_1 (k := 1 + (5 + k)) (z_apr (n := 1) rfl (z_apl (eW_w (by omega)))))) (ci := 2) (q0 := 0) rfl rfl rfl rfl hl.1 rfl (lv_room (Nat.le_of_ble_eq_true rfl)) dX3_advise_44 ⟨Nat.le_of_ble_eq_true rfl, Nat.le_of_ble_eq_true rfl⟩ rfl ?_
    refine lv_if_ne (tgt := 52) hx hb dX3_advise_47 (by decide) (fun c2 => ?_) (fun c2 => ?_)
    · exact absurd (zb_t c2) (by rw [hf]; decide)
    · have c2 := c2
      refine lv_iconst (v := 1) hx hb dX3_advise_50 (by decide) ?_
      exact zR_i hx hb hr hlocks dX3_advise_51 rfl
  · exact absurd (zb_f c1) (by rw [hw]; decide)
set_option maxHeartbeats 4000000 in
set_option maxRecDepth 100000 in
theorem c_X3_advise (l : Launch) (D : va_G) (y : Nat → ClassId) (X0 : Nat) (E E2 : Nat → Nat) (t : Nat → Int32) (o : Nat → Nat) (q b : Fld) (c bc n : Nat) (ar fi re : Int32) (T : TS) (k : Nat) (hk : k < c) (mm : Nat) (hw : inB 1 (nI mm) 20 = true) (hf : fishB q k = true) (hn : n + mm < 2147483648) (hc : c ≤ 6) (hbc : bc ≤ 5) (ho : ∀ i, i < c → o i < c) (h01 : ∀ i, i < c → q 6 i = 0 ∨ q 6 i = 1)  (sz : Nat) : zM l yX3_advise wsX3_advise { frames := 6, cells := 0, slots := 0, locals := 135 } D y [.ref X0, .int (nI k), .int (nI mm)] (sW X0 E E2 y t o q b c bc n ar fi re T) sz (some (.int (advE (t, o, q, b, c, bc, n, ar, fi, re) T k mm 30).1)) (sW X0 E E2 y t o q b c bc n ar fi re ((advE (t, o, q, b, c, bc, n, ar, fi, re) T k mm 30).2.2)) 0 0 := by
  refine zM.ofH (cc := cX3_advise) (maxL := 8) (ret := (some .int)) (own := RX3) (by decide) rfl (Nat.le_of_ble_eq_true rfl) rfl ?_
  intro p e s m args below meth cd ls A H locs hx hb hr hml hown hts hlocks hP hK hD hA hS hl hin
  have hS0 := hS
  have hl : lv_has ls 8 [(0, .ref X0), (1, .int (nI k)), (2, .int (nI mm))] := hl
  have hf12 : (Cond.fieldLink RX3 12 "StakeWeirs" "now" "LStakeWeirs$Estuary;").before args s = true := hts _ (by decide +kernel)
  have hinX3 : ∀ w ∈ wsX30, w ∈ wsX3_advise := by decide +kernel
  refine lv_aload_n hx hb dX3_advise_0 rfl (lv_at hl 0 rfl) ?_
  refine va_get (D := D) (ci := 3) (v := .ref (E 0)) (C := RX3) (T := TX3) (N := 2) hx hb hts hinX3 hown hK hP (0) rfl rfl 0 (by decide) hf12 (fun _ h9 => h9) rfl dX3_advise_1 ?_
  refine lv_iload_n hx hb dX3_advise_4 rfl (lv_at hl 1 rfl) ?_
  refine zcRV (As := [.int (nI k)]) (rest := []) (st1 := [.ref (E (5 + k))]) ⟨hx, hb, hml, hown, hts⟩ (c_X1_weirAt l D y E t o q b c bc n ar fi re k (by omega) (by omega)) (cwV 1 hts gX3_advise_X1_weirAt rfl rfl rfl (by decide +kernel) ⟨Nat.le_of_ble_eq_true rfl, Nat.le_of_ble_eq_true rfl⟩) hK (z_sub_P hP (fun z h => List.mem_append_right _ (List.mem_append_left _ h))) (ci := 1) (q0 := 0) rfl rfl rfl rfl hl.1 rfl (lv_room (Nat.le_of_ble_eq_true rfl)) dX3_advise_5 ⟨Nat.le_of_ble_eq_true rfl, Nat.le_of_ble_eq_true rfl⟩ rfl ?_
  refine lv_astore_n (lv' := [(3, .ref (E (5 + k))), (0, .ref X0), (1, .int (nI k)), (2, .int (nI mm))]) hx hb dX3_advise_8 rfl hl (by decide) rfl (fun ls hl => ?_)
  refine lv_aload_n hx hb dX3_advise_9 rfl (lv_at hl 0 rfl) ?_
  refine lv_ifnonnull (tgt := 23) hx hb dX3_advise_10 (by decide) ?_
  refine lv_iload_n hx hb dX3_advise_23 rfl (lv_at hl 3 rfl) ?_
  refine lv_iconst (v := 1) hx hb dX3_advise_24 (by decide) ?_
  refine lv_bipush (v := 20) hx hb dX3_advise_25 (by decide) ?_
  refine zcRS (As := [.int (nI mm), .int 1, .int 20]) (rest := []) (st1 := [.int (zb (inB 1 (nI mm) 20))]) ⟨hx, hb, hml, hown, hts⟩ (c_X3_isWithin l D y (nI mm) 1 20) (cwS 3 hts gX3_advise_X3_isWithin rfl rfl rfl (by decide +kernel) ⟨Nat.le_of_ble_eq_true rfl, Nat.le_of_ble_eq_true rfl⟩) hK va_P_nil rfl hl.1 rfl (lv_room (Nat.le_of_ble_eq_true rfl)) dX3_advise_27 ⟨Nat.le_of_ble_eq_true rfl, Nat.le_of_ble_eq_true rfl⟩ rfl ?_
  refine lv_if_ne (tgt := 43) hx hb dX3_advise_30 (by decide) (fun c1 => ?_) (fun c1 => ?_)
  · have c1 := c1
    refine lv_aload_n hx hb dX3_advise_43 rfl (lv_at hl 0 rfl) ?_
    refine zcRV (As := []) (rest := []) (st1 := [.int (zb (fishB q k))]) ⟨hx, hb, hml, hown, hts⟩ (c_X2_isFishing l D y (E (5 + k)) q k) (cwV 0 hts gX3_advise_X2_isFishing rfl rfl rfl (by decide +kernel) ⟨Nat.le_of_ble_eq_true rfl, Nat.le_of_ble_eq_true rfl⟩) hK (z_sub_P hP (z_in_1 (k := 1 + (5 + k)) (z_apr (n := 1) rfl (z_apl (eW_w (by omega)))))) (ci := 2) (q0 := 0) rfl rfl rfl rfl hl.1 rfl (lv_room (Nat.le_of_ble_eq_true rfl)) dX3_advise_44 ⟨Nat.le_of_ble_eq_true rfl, Nat.le_of_ble_eq_true rfl⟩ rfl ?_
    refine lv_if_ne (tgt := 52) hx hb dX3_advise_47 (by decide) (fun c2 => ?_) (fun c2 => ?_)
    · have c2 := c2
      refine lv_iconst (v := 1) hx hb dX3_advise_52 (by decide) ?_
      refine lv_istore (lv' := [(4, .int 1), (3, .ref (E (5 + k))), (0, .ref X0), (1, .int (nI k)), (2, .int (nI mm))]) hx hb dX3_advise_53 hl (by decide) rfl (fun ls hl => ?_)
      refine lv_iconst (v := (-1)) hx hb dX3_advise_55 (by decide) ?_
      refine lv_istore (lv' := [(5, .int (-1)), (4, .int 1), (3, .ref (E (5 + k))), (0, .ref X0), (1, .int (nI k)), (2, .int (nI mm))]) hx hb dX3_advise_56 hl (by decide) rfl (fun ls hl => ?_)
      refine lv_iconst (v := 1) hx hb dX3_advise_58 (by decide) ?_
      refine lv_istore (lv' := [(6, .int 1), (5, .int (-1)), (4, .int 1), (3, .ref (E (5 + k))), (0, .ref X0), (1, .int (nI k)), (2, .int (nI mm))]) hx hb dX3_advise_59 hl (by decide) rfl (fun ls hl => ?_)
      have loop3 : ∀ i, i ≤ 30 → ∀ (H : Heap) (locs : List Loc) (ls : Array Slot), va_P D vwCl (sW X0 E E2 y t o q b c bc n ar fi re ((advE (t, o, q, b, c, bc, n, ar, fi, re) T k mm i).2.2)) H → va_D A (sW X0 E E2 y t o q b c bc n ar fi re ((advE (t, o, q, b, c, bc, n, ar, fi, re) T k mm i).2.2)) → va_S A s.heap H locs → lv_has ls 8 [(6, .int (nI (i + 1))), (5, .int ((advE (t, o, q, b, c, bc, n, ar, fi, re) T k mm i).2.1)), (4, .int ((advE (t, o, q, b, c, bc, n, ar, fi, re) T k mm i).1)), (0, .ref X0), (1, .int (nI k)), (2, .int (nI mm))] → W p l e ({ frames := 6, cells := 0, slots := 0, locals := 135 } : Room) s m args below meth cd H locs 0 0 (MQ below (zMQ (some (.int (advE (t, o, q, b, c, bc, n, ar, fi, re) T k mm 30).1)) D (sW X0 E E2 y t o q b c bc n ar fi re ((advE (t, o, q, b, c, bc, n, ar, fi, re) T k mm 30).2.2)) A) args s 0 0 A) (F0 m 61 ls []) := by
        refine down ?_ ?_
        · intro H locs ls hP hD hS hl
          refine lv_iload hx hb dX3_advise_61 (lv_at hl 0 rfl) ?_
          refine lv_bipush (v := 30) hx hb dX3_advise_63 (by decide) ?_
          refine lv_icmp_gt (tgt := 99) hx hb dX3_advise_65 (by decide) (fun c4 => ?_) (fun c4 => ?_)
          · have d4 := Int32.not_le.mpr c4
            refine lv_iload hx hb dX3_advise_99 (lv_at hl 2 rfl) ?_
            exact zM_i hx hb hr hlocks hS dX3_advise_101 rfl hP
          · exact absurd (nI_lt (a := 30) (b := 31) (by decide) (by decide)) c4
        · intro i hki ihi H locs ls hP hD hS hl
          refine lv_iload hx hb dX3_advise_61 (lv_at hl 0 rfl) ?_
          refine lv_bipush (v := 30) hx hb dX3_advise_63 (by decide) ?_
          refine lv_icmp_gt (tgt := 99) hx hb dX3_advise_65 (by decide) (fun c5 => ?_) (fun c5 => ?_)
          · exact absurd c5 (nI_nlt (a := 30) (b := (i + 1)) (by omega) (by omega))
          · have d5 := Int32.not_lt.mp c5
            refine lv_aload_n hx hb dX3_advise_68 rfl (lv_at hl 3 rfl) ?_
            refine lv_iload_n hx hb dX3_advise_69 rfl (lv_at hl 4 rfl) ?_
            refine lv_iload hx hb dX3_advise_70 (lv_at hl 0 rfl) ?_
            refine lv_iload_n hx hb dX3_advise_72 rfl (lv_at hl 5 rfl) ?_
            refine zcMV (As := [.int (nI k), .int (nI (i + 1)), .int (nI mm)]) (rest := []) (st1 := [.int (((eelsT (t, o, q, b, c, bc, n, ar, fi, re) ((advE (t, o, q, b, c, bc, n, ar, fi, re) T k mm i).2.2) k mm (nI (i + 1))).2.2.1 5 k))]) (cells1 := 0) (slots1 := 0) ⟨hx, hb, hml, hown, hts⟩ (c_X3_eelsWithStakes l D y X0 E E2 t o q b c bc n ar fi re ((advE (t, o, q, b, c, bc, n, ar, fi, re) T k mm i).2.2) k (by omega) (nI (i + 1)) mm (by omega) (by omega) (by omega) ho h01 _) (cwV 3 hts gX3_advise_X3_eelsWithStakes rfl rfl rfl (by decide +kernel) ⟨Nat.le_of_ble_eq_true rfl, Nat.le_of_ble_eq_true rfl⟩) hK hP (z_D_T hD) (ci := 3) (q0 := 0) rfl rfl rfl rfl hl.1 rfl (lv_room (Nat.le_of_ble_eq_true rfl)) dX3_advise_73 hS (z_sub_F hD hS hA z_in_r) ⟨Nat.le_of_ble_eq_true rfl, Nat.le_of_ble_eq_true rfl⟩ rfl rfl rfl (fun H locs hP1 hz hfr hS => ?_)
            have hP := hP1
            have hD := z_D_adr hD (show (sW X0 E E2 y t o q b c bc n ar fi re (eelsT (t, o, q, b, c, bc, n, ar, fi, re) ((advE (t, o, q, b, c, bc, n, ar, fi, re) T k mm i).2.2) k mm (nI (i + 1)))).map Prod.fst = _ from rfl)
            refine lv_istore (lv' := [(7, .int (((eelsT (t, o, q, b, c, bc, n, ar, fi, re) ((advE (t, o, q, b, c, bc, n, ar, fi, re) T k mm i).2.2) k mm (nI (i + 1))).2.2.1 5 k))), (6, .int (nI (i + 1))), (5, .int ((advE (t, o, q, b, c, bc, n, ar, fi, re) T k mm i).2.1)), (4, .int ((advE (t, o, q, b, c, bc, n, ar, fi, re) T k mm i).1)), (0, .ref X0), (1, .int (nI k)), (2, .int (nI mm))]) hx hb dX3_advise_76 hl (by decide) rfl (fun ls hl => ?_)
            refine lv_iload hx hb dX3_advise_78 (lv_at hl 0 rfl) ?_
            refine lv_iload hx hb dX3_advise_80 (lv_at hl 2 rfl) ?_
            refine lv_icmp_le (tgt := 93) hx hb dX3_advise_82 (by decide) (fun c6 => ?_) (fun c6 => ?_)
            · have d6 := Int32.not_lt.mpr c6
              refine lv_iinc (v := nI ((i + 1) + 1)) (lv' := [(6, .int (nI ((i + 1) + 1))), (7, .int (((eelsT (t, o, q, b, c, bc, n, ar, fi, re) ((advE (t, o, q, b, c, bc, n, ar, fi, re) T k mm i).2.2) k mm (nI (i + 1))).2.2.1 5 k))), (5, .int ((advE (t, o, q, b, c, bc, n, ar, fi, re) T k mm i).2.1)), (4, .int ((advE (t, o, q, b, c, bc, n, ar, fi, re) T k mm i).1)), (0, .ref X0), (1, .int (nI k)), (2, .int (nI mm))]) hx hb dX3_advise_93 hl (k := 1) rfl (nI_1 _) (by decide) rfl (fun ls hl => ?_)
              refine lv_goto (tgt := 61) hx hb dX3_advise_96 (by decide) ?_
              have e7 : (advE (t, o, q, b, c, bc, n, ar, fi, re) T k mm (i + 1)).2.1 = (advE (t, o, q, b, c, bc, n, ar, fi, re) T k mm i).2.1 := by simp [advE_s, advS, c6, d6]
              have e8 : (advE (t, o, q, b, c, bc, n, ar, fi, re) T k mm (i + 1)).1 = (advE (t, o, q, b, c, bc, n, ar, fi, re) T k mm i).1 := by simp [advE_s, advS, c6, d6]
              have e9 : (advE (t, o, q, b, c, bc, n, ar, fi, re) T k mm (i + 1)).2.2 = (eelsT (t, o, q, b, c, bc, n, ar, fi, re) ((advE (t, o, q, b, c, bc, n, ar, fi, re) T k mm i).2.2) k mm (nI (i + 1))) := by simp [advE_s, advS, c6, d6]
              refine ihi H locs ls ?_ ?_ hS ?_
              · first | exact hP | (simp only [e7, e8, e9]; exact hP)
              · first | exact hD | (simp only [e7, e8, e9]; exact hD)
              · first | exact lv_sub hl [0, 2, 3, 4, 5, 6] rfl | (simp only [e7, e8, e9]; exact lv_sub hl [0, 2, 3, 4, 5, 6] rfl)
            · have d6 := Int32.not_le.mp c6
              refine lv_iload hx hb dX3_advise_85 (lv_at hl 0 rfl) ?_
              refine lv_istore (lv' := [(5, .int (((eelsT (t, o, q, b, c, bc, n, ar, fi, re) ((advE (t, o, q, b, c, bc, n, ar, fi, re) T k mm i).2.2) k mm (nI (i + 1))).2.2.1 5 k))), (7, .int (((eelsT (t, o, q, b, c, bc, n, ar, fi, re) ((advE (t, o, q, b, c, bc, n, ar, fi, re) T k mm i).2.2) k mm (nI (i + 1))).2.2.1 5 k))), (6, .int (nI (i + 1))), (4, .int ((advE (t, o, q, b, c, bc, n, ar, fi, re) T k mm i).1)), (0, .ref X0), (1, .int (nI k)), (2, .int (nI mm))]) hx hb dX3_advise_87 hl (by decide) rfl (fun ls hl => ?_)
              refine lv_iload hx hb dX3_advise_89 (lv_at hl 2 rfl) ?_
              refine lv_istore (lv' := [(4, .int (nI (i + 1))), (5, .int (((eelsT (t, o, q, b, c, bc, n, ar, fi, re) ((advE (t, o, q, b, c, bc, n, ar, fi, re) T k mm i).2.2) k mm (nI (i + 1))).2.2.1 5 k))), (7, .int (((eelsT (t, o, q, b, c, bc, n, ar, fi, re) ((advE (t, o, q, b, c, bc, n, ar, fi, re) T k mm i).2.2) k mm (nI (i + 1))).2.2.1 5 k))), (6, .int (nI (i + 1))), (0, .ref X0), (1, .int (nI k)), (2, .int (nI mm))]) hx hb dX3_advise_91 hl (by decide) rfl (fun ls hl => ?_)
              refine lv_iinc (v := nI ((i + 1) + 1)) (lv' := [(6, .int (nI ((i + 1) + 1))), (4, .int (nI (i + 1))), (5, .int (((eelsT (t, o, q, b, c, bc, n, ar, fi, re) ((advE (t, o, q, b, c, bc, n, ar, fi, re) T k mm i).2.2) k mm (nI (i + 1))).2.2.1 5 k))), (7, .int (((eelsT (t, o, q, b, c, bc, n, ar, fi, re) ((advE (t, o, q, b, c, bc, n, ar, fi, re) T k mm i).2.2) k mm (nI (i + 1))).2.2.1 5 k))), (0, .ref X0), (1, .int (nI k)), (2, .int (nI mm))]) hx hb dX3_advise_93 hl (k := 3) rfl (nI_1 _) (by decide) rfl (fun ls hl => ?_)
              refine lv_goto (tgt := 61) hx hb dX3_advise_96 (by decide) ?_
              have e10 : (advE (t, o, q, b, c, bc, n, ar, fi, re) T k mm (i + 1)).2.1 = ((eelsT (t, o, q, b, c, bc, n, ar, fi, re) ((advE (t, o, q, b, c, bc, n, ar, fi, re) T k mm i).2.2) k mm (nI (i + 1))).2.2.1 5 k) := by simp [advE_s, advS, c6, d6]
              have e11 : (advE (t, o, q, b, c, bc, n, ar, fi, re) T k mm (i + 1)).1 = nI (i + 1) := by simp [advE_s, advS, c6, d6]
              have e12 : (advE (t, o, q, b, c, bc, n, ar, fi, re) T k mm (i + 1)).2.2 = (eelsT (t, o, q, b, c, bc, n, ar, fi, re) ((advE (t, o, q, b, c, bc, n, ar, fi, re) T k mm i).2.2) k mm (nI (i + 1))) := by simp [advE_s, advS, c6, d6]
              refine ihi H locs ls ?_ ?_ hS ?_
              · first | exact hP | (simp only [e10, e11, e12]; exact hP)
              · first | exact hD | (simp only [e10, e11, e12]; exact hD)
              · first | exact lv_sub hl [0, 2, 1, 4, 5, 6] rfl | (simp only [e10, e11, e12]; exact lv_sub hl [0, 2, 1, 4, 5, 6] rfl)
      exact loop3 0 (Nat.zero_le _) H locs ls hP hD hS (lv_sub hl [0, 1, 2, 4, 5, 6] rfl)
    · exact absurd (zb_f c2) (by rw [hf]; decide)
  · exact absurd (zb_f c1) (by rw [hw]; decide)
set_option maxHeartbeats 4000000 in
set_option maxRecDepth 100000 in
theorem c_X3_advise_T1 (l : Launch) (hl0 : l.stackTraces = false) (D : va_G) (y : Nat → ClassId) (X0 : Nat) (E E2 : Nat → Nat) (t : Nat → Int32) (o : Nat → Nat) (q b : Fld) (c bc n : Nat) (ar fi re : Int32) (T : TS) (x : Int32) (hx0 : x < 0 ∨ nI c ≤ x) (z : Int32) (hc : c ≤ 6) : zT l yX3_advise wsX3_advise { frames := 6, cells := 1, slots := 6, locals := 90 } D y [.ref X0, .int x, .int z] (sW X0 E E2 y t o q b c bc n ar fi re T) "java/lang/IndexOutOfBoundsException" := by
  refine zT.of (cc := cX3_advise) (maxL := 8) (ret := (some .int)) (own := RX3) (by decide) rfl (Nat.le_of_ble_eq_true rfl) rfl ?_
  intro p e s m args below meth cd ls hx hb hr hml hown hts hlocks hP hK hT0 hout hl
  have hl : lv_has ls 8 [(0, .ref X0), (1, .int x), (2, .int z)] := hl
  have hf12 : (Cond.fieldLink RX3 12 "StakeWeirs" "now" "LStakeWeirs$Estuary;").before args s = true := hts _ (by decide +kernel)
  have hinX3 : ∀ w ∈ wsX30, w ∈ wsX3_advise := by decide +kernel
  have hkl47 : (Cond.classLink RX3 47 "java/lang/IndexOutOfBoundsException").before args s = true := hts _ (by decide +kernel)
  have hini47 : (Cond.initialized "java/lang/IndexOutOfBoundsException").before args s = true := hts _ (by decide +kernel)
  refine lv_aload_n hx hb dX3_advise_0 rfl (lv_at hl 0 rfl) ?_
  refine va_get (D := D) (ci := 3) (v := .ref (E 0)) (C := RX3) (T := TX3) (N := 2) hx hb hts hinX3 hown hK hP (0) rfl rfl 0 (by decide) hf12 (fun _ h9 => h9) rfl dX3_advise_1 ?_
  refine lv_iload_n hx hb dX3_advise_4 rfl (lv_at hl 1 rfl) ?_
  refine zcRV (As := [.int x]) (rest := []) (st1 := [.null]) ⟨hx, hb, hml, hown, hts⟩ (c_X1_weirAt_no l D y E t o q b c bc n ar fi re x hx0 (by omega)) (cwV 1 hts gX3_advise_X1_weirAt rfl rfl rfl (by decide +kernel) ⟨Nat.le_of_ble_eq_true rfl, Nat.le_of_ble_eq_true rfl⟩) hK (z_sub_P hP (fun z h => List.mem_append_right _ (List.mem_append_left _ h))) (ci := 1) (q0 := 0) rfl rfl rfl rfl hl.1 rfl (lv_room (Nat.le_of_ble_eq_true rfl)) dX3_advise_5 ⟨Nat.le_of_ble_eq_true rfl, Nat.le_of_ble_eq_true rfl⟩ rfl ?_
  refine lv_astore_nN (lv' := [(3, .null), (0, .ref X0), (1, .int x), (2, .int z)]) hx hb dX3_advise_8 rfl hl (by decide) rfl (fun ls hl => ?_)
  refine lv_aload_nN hx hb dX3_advise_9 rfl (lv_at hl 0 rfl) ?_
  refine lv_ifnonnullN hx hb dX3_advise_10 ?_
  exact z_thr (cls := "java/lang/IndexOutOfBoundsException") (text := "no such weir") (ik := 47) (is := 49) (ic := 51) hx hb hl0 hown (by decide +kernel) hkl47 hini47 hts (fun x h => List.mem_cons_of_mem _ (List.mem_append_left _ (List.mem_append_right _ h))) zbad_51 (zgoodO_51 47) hT0 (by decide) hl.1 hml dX3_advise_13 dX3_advise_16 dX3_advise_17 dX3_advise_19 dX3_advise_22 hout (Nat.le_of_ble_eq_true rfl) (Nat.le_of_ble_eq_true rfl) (Nat.le_of_ble_eq_true rfl) (Nat.le_of_ble_eq_true rfl) hlocks
set_option maxHeartbeats 4000000 in
set_option maxRecDepth 100000 in
theorem c_X3_advise_T2 (l : Launch) (hl0 : l.stackTraces = false) (D : va_G) (y : Nat → ClassId) (X0 : Nat) (E E2 : Nat → Nat) (t : Nat → Int32) (o : Nat → Nat) (q b : Fld) (c bc n : Nat) (ar fi re : Int32) (T : TS) (k : Nat) (hk : k < c) (x : Int32) (hw : inB 1 x 20 = false) (hc : c ≤ 6) : zT l yX3_advise wsX3_advise { frames := 6, cells := 1, slots := 6, locals := 90 } D y [.ref X0, .int (nI k), .int x] (sW X0 E E2 y t o q b c bc n ar fi re T) "java/lang/IllegalArgumentException" := by
  refine zT.of (cc := cX3_advise) (maxL := 8) (ret := (some .int)) (own := RX3) (by decide) rfl (Nat.le_of_ble_eq_true rfl) rfl ?_
  intro p e s m args below meth cd ls hx hb hr hml hown hts hlocks hP hK hT0 hout hl
  have hl : lv_has ls 8 [(0, .ref X0), (1, .int (nI k)), (2, .int x)] := hl
  have hf12 : (Cond.fieldLink RX3 12 "StakeWeirs" "now" "LStakeWeirs$Estuary;").before args s = true := hts _ (by decide +kernel)
  have hinX3 : ∀ w ∈ wsX30, w ∈ wsX3_advise := by decide +kernel
  have hkl23 : (Cond.classLink RX3 23 "java/lang/IllegalArgumentException").before args s = true := hts _ (by decide +kernel)
  have hini23 : (Cond.initialized "java/lang/IllegalArgumentException").before args s = true := hts _ (by decide +kernel)
  refine lv_aload_n hx hb dX3_advise_0 rfl (lv_at hl 0 rfl) ?_
  refine va_get (D := D) (ci := 3) (v := .ref (E 0)) (C := RX3) (T := TX3) (N := 2) hx hb hts hinX3 hown hK hP (0) rfl rfl 0 (by decide) hf12 (fun _ h9 => h9) rfl dX3_advise_1 ?_
  refine lv_iload_n hx hb dX3_advise_4 rfl (lv_at hl 1 rfl) ?_
  refine zcRV (As := [.int (nI k)]) (rest := []) (st1 := [.ref (E (5 + k))]) ⟨hx, hb, hml, hown, hts⟩ (c_X1_weirAt l D y E t o q b c bc n ar fi re k (by omega) (by omega)) (cwV 1 hts gX3_advise_X1_weirAt rfl rfl rfl (by decide +kernel) ⟨Nat.le_of_ble_eq_true rfl, Nat.le_of_ble_eq_true rfl⟩) hK (z_sub_P hP (fun z h => List.mem_append_right _ (List.mem_append_left _ h))) (ci := 1) (q0 := 0) rfl rfl rfl rfl hl.1 rfl (lv_room (Nat.le_of_ble_eq_true rfl)) dX3_advise_5 ⟨Nat.le_of_ble_eq_true rfl, Nat.le_of_ble_eq_true rfl⟩ rfl ?_
  refine lv_astore_n (lv' := [(3, .ref (E (5 + k))), (0, .ref X0), (1, .int (nI k)), (2, .int x)]) hx hb dX3_advise_8 rfl hl (by decide) rfl (fun ls hl => ?_)
  refine lv_aload_n hx hb dX3_advise_9 rfl (lv_at hl 0 rfl) ?_
  refine lv_ifnonnull (tgt := 23) hx hb dX3_advise_10 (by decide) ?_
  refine lv_iload_n hx hb dX3_advise_23 rfl (lv_at hl 3 rfl) ?_
  refine lv_iconst (v := 1) hx hb dX3_advise_24 (by decide) ?_
  refine lv_bipush (v := 20) hx hb dX3_advise_25 (by decide) ?_
  refine zcRS (As := [.int x, .int 1, .int 20]) (rest := []) (st1 := [.int (zb (inB 1 x 20))]) ⟨hx, hb, hml, hown, hts⟩ (c_X3_isWithin l D y x 1 20) (cwS 3 hts gX3_advise_X3_isWithin rfl rfl rfl (by decide +kernel) ⟨Nat.le_of_ble_eq_true rfl, Nat.le_of_ble_eq_true rfl⟩) hK va_P_nil rfl hl.1 rfl (lv_room (Nat.le_of_ble_eq_true rfl)) dX3_advise_27 ⟨Nat.le_of_ble_eq_true rfl, Nat.le_of_ble_eq_true rfl⟩ rfl ?_
  refine lv_if_ne (tgt := 43) hx hb dX3_advise_30 (by decide) (fun c1 => ?_) (fun c1 => ?_)
  · exact absurd (zb_t c1) (by rw [hw]; decide)
  · have c1 := c1
    exact z_thr (cls := "java/lang/IllegalArgumentException") (text := "nights is not 1 to 20") (ik := 23) (is := 171) (ic := 27) hx hb hl0 hown (by decide +kernel) hkl23 hini23 hts (fun x h => List.mem_cons_of_mem _ (List.mem_append_right _ h)) zbad_27 (zgoodO_27 23) hT0 (by decide) hl.1 hml dX3_advise_33 dX3_advise_36 dX3_advise_37 dX3_advise_39 dX3_advise_42 hout (Nat.le_of_ble_eq_true rfl) (Nat.le_of_ble_eq_true rfl) (Nat.le_of_ble_eq_true rfl) (Nat.le_of_ble_eq_true rfl) hlocks
set_option maxHeartbeats 4000000 in
set_option maxRecDepth 100000 in
theorem c_X3_mean (l : Launch) (D : va_G) (y : Nat → ClassId) (X0 : Nat) (E E2 : Nat → Nat) (t : Nat → Int32) (o : Nat → Nat) (q b : Fld) (c bc n : Nat) (ar fi re : Int32) (T : TS) (hc : c ≤ 6) (hne : ¬ heldN q c = 0 → vf_n64 (FP.ddiv (FP.i2d (wattleN q c)) (FP.i2d (heldN q c)))) : zR l yX3_mean wsX3_mean { frames := 2, cells := 0, slots := 0, locals := 45 } D y [.ref X0] (sW X0 E E2 y t o q b c bc n ar fi re T) (some (.double (meanI (wattleN q c) (heldN q c)))) := by
  refine zR.of (cc := cX3_mean) (maxL := 2) (ret := (some .double)) (own := RX3) (by decide) rfl (Nat.le_of_ble_eq_true rfl) rfl ?_
  intro p e s m args below meth cd ls hx hb hr hml hown hts hlocks hP hK hl
  have hl : lv_has ls 2 [(0, .ref X0)] := hl
  have hf12 : (Cond.fieldLink RX3 12 "StakeWeirs" "now" "LStakeWeirs$Estuary;").before args s = true := hts _ (by decide +kernel)
  have hinX3 : ∀ w ∈ wsX30, w ∈ wsX3_mean := by decide +kernel
  refine lv_aload_n hx hb dX3_mean_0 rfl (lv_at hl 0 rfl) ?_
  refine va_get (D := D) (ci := 3) (v := .ref (E 0)) (C := RX3) (T := TX3) (N := 2) hx hb hts hinX3 hown hK hP (0) rfl rfl 0 (by decide) hf12 (fun _ h9 => h9) rfl dX3_mean_1 ?_
  refine zcRV (As := []) (rest := []) (st1 := [.int ((heldN q c))]) ⟨hx, hb, hml, hown, hts⟩ (c_X1_heldWeirs l D y E t o q b c bc n ar fi re  (by omega)) (cwV 0 hts gX3_mean_X1_heldWeirs rfl rfl rfl (by decide +kernel) ⟨Nat.le_of_ble_eq_true rfl, Nat.le_of_ble_eq_true rfl⟩) hK (z_sub_P hP (fun z h => List.mem_append_right _ (List.mem_append_left _ h))) (ci := 1) (q0 := 0) rfl rfl rfl rfl hl.1 rfl (lv_room (Nat.le_of_ble_eq_true rfl)) dX3_mean_4 ⟨Nat.le_of_ble_eq_true rfl, Nat.le_of_ble_eq_true rfl⟩ rfl ?_
  refine lv_istore_n (lv' := [(1, .int ((heldN q c))), (0, .ref X0)]) hx hb dX3_mean_7 rfl hl (by decide) rfl (fun ls hl => ?_)
  refine lv_iload_n hx hb dX3_mean_8 rfl (lv_at hl 0 rfl) ?_
  refine lv_if_ne (tgt := 16) hx hb dX3_mean_9 (by decide) (fun c1 => ?_) (fun c1 => ?_)
  · have d1 := c1
    refine lv_aload_n hx hb dX3_mean_16 rfl (lv_at hl 1 rfl) ?_
    refine va_get (D := D) (ci := 3) (v := .ref (E 0)) (C := RX3) (T := TX3) (N := 2) hx hb hts hinX3 hown hK hP (0) rfl rfl 0 (by decide) hf12 (fun _ h9 => h9) rfl dX3_mean_17 ?_
    refine zcRV (As := []) (rest := []) (st1 := [.int ((wattleN q c))]) ⟨hx, hb, hml, hown, hts⟩ (c_X1_heldWattle l D y E t o q b c bc n ar fi re  (by omega)) (cwV 0 hts gX3_mean_X1_heldWattle rfl rfl rfl (by decide +kernel) ⟨Nat.le_of_ble_eq_true rfl, Nat.le_of_ble_eq_true rfl⟩) hK (z_sub_P hP (fun z h => List.mem_append_right _ (List.mem_append_left _ h))) (ci := 1) (q0 := 0) rfl rfl rfl rfl hl.1 rfl (lv_room (Nat.le_of_ble_eq_true rfl)) dX3_mean_20 ⟨Nat.le_of_ble_eq_true rfl, Nat.le_of_ble_eq_true rfl⟩ rfl ?_
    refine lv_i2d hx hb dX3_mean_23 ?_
    refine lv_iload_n hx hb dX3_mean_24 rfl (lv_at hl 0 rfl) ?_
    refine lv_i2d hx hb dX3_mean_25 ?_
    have hne9 := hne c1
    refine lv_ddiv hx hb dX3_mean_26 hne9 ?_
    exact zR_d hx hb hr hlocks dX3_mean_27 (by simp [meanI, c1, d1])
  · have d1 := c1
    refine lv_dconst0 hx hb dX3_mean_12 ?_
    refine lv_goto (tgt := 27) hx hb dX3_mean_13 (by decide) ?_
    exact zR_d hx hb hr hlocks dX3_mean_27 (by simp [meanI, c1, d1])
set_option maxHeartbeats 4000000 in
set_option maxRecDepth 100000 in
theorem c_X3_digestOfWeirs (l : Launch) (D : va_G) (y : Nat → ClassId) (X0 : Nat) (E E2 : Nat → Nat) (t : Nat → Int32) (o : Nat → Nat) (q b : Fld) (c bc n : Nat) (ar fi re : Int32) (T : TS) (d0 : Int64) (hc : c ≤ 6) : zR l yX3_digestOfWeirs wsX3_digestOfWeirs { frames := 1, cells := 0, slots := 0, locals := 22 } D y [.ref X0, .long d0] (sW X0 E E2 y t o q b c bc n ar fi re T) (some (.long (digWs q d0 c))) := by
  refine zR.of (cc := cX3_digestOfWeirs) (maxL := 8) (ret := (some .long)) (own := RX3) (by decide) rfl (Nat.le_of_ble_eq_true rfl) rfl ?_
  intro p e s m args below meth cd ls hx hb hr hml hown hts hlocks hP hK hl
  have hl : lv_has ls 8 [(0, .ref X0), (1, .long d0)] := hl
  have hf12 : (Cond.fieldLink RX3 12 "StakeWeirs" "now" "LStakeWeirs$Estuary;").before args s = true := hts _ (by decide +kernel)
  have hinX3 : ∀ w ∈ wsX30, w ∈ wsX3_digestOfWeirs := by decide +kernel
  have hf30 : (Cond.fieldLink RX3 30 "StakeWeirs$Estuary" "weirCount" "I").before args s = true := hts _ (by decide +kernel)
  have hinX1 : ∀ w ∈ wsX10, w ∈ wsX3_digestOfWeirs := by decide +kernel
  have hk187 : (Cond.constantLong RX3 187 (31)).before args s = true := hts _ (by decide +kernel)
  refine lv_lload_n hx hb dX3_digestOfWeirs_0 rfl (lv_at hl 1 rfl) ?_
  refine lv_lstore_n (lv' := [(3, .long d0), (0, .ref X0), (1, .long d0)]) hx hb dX3_digestOfWeirs_1 rfl hl (by decide) rfl (fun ls hl => ?_)
  refine lv_iconst (v := 0) hx hb dX3_digestOfWeirs_2 (by decide) ?_
  refine lv_istore (lv' := [(5, .int 0), (3, .long d0), (0, .ref X0), (1, .long d0)]) hx hb dX3_digestOfWeirs_3 hl (by decide) rfl (fun ls hl => ?_)
  have loop1 : ∀ k, k ≤ c → ∀ (ls : Array Slot), lv_has ls 8 [(5, .int (nI k)), (3, .long ((digWs q d0 k))), (0, .ref X0)] → W p l e ({ frames := 1, cells := 0, slots := 0, locals := 22 } : Room) s m args below meth cd s.heap [] 0 0 (MQ below (zRQ (some (.long (digWs q d0 c)))) args s 0 0 (fun _ => False)) (F0 m 5 ls []) := by
    refine down ?_ ?_
    · intro ls hl
      refine lv_iload hx hb dX3_digestOfWeirs_5 (lv_at hl 0 rfl) ?_
      refine lv_aload_n hx hb dX3_digestOfWeirs_7 rfl (lv_at hl 2 rfl) ?_
      refine va_get (D := D) (ci := 3) (v := .ref (E 0)) (C := RX3) (T := TX3) (N := 2) hx hb hts hinX3 hown hK hP (0) rfl rfl 0 (by decide) hf12 (fun _ h9 => h9) rfl dX3_digestOfWeirs_8 ?_
      refine va_get (D := D) (ci := 1) (v := .int (nI c)) (C := RX1) (T := TX1) (N := 10) hx hb hts hinX1 hown hK hP (1 + (0)) (z_apr (n := 1) rfl (z_apl rfl)) rfl 4 (by decide) hf30 (fun _ h9 => h9) rfl dX3_digestOfWeirs_11 ?_
      refine lv_icmp_ge (tgt := 70) hx hb dX3_digestOfWeirs_14 (by decide) (fun c2 => ?_) (fun c2 => ?_)
      · have d2 := Int32.not_lt.mpr c2
        refine lv_lload_n hx hb dX3_digestOfWeirs_70 rfl (lv_at hl 1 rfl) ?_
        exact zR_l hx hb hr hlocks dX3_digestOfWeirs_71 rfl
      · exact absurd (nI_le (a := c) (b := c) (by omega) (by omega)) c2
    · intro k hkk ihk ls hl
      refine lv_iload hx hb dX3_digestOfWeirs_5 (lv_at hl 0 rfl) ?_
      refine lv_aload_n hx hb dX3_digestOfWeirs_7 rfl (lv_at hl 2 rfl) ?_
      refine va_get (D := D) (ci := 3) (v := .ref (E 0)) (C := RX3) (T := TX3) (N := 2) hx hb hts hinX3 hown hK hP (0) rfl rfl 0 (by decide) hf12 (fun _ h9 => h9) rfl dX3_digestOfWeirs_8 ?_
      refine va_get (D := D) (ci := 1) (v := .int (nI c)) (C := RX1) (T := TX1) (N := 10) hx hb hts hinX1 hown hK hP (1 + (0)) (z_apr (n := 1) rfl (z_apl rfl)) rfl 4 (by decide) hf30 (fun _ h9 => h9) rfl dX3_digestOfWeirs_11 ?_
      refine lv_icmp_ge (tgt := 70) hx hb dX3_digestOfWeirs_14 (by decide) (fun c3 => ?_) (fun c3 => ?_)
      · exact absurd c3 (nI_ge (a := k) (b := c) (by omega) (by omega))
      · have d3 := Int32.not_le.mp c3
        refine lv_aload_n hx hb dX3_digestOfWeirs_17 rfl (lv_at hl 2 rfl) ?_
        refine va_get (D := D) (ci := 3) (v := .ref (E 0)) (C := RX3) (T := TX3) (N := 2) hx hb hts hinX3 hown hK hP (0) rfl rfl 0 (by decide) hf12 (fun _ h9 => h9) rfl dX3_digestOfWeirs_18 ?_
        refine lv_iload hx hb dX3_digestOfWeirs_21 (lv_at hl 0 rfl) ?_
        refine zcRV (As := [.int (nI k)]) (rest := []) (st1 := [.ref (E (5 + k))]) ⟨hx, hb, hml, hown, hts⟩ (c_X1_weirAt l D y E t o q b c bc n ar fi re k (by omega) (by omega)) (cwV 1 hts gX3_digestOfWeirs_X1_weirAt rfl rfl rfl (by decide +kernel) ⟨Nat.le_of_ble_eq_true rfl, Nat.le_of_ble_eq_true rfl⟩) hK (z_sub_P hP (fun z h => List.mem_append_right _ (List.mem_append_left _ h))) (ci := 1) (q0 := 0) rfl rfl rfl rfl hl.1 rfl (lv_room (Nat.le_of_ble_eq_true rfl)) dX3_digestOfWeirs_23 ⟨Nat.le_of_ble_eq_true rfl, Nat.le_of_ble_eq_true rfl⟩ rfl ?_
        refine lv_astore (lv' := [(6, .ref (E (5 + k))), (5, .int (nI k)), (3, .long ((digWs q d0 k))), (0, .ref X0)]) hx hb dX3_digestOfWeirs_26 hl (by decide) rfl (fun ls hl => ?_)
        refine lv_iconst (v := 0) hx hb dX3_digestOfWeirs_28 (by decide) ?_
        refine lv_istore (lv' := [(7, .int 0), (6, .ref (E (5 + k))), (5, .int (nI k)), (3, .long ((digWs q d0 k))), (0, .ref X0)]) hx hb dX3_digestOfWeirs_29 hl (by decide) rfl (fun ls hl => ?_)
        refine lv_iload hx hb dX3_digestOfWeirs_31 (lv_at hl 0 rfl) ?_
        refine lv_bipush (v := 7) hx hb dX3_digestOfWeirs_33 (by decide) ?_
        refine lv_icmp_gt (tgt := 64) hx hb dX3_digestOfWeirs_35 (by decide) (fun c4 => ?_) (fun c4 => ?_)
        · exact absurd c4 (by decide)
        · have d4 := Int32.not_lt.mp c4
          refine lv_aload hx hb dX3_digestOfWeirs_38 (lv_at hl 1 rfl) ?_
          refine lv_ifnull hx hb dX3_digestOfWeirs_40 ?_
          refine lv_lload_n hx hb dX3_digestOfWeirs_43 rfl (lv_at hl 3 rfl) ?_
          refine lv_ldc2 (v := 31) hx hb hown hk187 dX3_digestOfWeirs_44 ?_
          refine lv_lmul hx hb dX3_digestOfWeirs_47 ?_
          refine lv_aload hx hb dX3_digestOfWeirs_48 (lv_at hl 1 rfl) ?_
          refine lv_iload hx hb dX3_digestOfWeirs_50 (lv_at hl 0 rfl) ?_
          refine zcRV (As := [.int 0]) (rest := [.long (((digWs q d0 k) * 31))]) (st1 := [.int ((factW q k 0)), .long (((digWs q d0 k) * 31))]) ⟨hx, hb, hml, hown, hts⟩ (c_X2_fact_0 l D y (E (5 + k)) q k) (cwV 1 hts gX3_digestOfWeirs_X2_fact rfl rfl rfl (by decide +kernel) ⟨Nat.le_of_ble_eq_true rfl, Nat.le_of_ble_eq_true rfl⟩) hK (z_sub_P hP (z_in_1 (k := 1 + (5 + k)) (z_apr (n := 1) rfl (z_apl (eW_w (by omega)))))) (ci := 2) (q0 := 0) rfl rfl rfl rfl hl.1 rfl (lv_room (Nat.le_of_ble_eq_true rfl)) dX3_digestOfWeirs_52 ⟨Nat.le_of_ble_eq_true rfl, Nat.le_of_ble_eq_true rfl⟩ rfl ?_
          refine lv_i2l hx hb dX3_digestOfWeirs_55 rfl ?_
          refine lv_ladd hx hb dX3_digestOfWeirs_56 ?_
          refine zt_l (x' := (digS (digWs q d0 k) ((factW q k 0)))) rfl ?_
          refine lv_lstore_n (lv' := [(3, .long ((digS (digWs q d0 k) ((factW q k 0))))), (7, .int 0), (6, .ref (E (5 + k))), (5, .int (nI k)), (0, .ref X0)]) hx hb dX3_digestOfWeirs_57 rfl hl (by decide) rfl (fun ls hl => ?_)
          refine lv_iinc (v := 1) (lv' := [(7, .int 1), (3, .long ((digS (digWs q d0 k) ((factW q k 0))))), (6, .ref (E (5 + k))), (5, .int (nI k)), (0, .ref X0)]) hx hb dX3_digestOfWeirs_58 hl (k := 1) rfl (by decide) (by decide) rfl (fun ls hl => ?_)
          refine lv_goto (tgt := 31) hx hb dX3_digestOfWeirs_61 (by decide) ?_
          refine lv_iload hx hb dX3_digestOfWeirs_31 (lv_at hl 0 rfl) ?_
          refine lv_bipush (v := 7) hx hb dX3_digestOfWeirs_33 (by decide) ?_
          refine lv_icmp_gt (tgt := 64) hx hb dX3_digestOfWeirs_35 (by decide) (fun c5 => ?_) (fun c5 => ?_)
          · exact absurd c5 (by decide)
          · have d5 := Int32.not_lt.mp c5
            refine lv_aload hx hb dX3_digestOfWeirs_38 (lv_at hl 2 rfl) ?_
            refine lv_ifnull hx hb dX3_digestOfWeirs_40 ?_
            refine lv_lload_n hx hb dX3_digestOfWeirs_43 rfl (lv_at hl 1 rfl) ?_
            refine lv_ldc2 (v := 31) hx hb hown hk187 dX3_digestOfWeirs_44 ?_
            refine lv_lmul hx hb dX3_digestOfWeirs_47 ?_
            refine lv_aload hx hb dX3_digestOfWeirs_48 (lv_at hl 2 rfl) ?_
            refine lv_iload hx hb dX3_digestOfWeirs_50 (lv_at hl 0 rfl) ?_
            refine zcRV (As := [.int 1]) (rest := [.long (((digS (digWs q d0 k) ((factW q k 0))) * 31))]) (st1 := [.int ((factW q k 1)), .long (((digS (digWs q d0 k) ((factW q k 0))) * 31))]) ⟨hx, hb, hml, hown, hts⟩ (c_X2_fact_1 l D y (E (5 + k)) q k) (cwV 1 hts gX3_digestOfWeirs_X2_fact rfl rfl rfl (by decide +kernel) ⟨Nat.le_of_ble_eq_true rfl, Nat.le_of_ble_eq_true rfl⟩) hK (z_sub_P hP (z_in_1 (k := 1 + (5 + k)) (z_apr (n := 1) rfl (z_apl (eW_w (by omega)))))) (ci := 2) (q0 := 0) rfl rfl rfl rfl hl.1 rfl (lv_room (Nat.le_of_ble_eq_true rfl)) dX3_digestOfWeirs_52 ⟨Nat.le_of_ble_eq_true rfl, Nat.le_of_ble_eq_true rfl⟩ rfl ?_
            refine lv_i2l hx hb dX3_digestOfWeirs_55 rfl ?_
            refine lv_ladd hx hb dX3_digestOfWeirs_56 ?_
            refine zt_l (x' := (digS (digS (digWs q d0 k) ((factW q k 0))) ((factW q k 1)))) rfl ?_
            refine lv_lstore_n (lv' := [(3, .long ((digS (digS (digWs q d0 k) ((factW q k 0))) ((factW q k 1))))), (7, .int 1), (6, .ref (E (5 + k))), (5, .int (nI k)), (0, .ref X0)]) hx hb dX3_digestOfWeirs_57 rfl hl (by decide) rfl (fun ls hl => ?_)
            refine lv_iinc (v := 2) (lv' := [(7, .int 2), (3, .long ((digS (digS (digWs q d0 k) ((factW q k 0))) ((factW q k 1))))), (6, .ref (E (5 + k))), (5, .int (nI k)), (0, .ref X0)]) hx hb dX3_digestOfWeirs_58 hl (k := 1) rfl (by decide) (by decide) rfl (fun ls hl => ?_)
            refine lv_goto (tgt := 31) hx hb dX3_digestOfWeirs_61 (by decide) ?_
            refine lv_iload hx hb dX3_digestOfWeirs_31 (lv_at hl 0 rfl) ?_
            refine lv_bipush (v := 7) hx hb dX3_digestOfWeirs_33 (by decide) ?_
            refine lv_icmp_gt (tgt := 64) hx hb dX3_digestOfWeirs_35 (by decide) (fun c6 => ?_) (fun c6 => ?_)
            · exact absurd c6 (by decide)
            · have d6 := Int32.not_lt.mp c6
              refine lv_aload hx hb dX3_digestOfWeirs_38 (lv_at hl 2 rfl) ?_
              refine lv_ifnull hx hb dX3_digestOfWeirs_40 ?_
              refine lv_lload_n hx hb dX3_digestOfWeirs_43 rfl (lv_at hl 1 rfl) ?_
              refine lv_ldc2 (v := 31) hx hb hown hk187 dX3_digestOfWeirs_44 ?_
              refine lv_lmul hx hb dX3_digestOfWeirs_47 ?_
              refine lv_aload hx hb dX3_digestOfWeirs_48 (lv_at hl 2 rfl) ?_
              refine lv_iload hx hb dX3_digestOfWeirs_50 (lv_at hl 0 rfl) ?_
              refine zcRV (As := [.int 2]) (rest := [.long (((digS (digS (digWs q d0 k) ((factW q k 0))) ((factW q k 1))) * 31))]) (st1 := [.int ((factW q k 2)), .long (((digS (digS (digWs q d0 k) ((factW q k 0))) ((factW q k 1))) * 31))]) ⟨hx, hb, hml, hown, hts⟩ (c_X2_fact_2 l D y (E (5 + k)) q k) (cwV 1 hts gX3_digestOfWeirs_X2_fact rfl rfl rfl (by decide +kernel) ⟨Nat.le_of_ble_eq_true rfl, Nat.le_of_ble_eq_true rfl⟩) hK (z_sub_P hP (z_in_1 (k := 1 + (5 + k)) (z_apr (n := 1) rfl (z_apl (eW_w (by omega)))))) (ci := 2) (q0 := 0) rfl rfl rfl rfl hl.1 rfl (lv_room (Nat.le_of_ble_eq_true rfl)) dX3_digestOfWeirs_52 ⟨Nat.le_of_ble_eq_true rfl, Nat.le_of_ble_eq_true rfl⟩ rfl ?_
              refine lv_i2l hx hb dX3_digestOfWeirs_55 rfl ?_
              refine lv_ladd hx hb dX3_digestOfWeirs_56 ?_
              refine zt_l (x' := (digS (digS (digS (digWs q d0 k) ((factW q k 0))) ((factW q k 1))) ((factW q k 2)))) rfl ?_
              refine lv_lstore_n (lv' := [(3, .long ((digS (digS (digS (digWs q d0 k) ((factW q k 0))) ((factW q k 1))) ((factW q k 2))))), (7, .int 2), (6, .ref (E (5 + k))), (5, .int (nI k)), (0, .ref X0)]) hx hb dX3_digestOfWeirs_57 rfl hl (by decide) rfl (fun ls hl => ?_)
              refine lv_iinc (v := 3) (lv' := [(7, .int 3), (3, .long ((digS (digS (digS (digWs q d0 k) ((factW q k 0))) ((factW q k 1))) ((factW q k 2))))), (6, .ref (E (5 + k))), (5, .int (nI k)), (0, .ref X0)]) hx hb dX3_digestOfWeirs_58 hl (k := 1) rfl (by decide) (by decide) rfl (fun ls hl => ?_)
              refine lv_goto (tgt := 31) hx hb dX3_digestOfWeirs_61 (by decide) ?_
              refine lv_iload hx hb dX3_digestOfWeirs_31 (lv_at hl 0 rfl) ?_
              refine lv_bipush (v := 7) hx hb dX3_digestOfWeirs_33 (by decide) ?_
              refine lv_icmp_gt (tgt := 64) hx hb dX3_digestOfWeirs_35 (by decide) (fun c7 => ?_) (fun c7 => ?_)
              · exact absurd c7 (by decide)
              · have d7 := Int32.not_lt.mp c7
                refine lv_aload hx hb dX3_digestOfWeirs_38 (lv_at hl 2 rfl) ?_
                refine lv_ifnull hx hb dX3_digestOfWeirs_40 ?_
                refine lv_lload_n hx hb dX3_digestOfWeirs_43 rfl (lv_at hl 1 rfl) ?_
                refine lv_ldc2 (v := 31) hx hb hown hk187 dX3_digestOfWeirs_44 ?_
                refine lv_lmul hx hb dX3_digestOfWeirs_47 ?_
                refine lv_aload hx hb dX3_digestOfWeirs_48 (lv_at hl 2 rfl) ?_
                refine lv_iload hx hb dX3_digestOfWeirs_50 (lv_at hl 0 rfl) ?_
                refine zcRV (As := [.int 3]) (rest := [.long (((digS (digS (digS (digWs q d0 k) ((factW q k 0))) ((factW q k 1))) ((factW q k 2))) * 31))]) (st1 := [.int ((factW q k 3)), .long (((digS (digS (digS (digWs q d0 k) ((factW q k 0))) ((factW q k 1))) ((factW q k 2))) * 31))]) ⟨hx, hb, hml, hown, hts⟩ (c_X2_fact_3 l D y (E (5 + k)) q k) (cwV 1 hts gX3_digestOfWeirs_X2_fact rfl rfl rfl (by decide +kernel) ⟨Nat.le_of_ble_eq_true rfl, Nat.le_of_ble_eq_true rfl⟩) hK (z_sub_P hP (z_in_1 (k := 1 + (5 + k)) (z_apr (n := 1) rfl (z_apl (eW_w (by omega)))))) (ci := 2) (q0 := 0) rfl rfl rfl rfl hl.1 rfl (lv_room (Nat.le_of_ble_eq_true rfl)) dX3_digestOfWeirs_52 ⟨Nat.le_of_ble_eq_true rfl, Nat.le_of_ble_eq_true rfl⟩ rfl ?_
                refine lv_i2l hx hb dX3_digestOfWeirs_55 rfl ?_
                refine lv_ladd hx hb dX3_digestOfWeirs_56 ?_
                refine zt_l (x' := (digS (digS (digS (digS (digWs q d0 k) ((factW q k 0))) ((factW q k 1))) ((factW q k 2))) ((factW q k 3)))) rfl ?_
                refine lv_lstore_n (lv' := [(3, .long ((digS (digS (digS (digS (digWs q d0 k) ((factW q k 0))) ((factW q k 1))) ((factW q k 2))) ((factW q k 3))))), (7, .int 3), (6, .ref (E (5 + k))), (5, .int (nI k)), (0, .ref X0)]) hx hb dX3_digestOfWeirs_57 rfl hl (by decide) rfl (fun ls hl => ?_)
                refine lv_iinc (v := 4) (lv' := [(7, .int 4), (3, .long ((digS (digS (digS (digS (digWs q d0 k) ((factW q k 0))) ((factW q k 1))) ((factW q k 2))) ((factW q k 3))))), (6, .ref (E (5 + k))), (5, .int (nI k)), (0, .ref X0)]) hx hb dX3_digestOfWeirs_58 hl (k := 1) rfl (by decide) (by decide) rfl (fun ls hl => ?_)
                refine lv_goto (tgt := 31) hx hb dX3_digestOfWeirs_61 (by decide) ?_
                refine lv_iload hx hb dX3_digestOfWeirs_31 (lv_at hl 0 rfl) ?_
                refine lv_bipush (v := 7) hx hb dX3_digestOfWeirs_33 (by decide) ?_
                refine lv_icmp_gt (tgt := 64) hx hb dX3_digestOfWeirs_35 (by decide) (fun c8 => ?_) (fun c8 => ?_)
                · exact absurd c8 (by decide)
                · have d8 := Int32.not_lt.mp c8
                  refine lv_aload hx hb dX3_digestOfWeirs_38 (lv_at hl 2 rfl) ?_
                  refine lv_ifnull hx hb dX3_digestOfWeirs_40 ?_
                  refine lv_lload_n hx hb dX3_digestOfWeirs_43 rfl (lv_at hl 1 rfl) ?_
                  refine lv_ldc2 (v := 31) hx hb hown hk187 dX3_digestOfWeirs_44 ?_
                  refine lv_lmul hx hb dX3_digestOfWeirs_47 ?_
                  refine lv_aload hx hb dX3_digestOfWeirs_48 (lv_at hl 2 rfl) ?_
                  refine lv_iload hx hb dX3_digestOfWeirs_50 (lv_at hl 0 rfl) ?_
                  refine zcRV (As := [.int 4]) (rest := [.long (((digS (digS (digS (digS (digWs q d0 k) ((factW q k 0))) ((factW q k 1))) ((factW q k 2))) ((factW q k 3))) * 31))]) (st1 := [.int ((factW q k 4)), .long (((digS (digS (digS (digS (digWs q d0 k) ((factW q k 0))) ((factW q k 1))) ((factW q k 2))) ((factW q k 3))) * 31))]) ⟨hx, hb, hml, hown, hts⟩ (c_X2_fact_4 l D y (E (5 + k)) q k) (cwV 1 hts gX3_digestOfWeirs_X2_fact rfl rfl rfl (by decide +kernel) ⟨Nat.le_of_ble_eq_true rfl, Nat.le_of_ble_eq_true rfl⟩) hK (z_sub_P hP (z_in_1 (k := 1 + (5 + k)) (z_apr (n := 1) rfl (z_apl (eW_w (by omega)))))) (ci := 2) (q0 := 0) rfl rfl rfl rfl hl.1 rfl (lv_room (Nat.le_of_ble_eq_true rfl)) dX3_digestOfWeirs_52 ⟨Nat.le_of_ble_eq_true rfl, Nat.le_of_ble_eq_true rfl⟩ rfl ?_
                  refine lv_i2l hx hb dX3_digestOfWeirs_55 rfl ?_
                  refine lv_ladd hx hb dX3_digestOfWeirs_56 ?_
                  refine zt_l (x' := (digS (digS (digS (digS (digS (digWs q d0 k) ((factW q k 0))) ((factW q k 1))) ((factW q k 2))) ((factW q k 3))) ((factW q k 4)))) rfl ?_
                  refine lv_lstore_n (lv' := [(3, .long ((digS (digS (digS (digS (digS (digWs q d0 k) ((factW q k 0))) ((factW q k 1))) ((factW q k 2))) ((factW q k 3))) ((factW q k 4))))), (7, .int 4), (6, .ref (E (5 + k))), (5, .int (nI k)), (0, .ref X0)]) hx hb dX3_digestOfWeirs_57 rfl hl (by decide) rfl (fun ls hl => ?_)
                  refine lv_iinc (v := 5) (lv' := [(7, .int 5), (3, .long ((digS (digS (digS (digS (digS (digWs q d0 k) ((factW q k 0))) ((factW q k 1))) ((factW q k 2))) ((factW q k 3))) ((factW q k 4))))), (6, .ref (E (5 + k))), (5, .int (nI k)), (0, .ref X0)]) hx hb dX3_digestOfWeirs_58 hl (k := 1) rfl (by decide) (by decide) rfl (fun ls hl => ?_)
                  refine lv_goto (tgt := 31) hx hb dX3_digestOfWeirs_61 (by decide) ?_
                  refine lv_iload hx hb dX3_digestOfWeirs_31 (lv_at hl 0 rfl) ?_
                  refine lv_bipush (v := 7) hx hb dX3_digestOfWeirs_33 (by decide) ?_
                  refine lv_icmp_gt (tgt := 64) hx hb dX3_digestOfWeirs_35 (by decide) (fun c9 => ?_) (fun c9 => ?_)
                  · exact absurd c9 (by decide)
                  · have d9 := Int32.not_lt.mp c9
                    refine lv_aload hx hb dX3_digestOfWeirs_38 (lv_at hl 2 rfl) ?_
                    refine lv_ifnull hx hb dX3_digestOfWeirs_40 ?_
                    refine lv_lload_n hx hb dX3_digestOfWeirs_43 rfl (lv_at hl 1 rfl) ?_
                    refine lv_ldc2 (v := 31) hx hb hown hk187 dX3_digestOfWeirs_44 ?_
                    refine lv_lmul hx hb dX3_digestOfWeirs_47 ?_
                    refine lv_aload hx hb dX3_digestOfWeirs_48 (lv_at hl 2 rfl) ?_
                    refine lv_iload hx hb dX3_digestOfWeirs_50 (lv_at hl 0 rfl) ?_
                    refine zcRV (As := [.int 5]) (rest := [.long (((digS (digS (digS (digS (digS (digWs q d0 k) ((factW q k 0))) ((factW q k 1))) ((factW q k 2))) ((factW q k 3))) ((factW q k 4))) * 31))]) (st1 := [.int ((factW q k 5)), .long (((digS (digS (digS (digS (digS (digWs q d0 k) ((factW q k 0))) ((factW q k 1))) ((factW q k 2))) ((factW q k 3))) ((factW q k 4))) * 31))]) ⟨hx, hb, hml, hown, hts⟩ (c_X2_fact_5 l D y (E (5 + k)) q k) (cwV 1 hts gX3_digestOfWeirs_X2_fact rfl rfl rfl (by decide +kernel) ⟨Nat.le_of_ble_eq_true rfl, Nat.le_of_ble_eq_true rfl⟩) hK (z_sub_P hP (z_in_1 (k := 1 + (5 + k)) (z_apr (n := 1) rfl (z_apl (eW_w (by omega)))))) (ci := 2) (q0 := 0) rfl rfl rfl rfl hl.1 rfl (lv_room (Nat.le_of_ble_eq_true rfl)) dX3_digestOfWeirs_52 ⟨Nat.le_of_ble_eq_true rfl, Nat.le_of_ble_eq_true rfl⟩ rfl ?_
                    refine lv_i2l hx hb dX3_digestOfWeirs_55 rfl ?_
                    refine lv_ladd hx hb dX3_digestOfWeirs_56 ?_
                    refine zt_l (x' := (digS (digS (digS (digS (digS (digS (digWs q d0 k) ((factW q k 0))) ((factW q k 1))) ((factW q k 2))) ((factW q k 3))) ((factW q k 4))) ((factW q k 5)))) rfl ?_
                    refine lv_lstore_n (lv' := [(3, .long ((digS (digS (digS (digS (digS (digS (digWs q d0 k) ((factW q k 0))) ((factW q k 1))) ((factW q k 2))) ((factW q k 3))) ((factW q k 4))) ((factW q k 5))))), (7, .int 5), (6, .ref (E (5 + k))), (5, .int (nI k)), (0, .ref X0)]) hx hb dX3_digestOfWeirs_57 rfl hl (by decide) rfl (fun ls hl => ?_)
                    refine lv_iinc (v := 6) (lv' := [(7, .int 6), (3, .long ((digS (digS (digS (digS (digS (digS (digWs q d0 k) ((factW q k 0))) ((factW q k 1))) ((factW q k 2))) ((factW q k 3))) ((factW q k 4))) ((factW q k 5))))), (6, .ref (E (5 + k))), (5, .int (nI k)), (0, .ref X0)]) hx hb dX3_digestOfWeirs_58 hl (k := 1) rfl (by decide) (by decide) rfl (fun ls hl => ?_)
                    refine lv_goto (tgt := 31) hx hb dX3_digestOfWeirs_61 (by decide) ?_
                    refine lv_iload hx hb dX3_digestOfWeirs_31 (lv_at hl 0 rfl) ?_
                    refine lv_bipush (v := 7) hx hb dX3_digestOfWeirs_33 (by decide) ?_
                    refine lv_icmp_gt (tgt := 64) hx hb dX3_digestOfWeirs_35 (by decide) (fun c10 => ?_) (fun c10 => ?_)
                    · exact absurd c10 (by decide)
                    · have d10 := Int32.not_lt.mp c10
                      refine lv_aload hx hb dX3_digestOfWeirs_38 (lv_at hl 2 rfl) ?_
                      refine lv_ifnull hx hb dX3_digestOfWeirs_40 ?_
                      refine lv_lload_n hx hb dX3_digestOfWeirs_43 rfl (lv_at hl 1 rfl) ?_
                      refine lv_ldc2 (v := 31) hx hb hown hk187 dX3_digestOfWeirs_44 ?_
                      refine lv_lmul hx hb dX3_digestOfWeirs_47 ?_
                      refine lv_aload hx hb dX3_digestOfWeirs_48 (lv_at hl 2 rfl) ?_
                      refine lv_iload hx hb dX3_digestOfWeirs_50 (lv_at hl 0 rfl) ?_
                      refine zcRV (As := [.int 6]) (rest := [.long (((digS (digS (digS (digS (digS (digS (digWs q d0 k) ((factW q k 0))) ((factW q k 1))) ((factW q k 2))) ((factW q k 3))) ((factW q k 4))) ((factW q k 5))) * 31))]) (st1 := [.int ((factW q k 6)), .long (((digS (digS (digS (digS (digS (digS (digWs q d0 k) ((factW q k 0))) ((factW q k 1))) ((factW q k 2))) ((factW q k 3))) ((factW q k 4))) ((factW q k 5))) * 31))]) ⟨hx, hb, hml, hown, hts⟩ (c_X2_fact_6 l D y (E (5 + k)) q k) (cwV 1 hts gX3_digestOfWeirs_X2_fact rfl rfl rfl (by decide +kernel) ⟨Nat.le_of_ble_eq_true rfl, Nat.le_of_ble_eq_true rfl⟩) hK (z_sub_P hP (z_in_1 (k := 1 + (5 + k)) (z_apr (n := 1) rfl (z_apl (eW_w (by omega)))))) (ci := 2) (q0 := 0) rfl rfl rfl rfl hl.1 rfl (lv_room (Nat.le_of_ble_eq_true rfl)) dX3_digestOfWeirs_52 ⟨Nat.le_of_ble_eq_true rfl, Nat.le_of_ble_eq_true rfl⟩ rfl ?_
                      refine lv_i2l hx hb dX3_digestOfWeirs_55 rfl ?_
                      refine lv_ladd hx hb dX3_digestOfWeirs_56 ?_
                      refine zt_l (x' := (digS (digS (digS (digS (digS (digS (digS (digWs q d0 k) ((factW q k 0))) ((factW q k 1))) ((factW q k 2))) ((factW q k 3))) ((factW q k 4))) ((factW q k 5))) ((factW q k 6)))) rfl ?_
                      refine lv_lstore_n (lv' := [(3, .long ((digS (digS (digS (digS (digS (digS (digS (digWs q d0 k) ((factW q k 0))) ((factW q k 1))) ((factW q k 2))) ((factW q k 3))) ((factW q k 4))) ((factW q k 5))) ((factW q k 6))))), (7, .int 6), (6, .ref (E (5 + k))), (5, .int (nI k)), (0, .ref X0)]) hx hb dX3_digestOfWeirs_57 rfl hl (by decide) rfl (fun ls hl => ?_)
                      refine lv_iinc (v := 7) (lv' := [(7, .int 7), (3, .long ((digS (digS (digS (digS (digS (digS (digS (digWs q d0 k) ((factW q k 0))) ((factW q k 1))) ((factW q k 2))) ((factW q k 3))) ((factW q k 4))) ((factW q k 5))) ((factW q k 6))))), (6, .ref (E (5 + k))), (5, .int (nI k)), (0, .ref X0)]) hx hb dX3_digestOfWeirs_58 hl (k := 1) rfl (by decide) (by decide) rfl (fun ls hl => ?_)
                      refine lv_goto (tgt := 31) hx hb dX3_digestOfWeirs_61 (by decide) ?_
                      refine lv_iload hx hb dX3_digestOfWeirs_31 (lv_at hl 0 rfl) ?_
                      refine lv_bipush (v := 7) hx hb dX3_digestOfWeirs_33 (by decide) ?_
                      refine lv_icmp_gt (tgt := 64) hx hb dX3_digestOfWeirs_35 (by decide) (fun c11 => ?_) (fun c11 => ?_)
                      · exact absurd c11 (by decide)
                      · have d11 := Int32.not_lt.mp c11
                        refine lv_aload hx hb dX3_digestOfWeirs_38 (lv_at hl 2 rfl) ?_
                        refine lv_ifnull hx hb dX3_digestOfWeirs_40 ?_
                        refine lv_lload_n hx hb dX3_digestOfWeirs_43 rfl (lv_at hl 1 rfl) ?_
                        refine lv_ldc2 (v := 31) hx hb hown hk187 dX3_digestOfWeirs_44 ?_
                        refine lv_lmul hx hb dX3_digestOfWeirs_47 ?_
                        refine lv_aload hx hb dX3_digestOfWeirs_48 (lv_at hl 2 rfl) ?_
                        refine lv_iload hx hb dX3_digestOfWeirs_50 (lv_at hl 0 rfl) ?_
                        refine zcRV (As := [.int 7]) (rest := [.long (((digS (digS (digS (digS (digS (digS (digS (digWs q d0 k) ((factW q k 0))) ((factW q k 1))) ((factW q k 2))) ((factW q k 3))) ((factW q k 4))) ((factW q k 5))) ((factW q k 6))) * 31))]) (st1 := [.int ((factW q k 7)), .long (((digS (digS (digS (digS (digS (digS (digS (digWs q d0 k) ((factW q k 0))) ((factW q k 1))) ((factW q k 2))) ((factW q k 3))) ((factW q k 4))) ((factW q k 5))) ((factW q k 6))) * 31))]) ⟨hx, hb, hml, hown, hts⟩ (c_X2_fact_7 l D y (E (5 + k)) q k) (cwV 1 hts gX3_digestOfWeirs_X2_fact rfl rfl rfl (by decide +kernel) ⟨Nat.le_of_ble_eq_true rfl, Nat.le_of_ble_eq_true rfl⟩) hK (z_sub_P hP (z_in_1 (k := 1 + (5 + k)) (z_apr (n := 1) rfl (z_apl (eW_w (by omega)))))) (ci := 2) (q0 := 0) rfl rfl rfl rfl hl.1 rfl (lv_room (Nat.le_of_ble_eq_true rfl)) dX3_digestOfWeirs_52 ⟨Nat.le_of_ble_eq_true rfl, Nat.le_of_ble_eq_true rfl⟩ rfl ?_
                        refine lv_i2l hx hb dX3_digestOfWeirs_55 rfl ?_
                        refine lv_ladd hx hb dX3_digestOfWeirs_56 ?_
                        refine zt_l (x' := (digS (digS (digS (digS (digS (digS (digS (digS (digWs q d0 k) ((factW q k 0))) ((factW q k 1))) ((factW q k 2))) ((factW q k 3))) ((factW q k 4))) ((factW q k 5))) ((factW q k 6))) ((factW q k 7)))) rfl ?_
                        refine lv_lstore_n (lv' := [(3, .long ((digS (digS (digS (digS (digS (digS (digS (digS (digWs q d0 k) ((factW q k 0))) ((factW q k 1))) ((factW q k 2))) ((factW q k 3))) ((factW q k 4))) ((factW q k 5))) ((factW q k 6))) ((factW q k 7))))), (7, .int 7), (6, .ref (E (5 + k))), (5, .int (nI k)), (0, .ref X0)]) hx hb dX3_digestOfWeirs_57 rfl hl (by decide) rfl (fun ls hl => ?_)
                        refine lv_iinc (v := 8) (lv' := [(7, .int 8), (3, .long ((digS (digS (digS (digS (digS (digS (digS (digS (digWs q d0 k) ((factW q k 0))) ((factW q k 1))) ((factW q k 2))) ((factW q k 3))) ((factW q k 4))) ((factW q k 5))) ((factW q k 6))) ((factW q k 7))))), (6, .ref (E (5 + k))), (5, .int (nI k)), (0, .ref X0)]) hx hb dX3_digestOfWeirs_58 hl (k := 1) rfl (by decide) (by decide) rfl (fun ls hl => ?_)
                        refine lv_goto (tgt := 31) hx hb dX3_digestOfWeirs_61 (by decide) ?_
                        refine lv_iload hx hb dX3_digestOfWeirs_31 (lv_at hl 0 rfl) ?_
                        refine lv_bipush (v := 7) hx hb dX3_digestOfWeirs_33 (by decide) ?_
                        refine lv_icmp_gt (tgt := 64) hx hb dX3_digestOfWeirs_35 (by decide) (fun c12 => ?_) (fun c12 => ?_)
                        · have d12 := Int32.not_le.mpr c12
                          refine lv_iinc (v := nI (k + 1)) (lv' := [(5, .int (nI (k + 1))), (7, .int 8), (3, .long ((digS (digS (digS (digS (digS (digS (digS (digS (digWs q d0 k) ((factW q k 0))) ((factW q k 1))) ((factW q k 2))) ((factW q k 3))) ((factW q k 4))) ((factW q k 5))) ((factW q k 6))) ((factW q k 7))))), (6, .ref (E (5 + k))), (0, .ref X0)]) hx hb dX3_digestOfWeirs_64 hl (k := 3) rfl (nI_1 _) (by decide) rfl (fun ls hl => ?_)
                          refine lv_goto (tgt := 5) hx hb dX3_digestOfWeirs_67 (by decide) ?_
                          have e13 : (digWs q d0 (k + 1)) = (digS (digS (digS (digS (digS (digS (digS (digS (digWs q d0 k) ((factW q k 0))) ((factW q k 1))) ((factW q k 2))) ((factW q k 3))) ((factW q k 4))) ((factW q k 5))) ((factW q k 6))) ((factW q k 7))) := rfl
                          refine ihk ls ?_
                          simp only [e13]
                          exact lv_sub hl [0, 2, 4] rfl
                        · exact absurd (by decide) c12
  exact loop1 0 (Nat.zero_le _) ls (lv_sub hl [0, 1, 2] rfl)
set_option maxHeartbeats 4000000 in
set_option maxRecDepth 100000 in
theorem c_X3_digestOfBarges (l : Launch) (D : va_G) (y : Nat → ClassId) (X0 : Nat) (E E2 : Nat → Nat) (t : Nat → Int32) (o : Nat → Nat) (q b : Fld) (c bc n : Nat) (ar fi re : Int32) (T : TS) (d0 : Int64) (hc : c ≤ 6) (hbc : bc ≤ 5) : zR l yX3_digestOfBarges wsX3_digestOfBarges { frames := 4, cells := 0, slots := 0, locals := 88 } D y [.ref X0, .long d0] (sW X0 E E2 y t o q b c bc n ar fi re T) (some (.long (digBs q b c d0 bc))) := by
  refine zR.of (cc := cX3_digestOfBarges) (maxL := 8) (ret := (some .long)) (own := RX3) (by decide) rfl (Nat.le_of_ble_eq_true rfl) rfl ?_
  intro p e s m args below meth cd ls hx hb hr hml hown hts hlocks hP hK hl
  have hl : lv_has ls 8 [(0, .ref X0), (1, .long d0)] := hl
  have hf12 : (Cond.fieldLink RX3 12 "StakeWeirs" "now" "LStakeWeirs$Estuary;").before args s = true := hts _ (by decide +kernel)
  have hinX3 : ∀ w ∈ wsX30, w ∈ wsX3_digestOfBarges := by decide +kernel
  have hf108 : (Cond.fieldLink RX3 108 "StakeWeirs$Estuary" "bargeCount" "I").before args s = true := hts _ (by decide +kernel)
  have hinX1 : ∀ w ∈ wsX10, w ∈ wsX3_digestOfBarges := by decide +kernel
  have hk187 : (Cond.constantLong RX3 187 (31)).before args s = true := hts _ (by decide +kernel)
  refine lv_lload_n hx hb dX3_digestOfBarges_0 rfl (lv_at hl 1 rfl) ?_
  refine lv_lstore_n (lv' := [(3, .long d0), (0, .ref X0), (1, .long d0)]) hx hb dX3_digestOfBarges_1 rfl hl (by decide) rfl (fun ls hl => ?_)
  refine lv_iconst (v := 0) hx hb dX3_digestOfBarges_2 (by decide) ?_
  refine lv_istore (lv' := [(5, .int 0), (3, .long d0), (0, .ref X0), (1, .long d0)]) hx hb dX3_digestOfBarges_3 hl (by decide) rfl (fun ls hl => ?_)
  have loop1 : ∀ k, k ≤ bc → ∀ (ls : Array Slot), lv_has ls 8 [(5, .int (nI k)), (3, .long ((digBs q b c d0 k))), (0, .ref X0)] → W p l e ({ frames := 4, cells := 0, slots := 0, locals := 88 } : Room) s m args below meth cd s.heap [] 0 0 (MQ below (zRQ (some (.long (digBs q b c d0 bc)))) args s 0 0 (fun _ => False)) (F0 m 5 ls []) := by
    refine down ?_ ?_
    · intro ls hl
      refine lv_iload hx hb dX3_digestOfBarges_5 (lv_at hl 0 rfl) ?_
      refine lv_aload_n hx hb dX3_digestOfBarges_7 rfl (lv_at hl 2 rfl) ?_
      refine va_get (D := D) (ci := 3) (v := .ref (E 0)) (C := RX3) (T := TX3) (N := 2) hx hb hts hinX3 hown hK hP (0) rfl rfl 0 (by decide) hf12 (fun _ h9 => h9) rfl dX3_digestOfBarges_8 ?_
      refine va_get (D := D) (ci := 1) (v := .int (nI bc)) (C := RX1) (T := TX1) (N := 10) hx hb hts hinX1 hown hK hP (1 + (0)) (z_apr (n := 1) rfl (z_apl rfl)) rfl 5 (by decide) hf108 (fun _ h9 => h9) rfl dX3_digestOfBarges_11 ?_
      refine lv_icmp_ge (tgt := 73) hx hb dX3_digestOfBarges_14 (by decide) (fun c2 => ?_) (fun c2 => ?_)
      · have d2 := Int32.not_lt.mpr c2
        refine lv_lload_n hx hb dX3_digestOfBarges_73 rfl (lv_at hl 1 rfl) ?_
        exact zR_l hx hb hr hlocks dX3_digestOfBarges_74 rfl
      · exact absurd (nI_le (a := bc) (b := bc) (by omega) (by omega)) c2
    · intro k hkk ihk ls hl
      refine lv_iload hx hb dX3_digestOfBarges_5 (lv_at hl 0 rfl) ?_
      refine lv_aload_n hx hb dX3_digestOfBarges_7 rfl (lv_at hl 2 rfl) ?_
      refine va_get (D := D) (ci := 3) (v := .ref (E 0)) (C := RX3) (T := TX3) (N := 2) hx hb hts hinX3 hown hK hP (0) rfl rfl 0 (by decide) hf12 (fun _ h9 => h9) rfl dX3_digestOfBarges_8 ?_
      refine va_get (D := D) (ci := 1) (v := .int (nI bc)) (C := RX1) (T := TX1) (N := 10) hx hb hts hinX1 hown hK hP (1 + (0)) (z_apr (n := 1) rfl (z_apl rfl)) rfl 5 (by decide) hf108 (fun _ h9 => h9) rfl dX3_digestOfBarges_11 ?_
      refine lv_icmp_ge (tgt := 73) hx hb dX3_digestOfBarges_14 (by decide) (fun c3 => ?_) (fun c3 => ?_)
      · exact absurd c3 (nI_ge (a := k) (b := bc) (by omega) (by omega))
      · have d3 := Int32.not_le.mp c3
        refine lv_aload_n hx hb dX3_digestOfBarges_17 rfl (lv_at hl 2 rfl) ?_
        refine va_get (D := D) (ci := 3) (v := .ref (E 0)) (C := RX3) (T := TX3) (N := 2) hx hb hts hinX3 hown hK hP (0) rfl rfl 0 (by decide) hf12 (fun _ h9 => h9) rfl dX3_digestOfBarges_18 ?_
        refine lv_iload hx hb dX3_digestOfBarges_21 (lv_at hl 0 rfl) ?_
        refine zcRV (As := [.int (nI k)]) (rest := []) (st1 := [.ref (E (11 + k))]) ⟨hx, hb, hml, hown, hts⟩ (c_X1_bargeAt l D y E t o q b c bc n ar fi re k (by omega) (by omega)) (cwV 1 hts gX3_digestOfBarges_X1_bargeAt rfl rfl rfl (by decide +kernel) ⟨Nat.le_of_ble_eq_true rfl, Nat.le_of_ble_eq_true rfl⟩) hK (z_sub_P hP (fun z h => List.mem_append_right _ (List.mem_append_left _ h))) (ci := 1) (q0 := 0) rfl rfl rfl rfl hl.1 rfl (lv_room (Nat.le_of_ble_eq_true rfl)) dX3_digestOfBarges_23 ⟨Nat.le_of_ble_eq_true rfl, Nat.le_of_ble_eq_true rfl⟩ rfl ?_
        refine lv_astore (lv' := [(6, .ref (E (11 + k))), (5, .int (nI k)), (3, .long ((digBs q b c d0 k))), (0, .ref X0)]) hx hb dX3_digestOfBarges_26 hl (by decide) rfl (fun ls hl => ?_)
        refine lv_iconst (v := 0) hx hb dX3_digestOfBarges_28 (by decide) ?_
        refine lv_istore (lv' := [(7, .int 0), (6, .ref (E (11 + k))), (5, .int (nI k)), (3, .long ((digBs q b c d0 k))), (0, .ref X0)]) hx hb dX3_digestOfBarges_29 hl (by decide) rfl (fun ls hl => ?_)
        refine lv_iload hx hb dX3_digestOfBarges_31 (lv_at hl 0 rfl) ?_
        refine lv_iconst (v := 3) hx hb dX3_digestOfBarges_33 (by decide) ?_
        refine lv_icmp_gt (tgt := 67) hx hb dX3_digestOfBarges_34 (by decide) (fun c4 => ?_) (fun c4 => ?_)
        · exact absurd c4 (by decide)
        · have d4 := Int32.not_lt.mp c4
          refine lv_aload hx hb dX3_digestOfBarges_37 (lv_at hl 1 rfl) ?_
          refine lv_ifnull hx hb dX3_digestOfBarges_39 ?_
          refine lv_lload_n hx hb dX3_digestOfBarges_42 rfl (lv_at hl 3 rfl) ?_
          refine lv_ldc2 (v := 31) hx hb hown hk187 dX3_digestOfBarges_43 ?_
          refine lv_lmul hx hb dX3_digestOfBarges_46 ?_
          refine lv_aload_n hx hb dX3_digestOfBarges_47 rfl (lv_at hl 4 rfl) ?_
          refine va_get (D := D) (ci := 3) (v := .ref (E 0)) (C := RX3) (T := TX3) (N := 2) hx hb hts hinX3 hown hK hP (0) rfl rfl 0 (by decide) hf12 (fun _ h9 => h9) rfl dX3_digestOfBarges_48 ?_
          refine lv_aload hx hb dX3_digestOfBarges_51 (lv_at hl 1 rfl) ?_
          refine lv_iload hx hb dX3_digestOfBarges_53 (lv_at hl 0 rfl) ?_
          refine zcRV (As := [.ref (E (11 + k)), .int 0]) (rest := [.long (((digBs q b c d0 k) * 31))]) (st1 := [.int ((b 1 k)), .long (((digBs q b c d0 k) * 31))]) ⟨hx, hb, hml, hown, hts⟩ (c_X1_bargeFact_0 l D y E t o q b c bc n ar fi re k (by omega) (by omega)) (cwV 2 hts gX3_digestOfBarges_X1_bargeFact rfl rfl rfl (by decide +kernel) ⟨Nat.le_of_ble_eq_true rfl, Nat.le_of_ble_eq_true rfl⟩) hK (z_sub_P hP (fun z h => List.mem_append_right _ (List.mem_append_left _ h))) (ci := 1) (q0 := 0) rfl rfl rfl rfl hl.1 rfl (lv_room (Nat.le_of_ble_eq_true rfl)) dX3_digestOfBarges_55 ⟨Nat.le_of_ble_eq_true rfl, Nat.le_of_ble_eq_true rfl⟩ rfl ?_
          refine lv_i2l hx hb dX3_digestOfBarges_58 rfl ?_
          refine lv_ladd hx hb dX3_digestOfBarges_59 ?_
          refine zt_l (x' := (digS (digBs q b c d0 k) ((b 1 k)))) rfl ?_
          refine lv_lstore_n (lv' := [(3, .long ((digS (digBs q b c d0 k) ((b 1 k))))), (7, .int 0), (6, .ref (E (11 + k))), (5, .int (nI k)), (0, .ref X0)]) hx hb dX3_digestOfBarges_60 rfl hl (by decide) rfl (fun ls hl => ?_)
          refine lv_iinc (v := 1) (lv' := [(7, .int 1), (3, .long ((digS (digBs q b c d0 k) ((b 1 k))))), (6, .ref (E (11 + k))), (5, .int (nI k)), (0, .ref X0)]) hx hb dX3_digestOfBarges_61 hl (k := 1) rfl (by decide) (by decide) rfl (fun ls hl => ?_)
          refine lv_goto (tgt := 31) hx hb dX3_digestOfBarges_64 (by decide) ?_
          refine lv_iload hx hb dX3_digestOfBarges_31 (lv_at hl 0 rfl) ?_
          refine lv_iconst (v := 3) hx hb dX3_digestOfBarges_33 (by decide) ?_
          refine lv_icmp_gt (tgt := 67) hx hb dX3_digestOfBarges_34 (by decide) (fun c5 => ?_) (fun c5 => ?_)
          · exact absurd c5 (by decide)
          · have d5 := Int32.not_lt.mp c5
            refine lv_aload hx hb dX3_digestOfBarges_37 (lv_at hl 2 rfl) ?_
            refine lv_ifnull hx hb dX3_digestOfBarges_39 ?_
            refine lv_lload_n hx hb dX3_digestOfBarges_42 rfl (lv_at hl 1 rfl) ?_
            refine lv_ldc2 (v := 31) hx hb hown hk187 dX3_digestOfBarges_43 ?_
            refine lv_lmul hx hb dX3_digestOfBarges_46 ?_
            refine lv_aload_n hx hb dX3_digestOfBarges_47 rfl (lv_at hl 4 rfl) ?_
            refine va_get (D := D) (ci := 3) (v := .ref (E 0)) (C := RX3) (T := TX3) (N := 2) hx hb hts hinX3 hown hK hP (0) rfl rfl 0 (by decide) hf12 (fun _ h9 => h9) rfl dX3_digestOfBarges_48 ?_
            refine lv_aload hx hb dX3_digestOfBarges_51 (lv_at hl 2 rfl) ?_
            refine lv_iload hx hb dX3_digestOfBarges_53 (lv_at hl 0 rfl) ?_
            refine zcRV (As := [.ref (E (11 + k)), .int 1]) (rest := [.long (((digS (digBs q b c d0 k) ((b 1 k))) * 31))]) (st1 := [.int ((b 2 k)), .long (((digS (digBs q b c d0 k) ((b 1 k))) * 31))]) ⟨hx, hb, hml, hown, hts⟩ (c_X1_bargeFact_1 l D y E t o q b c bc n ar fi re k (by omega) (by omega)) (cwV 2 hts gX3_digestOfBarges_X1_bargeFact rfl rfl rfl (by decide +kernel) ⟨Nat.le_of_ble_eq_true rfl, Nat.le_of_ble_eq_true rfl⟩) hK (z_sub_P hP (fun z h => List.mem_append_right _ (List.mem_append_left _ h))) (ci := 1) (q0 := 0) rfl rfl rfl rfl hl.1 rfl (lv_room (Nat.le_of_ble_eq_true rfl)) dX3_digestOfBarges_55 ⟨Nat.le_of_ble_eq_true rfl, Nat.le_of_ble_eq_true rfl⟩ rfl ?_
            refine lv_i2l hx hb dX3_digestOfBarges_58 rfl ?_
            refine lv_ladd hx hb dX3_digestOfBarges_59 ?_
            refine zt_l (x' := (digS (digS (digBs q b c d0 k) ((b 1 k))) ((b 2 k)))) rfl ?_
            refine lv_lstore_n (lv' := [(3, .long ((digS (digS (digBs q b c d0 k) ((b 1 k))) ((b 2 k))))), (7, .int 1), (6, .ref (E (11 + k))), (5, .int (nI k)), (0, .ref X0)]) hx hb dX3_digestOfBarges_60 rfl hl (by decide) rfl (fun ls hl => ?_)
            refine lv_iinc (v := 2) (lv' := [(7, .int 2), (3, .long ((digS (digS (digBs q b c d0 k) ((b 1 k))) ((b 2 k))))), (6, .ref (E (11 + k))), (5, .int (nI k)), (0, .ref X0)]) hx hb dX3_digestOfBarges_61 hl (k := 1) rfl (by decide) (by decide) rfl (fun ls hl => ?_)
            refine lv_goto (tgt := 31) hx hb dX3_digestOfBarges_64 (by decide) ?_
            refine lv_iload hx hb dX3_digestOfBarges_31 (lv_at hl 0 rfl) ?_
            refine lv_iconst (v := 3) hx hb dX3_digestOfBarges_33 (by decide) ?_
            refine lv_icmp_gt (tgt := 67) hx hb dX3_digestOfBarges_34 (by decide) (fun c6 => ?_) (fun c6 => ?_)
            · exact absurd c6 (by decide)
            · have d6 := Int32.not_lt.mp c6
              refine lv_aload hx hb dX3_digestOfBarges_37 (lv_at hl 2 rfl) ?_
              refine lv_ifnull hx hb dX3_digestOfBarges_39 ?_
              refine lv_lload_n hx hb dX3_digestOfBarges_42 rfl (lv_at hl 1 rfl) ?_
              refine lv_ldc2 (v := 31) hx hb hown hk187 dX3_digestOfBarges_43 ?_
              refine lv_lmul hx hb dX3_digestOfBarges_46 ?_
              refine lv_aload_n hx hb dX3_digestOfBarges_47 rfl (lv_at hl 4 rfl) ?_
              refine va_get (D := D) (ci := 3) (v := .ref (E 0)) (C := RX3) (T := TX3) (N := 2) hx hb hts hinX3 hown hK hP (0) rfl rfl 0 (by decide) hf12 (fun _ h9 => h9) rfl dX3_digestOfBarges_48 ?_
              refine lv_aload hx hb dX3_digestOfBarges_51 (lv_at hl 2 rfl) ?_
              refine lv_iload hx hb dX3_digestOfBarges_53 (lv_at hl 0 rfl) ?_
              refine zcRV (As := [.ref (E (11 + k)), .int 2]) (rest := [.long (((digS (digS (digBs q b c d0 k) ((b 1 k))) ((b 2 k))) * 31))]) (st1 := [.int ((b 3 k)), .long (((digS (digS (digBs q b c d0 k) ((b 1 k))) ((b 2 k))) * 31))]) ⟨hx, hb, hml, hown, hts⟩ (c_X1_bargeFact_2 l D y E t o q b c bc n ar fi re k (by omega) (by omega)) (cwV 2 hts gX3_digestOfBarges_X1_bargeFact rfl rfl rfl (by decide +kernel) ⟨Nat.le_of_ble_eq_true rfl, Nat.le_of_ble_eq_true rfl⟩) hK (z_sub_P hP (fun z h => List.mem_append_right _ (List.mem_append_left _ h))) (ci := 1) (q0 := 0) rfl rfl rfl rfl hl.1 rfl (lv_room (Nat.le_of_ble_eq_true rfl)) dX3_digestOfBarges_55 ⟨Nat.le_of_ble_eq_true rfl, Nat.le_of_ble_eq_true rfl⟩ rfl ?_
              refine lv_i2l hx hb dX3_digestOfBarges_58 rfl ?_
              refine lv_ladd hx hb dX3_digestOfBarges_59 ?_
              refine zt_l (x' := (digS (digS (digS (digBs q b c d0 k) ((b 1 k))) ((b 2 k))) ((b 3 k)))) rfl ?_
              refine lv_lstore_n (lv' := [(3, .long ((digS (digS (digS (digBs q b c d0 k) ((b 1 k))) ((b 2 k))) ((b 3 k))))), (7, .int 2), (6, .ref (E (11 + k))), (5, .int (nI k)), (0, .ref X0)]) hx hb dX3_digestOfBarges_60 rfl hl (by decide) rfl (fun ls hl => ?_)
              refine lv_iinc (v := 3) (lv' := [(7, .int 3), (3, .long ((digS (digS (digS (digBs q b c d0 k) ((b 1 k))) ((b 2 k))) ((b 3 k))))), (6, .ref (E (11 + k))), (5, .int (nI k)), (0, .ref X0)]) hx hb dX3_digestOfBarges_61 hl (k := 1) rfl (by decide) (by decide) rfl (fun ls hl => ?_)
              refine lv_goto (tgt := 31) hx hb dX3_digestOfBarges_64 (by decide) ?_
              refine lv_iload hx hb dX3_digestOfBarges_31 (lv_at hl 0 rfl) ?_
              refine lv_iconst (v := 3) hx hb dX3_digestOfBarges_33 (by decide) ?_
              refine lv_icmp_gt (tgt := 67) hx hb dX3_digestOfBarges_34 (by decide) (fun c7 => ?_) (fun c7 => ?_)
              · exact absurd c7 (by decide)
              · have d7 := Int32.not_lt.mp c7
                refine lv_aload hx hb dX3_digestOfBarges_37 (lv_at hl 2 rfl) ?_
                refine lv_ifnull hx hb dX3_digestOfBarges_39 ?_
                refine lv_lload_n hx hb dX3_digestOfBarges_42 rfl (lv_at hl 1 rfl) ?_
                refine lv_ldc2 (v := 31) hx hb hown hk187 dX3_digestOfBarges_43 ?_
                refine lv_lmul hx hb dX3_digestOfBarges_46 ?_
                refine lv_aload_n hx hb dX3_digestOfBarges_47 rfl (lv_at hl 4 rfl) ?_
                refine va_get (D := D) (ci := 3) (v := .ref (E 0)) (C := RX3) (T := TX3) (N := 2) hx hb hts hinX3 hown hK hP (0) rfl rfl 0 (by decide) hf12 (fun _ h9 => h9) rfl dX3_digestOfBarges_48 ?_
                refine lv_aload hx hb dX3_digestOfBarges_51 (lv_at hl 2 rfl) ?_
                refine lv_iload hx hb dX3_digestOfBarges_53 (lv_at hl 0 rfl) ?_
                refine zcRV (As := [.ref (E (11 + k)), .int 3]) (rest := [.long (((digS (digS (digS (digBs q b c d0 k) ((b 1 k))) ((b 2 k))) ((b 3 k))) * 31))]) (st1 := [.int ((nextE q c (b 2 k) (b 1 k)).1), .long (((digS (digS (digS (digBs q b c d0 k) ((b 1 k))) ((b 2 k))) ((b 3 k))) * 31))]) ⟨hx, hb, hml, hown, hts⟩ (c_X1_bargeFact_3 l D y E t o q b c bc n ar fi re k (by omega) (by omega)) (cwV 2 hts gX3_digestOfBarges_X1_bargeFact rfl rfl rfl (by decide +kernel) ⟨Nat.le_of_ble_eq_true rfl, Nat.le_of_ble_eq_true rfl⟩) hK (z_sub_P hP (fun z h => List.mem_append_right _ (List.mem_append_left _ h))) (ci := 1) (q0 := 0) rfl rfl rfl rfl hl.1 rfl (lv_room (Nat.le_of_ble_eq_true rfl)) dX3_digestOfBarges_55 ⟨Nat.le_of_ble_eq_true rfl, Nat.le_of_ble_eq_true rfl⟩ rfl ?_
                refine lv_i2l hx hb dX3_digestOfBarges_58 rfl ?_
                refine lv_ladd hx hb dX3_digestOfBarges_59 ?_
                refine zt_l (x' := (digS (digS (digS (digS (digBs q b c d0 k) ((b 1 k))) ((b 2 k))) ((b 3 k))) ((nextE q c (b 2 k) (b 1 k)).1))) rfl ?_
                refine lv_lstore_n (lv' := [(3, .long ((digS (digS (digS (digS (digBs q b c d0 k) ((b 1 k))) ((b 2 k))) ((b 3 k))) ((nextE q c (b 2 k) (b 1 k)).1)))), (7, .int 3), (6, .ref (E (11 + k))), (5, .int (nI k)), (0, .ref X0)]) hx hb dX3_digestOfBarges_60 rfl hl (by decide) rfl (fun ls hl => ?_)
                refine lv_iinc (v := 4) (lv' := [(7, .int 4), (3, .long ((digS (digS (digS (digS (digBs q b c d0 k) ((b 1 k))) ((b 2 k))) ((b 3 k))) ((nextE q c (b 2 k) (b 1 k)).1)))), (6, .ref (E (11 + k))), (5, .int (nI k)), (0, .ref X0)]) hx hb dX3_digestOfBarges_61 hl (k := 1) rfl (by decide) (by decide) rfl (fun ls hl => ?_)
                refine lv_goto (tgt := 31) hx hb dX3_digestOfBarges_64 (by decide) ?_
                refine lv_iload hx hb dX3_digestOfBarges_31 (lv_at hl 0 rfl) ?_
                refine lv_iconst (v := 3) hx hb dX3_digestOfBarges_33 (by decide) ?_
                refine lv_icmp_gt (tgt := 67) hx hb dX3_digestOfBarges_34 (by decide) (fun c8 => ?_) (fun c8 => ?_)
                · have d8 := Int32.not_le.mpr c8
                  refine lv_iinc (v := nI (k + 1)) (lv' := [(5, .int (nI (k + 1))), (7, .int 4), (3, .long ((digS (digS (digS (digS (digBs q b c d0 k) ((b 1 k))) ((b 2 k))) ((b 3 k))) ((nextE q c (b 2 k) (b 1 k)).1)))), (6, .ref (E (11 + k))), (0, .ref X0)]) hx hb dX3_digestOfBarges_67 hl (k := 3) rfl (nI_1 _) (by decide) rfl (fun ls hl => ?_)
                  refine lv_goto (tgt := 5) hx hb dX3_digestOfBarges_70 (by decide) ?_
                  have e9 : (digBs q b c d0 (k + 1)) = (digS (digS (digS (digS (digBs q b c d0 k) ((b 1 k))) ((b 2 k))) ((b 3 k))) ((nextE q c (b 2 k) (b 1 k)).1)) := rfl
                  refine ihk ls ?_
                  simp only [e9]
                  exact lv_sub hl [0, 2, 4] rfl
                · exact absurd (by decide) c8
  exact loop1 0 (Nat.zero_le _) ls (lv_sub hl [0, 1, 2] rfl)
def dig17 (t : Nat → Int32) (q : Fld) (c bc n : Nat) (ar fi re : Int32) : Int64 := (digS (digS (digS (digS (digS (digS (digS (digS (digS (digS (digS (digS (digS (digS (digS (digS (digS 1409 (nI n)) (moonI n)) (runI t n)) (nI c)) (heldN q c)) (nI bc)) ar) fi) re) (eelsN q c)) (t 0)) (t 1)) (t 2)) (t 3)) (t 4)) (t 5)) (t 6))
def digE (t : Nat → Int32) (q b : Fld) (c bc n : Nat) (ar fi re : Int32) : Int64 := digBs q b c (digWs q (dig17 t q c bc n ar fi re) c) bc
set_option maxHeartbeats 4000000 in
set_option maxRecDepth 100000 in
theorem c_X3_digest (l : Launch) (D : va_G) (y : Nat → ClassId) (X0 : Nat) (E E2 : Nat → Nat) (t : Nat → Int32) (o : Nat → Nat) (q b : Fld) (c bc n : Nat) (ar fi re : Int32) (T : TS) (hc : c ≤ 6) (hbc : bc ≤ 5) (hn : n < 2147483648) : zR l yX3_digest wsX3_digest { frames := 5, cells := 0, slots := 0, locals := 115 } D y [.ref X0] (sW X0 E E2 y t o q b c bc n ar fi re T) (some (.long (digE t q b c bc n ar fi re))) := by
  refine zR.of (cc := cX3_digest) (maxL := 4) (ret := (some .long)) (own := RX3) (by decide) rfl (Nat.le_of_ble_eq_true rfl) rfl ?_
  intro p e s m args below meth cd ls hx hb hr hml hown hts hlocks hP hK hl
  have hl : lv_has ls 4 [(0, .ref X0)] := hl
  have hk185 : (Cond.constantLong RX3 185 (1409)).before args s = true := hts _ (by decide +kernel)
  have hk187 : (Cond.constantLong RX3 187 (31)).before args s = true := hts _ (by decide +kernel)
  have hf12 : (Cond.fieldLink RX3 12 "StakeWeirs" "now" "LStakeWeirs$Estuary;").before args s = true := hts _ (by decide +kernel)
  have hinX3 : ∀ w ∈ wsX30, w ∈ wsX3_digest := by decide +kernel
  refine lv_ldc2 (v := 1409) hx hb hown hk185 dX3_digest_0 ?_
  refine lv_lstore_n (lv' := [(1, .long 1409), (0, .ref X0)]) hx hb dX3_digest_3 rfl hl (by decide) rfl (fun ls hl => ?_)
  refine lv_iconst (v := 0) hx hb dX3_digest_4 (by decide) ?_
  refine lv_istore_n (lv' := [(3, .int 0), (1, .long 1409), (0, .ref X0)]) hx hb dX3_digest_5 rfl hl (by decide) rfl (fun ls hl => ?_)
  refine lv_iload_n hx hb dX3_digest_6 rfl (lv_at hl 0 rfl) ?_
  refine lv_bipush (v := 9) hx hb dX3_digest_7 (by decide) ?_
  refine lv_icmp_gt (tgt := 34) hx hb dX3_digest_9 (by decide) (fun c1 => ?_) (fun c1 => ?_)
  · exact absurd c1 (by decide)
  · have d1 := Int32.not_lt.mp c1
    refine lv_lload_n hx hb dX3_digest_12 rfl (lv_at hl 1 rfl) ?_
    refine lv_ldc2 (v := 31) hx hb hown hk187 dX3_digest_13 ?_
    refine lv_lmul hx hb dX3_digest_16 ?_
    refine lv_aload_n hx hb dX3_digest_17 rfl (lv_at hl 2 rfl) ?_
    refine va_get (D := D) (ci := 3) (v := .ref (E 0)) (C := RX3) (T := TX3) (N := 2) hx hb hts hinX3 hown hK hP (0) rfl rfl 0 (by decide) hf12 (fun _ h9 => h9) rfl dX3_digest_18 ?_
    refine lv_iload_n hx hb dX3_digest_21 rfl (lv_at hl 0 rfl) ?_
    refine zcRV (As := [.int 0]) (rest := [.long ((1409 * 31))]) (st1 := [.int (nI n), .long ((1409 * 31))]) ⟨hx, hb, hml, hown, hts⟩ (c_X1_fact_0 l D y E t o q b c bc n ar fi re  (by omega) (by omega)) (cwV 1 hts gX3_digest_X1_fact rfl rfl rfl (by decide +kernel) ⟨Nat.le_of_ble_eq_true rfl, Nat.le_of_ble_eq_true rfl⟩) hK (z_sub_P hP (fun z h => List.mem_append_right _ (List.mem_append_left _ h))) (ci := 1) (q0 := 0) rfl rfl rfl rfl hl.1 rfl (lv_room (Nat.le_of_ble_eq_true rfl)) dX3_digest_22 ⟨Nat.le_of_ble_eq_true rfl, Nat.le_of_ble_eq_true rfl⟩ rfl ?_
    refine lv_i2l hx hb dX3_digest_25 rfl ?_
    refine lv_ladd hx hb dX3_digest_26 ?_
    refine zt_l (x' := (digS 1409 (nI n))) rfl ?_
    refine lv_lstore_n (lv' := [(1, .long ((digS 1409 (nI n)))), (3, .int 0), (0, .ref X0)]) hx hb dX3_digest_27 rfl hl (by decide) rfl (fun ls hl => ?_)
    refine lv_iinc (v := 1) (lv' := [(3, .int 1), (1, .long ((digS 1409 (nI n)))), (0, .ref X0)]) hx hb dX3_digest_28 hl (k := 1) rfl (by decide) (by decide) rfl (fun ls hl => ?_)
    refine lv_goto (tgt := 6) hx hb dX3_digest_31 (by decide) ?_
    refine lv_iload_n hx hb dX3_digest_6 rfl (lv_at hl 0 rfl) ?_
    refine lv_bipush (v := 9) hx hb dX3_digest_7 (by decide) ?_
    refine lv_icmp_gt (tgt := 34) hx hb dX3_digest_9 (by decide) (fun c2 => ?_) (fun c2 => ?_)
    · exact absurd c2 (by decide)
    · have d2 := Int32.not_lt.mp c2
      refine lv_lload_n hx hb dX3_digest_12 rfl (lv_at hl 1 rfl) ?_
      refine lv_ldc2 (v := 31) hx hb hown hk187 dX3_digest_13 ?_
      refine lv_lmul hx hb dX3_digest_16 ?_
      refine lv_aload_n hx hb dX3_digest_17 rfl (lv_at hl 2 rfl) ?_
      refine va_get (D := D) (ci := 3) (v := .ref (E 0)) (C := RX3) (T := TX3) (N := 2) hx hb hts hinX3 hown hK hP (0) rfl rfl 0 (by decide) hf12 (fun _ h9 => h9) rfl dX3_digest_18 ?_
      refine lv_iload_n hx hb dX3_digest_21 rfl (lv_at hl 0 rfl) ?_
      refine zcRV (As := [.int 1]) (rest := [.long (((digS 1409 (nI n)) * 31))]) (st1 := [.int ((moonI n)), .long (((digS 1409 (nI n)) * 31))]) ⟨hx, hb, hml, hown, hts⟩ (c_X1_fact_1 l D y E t o q b c bc n ar fi re  (by omega) (by omega)) (cwV 1 hts gX3_digest_X1_fact rfl rfl rfl (by decide +kernel) ⟨Nat.le_of_ble_eq_true rfl, Nat.le_of_ble_eq_true rfl⟩) hK (z_sub_P hP (fun z h => List.mem_append_right _ (List.mem_append_left _ h))) (ci := 1) (q0 := 0) rfl rfl rfl rfl hl.1 rfl (lv_room (Nat.le_of_ble_eq_true rfl)) dX3_digest_22 ⟨Nat.le_of_ble_eq_true rfl, Nat.le_of_ble_eq_true rfl⟩ rfl ?_
      refine lv_i2l hx hb dX3_digest_25 rfl ?_
      refine lv_ladd hx hb dX3_digest_26 ?_
      refine zt_l (x' := (digS (digS 1409 (nI n)) ((moonI n)))) rfl ?_
      refine lv_lstore_n (lv' := [(1, .long ((digS (digS 1409 (nI n)) ((moonI n))))), (3, .int 1), (0, .ref X0)]) hx hb dX3_digest_27 rfl hl (by decide) rfl (fun ls hl => ?_)
      refine lv_iinc (v := 2) (lv' := [(3, .int 2), (1, .long ((digS (digS 1409 (nI n)) ((moonI n))))), (0, .ref X0)]) hx hb dX3_digest_28 hl (k := 1) rfl (by decide) (by decide) rfl (fun ls hl => ?_)
      refine lv_goto (tgt := 6) hx hb dX3_digest_31 (by decide) ?_
      refine lv_iload_n hx hb dX3_digest_6 rfl (lv_at hl 0 rfl) ?_
      refine lv_bipush (v := 9) hx hb dX3_digest_7 (by decide) ?_
      refine lv_icmp_gt (tgt := 34) hx hb dX3_digest_9 (by decide) (fun c3 => ?_) (fun c3 => ?_)
      · exact absurd c3 (by decide)
      · have d3 := Int32.not_lt.mp c3
        refine lv_lload_n hx hb dX3_digest_12 rfl (lv_at hl 1 rfl) ?_
        refine lv_ldc2 (v := 31) hx hb hown hk187 dX3_digest_13 ?_
        refine lv_lmul hx hb dX3_digest_16 ?_
        refine lv_aload_n hx hb dX3_digest_17 rfl (lv_at hl 2 rfl) ?_
        refine va_get (D := D) (ci := 3) (v := .ref (E 0)) (C := RX3) (T := TX3) (N := 2) hx hb hts hinX3 hown hK hP (0) rfl rfl 0 (by decide) hf12 (fun _ h9 => h9) rfl dX3_digest_18 ?_
        refine lv_iload_n hx hb dX3_digest_21 rfl (lv_at hl 0 rfl) ?_
        refine zcRV (As := [.int 2]) (rest := [.long (((digS (digS 1409 (nI n)) ((moonI n))) * 31))]) (st1 := [.int ((runI t n)), .long (((digS (digS 1409 (nI n)) ((moonI n))) * 31))]) ⟨hx, hb, hml, hown, hts⟩ (c_X1_fact_2 l D y E t o q b c bc n ar fi re  (by omega) (by omega)) (cwV 1 hts gX3_digest_X1_fact rfl rfl rfl (by decide +kernel) ⟨Nat.le_of_ble_eq_true rfl, Nat.le_of_ble_eq_true rfl⟩) hK (z_sub_P hP (fun z h => List.mem_append_right _ (List.mem_append_left _ h))) (ci := 1) (q0 := 0) rfl rfl rfl rfl hl.1 rfl (lv_room (Nat.le_of_ble_eq_true rfl)) dX3_digest_22 ⟨Nat.le_of_ble_eq_true rfl, Nat.le_of_ble_eq_true rfl⟩ rfl ?_
        refine lv_i2l hx hb dX3_digest_25 rfl ?_
        refine lv_ladd hx hb dX3_digest_26 ?_
        refine zt_l (x' := (digS (digS (digS 1409 (nI n)) ((moonI n))) ((runI t n)))) rfl ?_
        refine lv_lstore_n (lv' := [(1, .long ((digS (digS (digS 1409 (nI n)) ((moonI n))) ((runI t n))))), (3, .int 2), (0, .ref X0)]) hx hb dX3_digest_27 rfl hl (by decide) rfl (fun ls hl => ?_)
        refine lv_iinc (v := 3) (lv' := [(3, .int 3), (1, .long ((digS (digS (digS 1409 (nI n)) ((moonI n))) ((runI t n))))), (0, .ref X0)]) hx hb dX3_digest_28 hl (k := 1) rfl (by decide) (by decide) rfl (fun ls hl => ?_)
        refine lv_goto (tgt := 6) hx hb dX3_digest_31 (by decide) ?_
        refine lv_iload_n hx hb dX3_digest_6 rfl (lv_at hl 0 rfl) ?_
        refine lv_bipush (v := 9) hx hb dX3_digest_7 (by decide) ?_
        refine lv_icmp_gt (tgt := 34) hx hb dX3_digest_9 (by decide) (fun c4 => ?_) (fun c4 => ?_)
        · exact absurd c4 (by decide)
        · have d4 := Int32.not_lt.mp c4
          refine lv_lload_n hx hb dX3_digest_12 rfl (lv_at hl 1 rfl) ?_
          refine lv_ldc2 (v := 31) hx hb hown hk187 dX3_digest_13 ?_
          refine lv_lmul hx hb dX3_digest_16 ?_
          refine lv_aload_n hx hb dX3_digest_17 rfl (lv_at hl 2 rfl) ?_
          refine va_get (D := D) (ci := 3) (v := .ref (E 0)) (C := RX3) (T := TX3) (N := 2) hx hb hts hinX3 hown hK hP (0) rfl rfl 0 (by decide) hf12 (fun _ h9 => h9) rfl dX3_digest_18 ?_
          refine lv_iload_n hx hb dX3_digest_21 rfl (lv_at hl 0 rfl) ?_
          refine zcRV (As := [.int 3]) (rest := [.long (((digS (digS (digS 1409 (nI n)) ((moonI n))) ((runI t n))) * 31))]) (st1 := [.int (nI c), .long (((digS (digS (digS 1409 (nI n)) ((moonI n))) ((runI t n))) * 31))]) ⟨hx, hb, hml, hown, hts⟩ (c_X1_fact_3 l D y E t o q b c bc n ar fi re  (by omega) (by omega)) (cwV 1 hts gX3_digest_X1_fact rfl rfl rfl (by decide +kernel) ⟨Nat.le_of_ble_eq_true rfl, Nat.le_of_ble_eq_true rfl⟩) hK (z_sub_P hP (fun z h => List.mem_append_right _ (List.mem_append_left _ h))) (ci := 1) (q0 := 0) rfl rfl rfl rfl hl.1 rfl (lv_room (Nat.le_of_ble_eq_true rfl)) dX3_digest_22 ⟨Nat.le_of_ble_eq_true rfl, Nat.le_of_ble_eq_true rfl⟩ rfl ?_
          refine lv_i2l hx hb dX3_digest_25 rfl ?_
          refine lv_ladd hx hb dX3_digest_26 ?_
          refine zt_l (x' := (digS (digS (digS (digS 1409 (nI n)) ((moonI n))) ((runI t n))) (nI c))) rfl ?_
          refine lv_lstore_n (lv' := [(1, .long ((digS (digS (digS (digS 1409 (nI n)) ((moonI n))) ((runI t n))) (nI c)))), (3, .int 3), (0, .ref X0)]) hx hb dX3_digest_27 rfl hl (by decide) rfl (fun ls hl => ?_)
          refine lv_iinc (v := 4) (lv' := [(3, .int 4), (1, .long ((digS (digS (digS (digS 1409 (nI n)) ((moonI n))) ((runI t n))) (nI c)))), (0, .ref X0)]) hx hb dX3_digest_28 hl (k := 1) rfl (by decide) (by decide) rfl (fun ls hl => ?_)
          refine lv_goto (tgt := 6) hx hb dX3_digest_31 (by decide) ?_
          refine lv_iload_n hx hb dX3_digest_6 rfl (lv_at hl 0 rfl) ?_
          refine lv_bipush (v := 9) hx hb dX3_digest_7 (by decide) ?_
          refine lv_icmp_gt (tgt := 34) hx hb dX3_digest_9 (by decide) (fun c5 => ?_) (fun c5 => ?_)
          · exact absurd c5 (by decide)
          · have d5 := Int32.not_lt.mp c5
            refine lv_lload_n hx hb dX3_digest_12 rfl (lv_at hl 1 rfl) ?_
            refine lv_ldc2 (v := 31) hx hb hown hk187 dX3_digest_13 ?_
            refine lv_lmul hx hb dX3_digest_16 ?_
            refine lv_aload_n hx hb dX3_digest_17 rfl (lv_at hl 2 rfl) ?_
            refine va_get (D := D) (ci := 3) (v := .ref (E 0)) (C := RX3) (T := TX3) (N := 2) hx hb hts hinX3 hown hK hP (0) rfl rfl 0 (by decide) hf12 (fun _ h9 => h9) rfl dX3_digest_18 ?_
            refine lv_iload_n hx hb dX3_digest_21 rfl (lv_at hl 0 rfl) ?_
            refine zcRV (As := [.int 4]) (rest := [.long (((digS (digS (digS (digS 1409 (nI n)) ((moonI n))) ((runI t n))) (nI c)) * 31))]) (st1 := [.int ((heldN q c)), .long (((digS (digS (digS (digS 1409 (nI n)) ((moonI n))) ((runI t n))) (nI c)) * 31))]) ⟨hx, hb, hml, hown, hts⟩ (c_X1_fact_4 l D y E t o q b c bc n ar fi re  (by omega) (by omega)) (cwV 1 hts gX3_digest_X1_fact rfl rfl rfl (by decide +kernel) ⟨Nat.le_of_ble_eq_true rfl, Nat.le_of_ble_eq_true rfl⟩) hK (z_sub_P hP (fun z h => List.mem_append_right _ (List.mem_append_left _ h))) (ci := 1) (q0 := 0) rfl rfl rfl rfl hl.1 rfl (lv_room (Nat.le_of_ble_eq_true rfl)) dX3_digest_22 ⟨Nat.le_of_ble_eq_true rfl, Nat.le_of_ble_eq_true rfl⟩ rfl ?_
            refine lv_i2l hx hb dX3_digest_25 rfl ?_
            refine lv_ladd hx hb dX3_digest_26 ?_
            refine zt_l (x' := (digS (digS (digS (digS (digS 1409 (nI n)) ((moonI n))) ((runI t n))) (nI c)) ((heldN q c)))) rfl ?_
            refine lv_lstore_n (lv' := [(1, .long ((digS (digS (digS (digS (digS 1409 (nI n)) ((moonI n))) ((runI t n))) (nI c)) ((heldN q c))))), (3, .int 4), (0, .ref X0)]) hx hb dX3_digest_27 rfl hl (by decide) rfl (fun ls hl => ?_)
            refine lv_iinc (v := 5) (lv' := [(3, .int 5), (1, .long ((digS (digS (digS (digS (digS 1409 (nI n)) ((moonI n))) ((runI t n))) (nI c)) ((heldN q c))))), (0, .ref X0)]) hx hb dX3_digest_28 hl (k := 1) rfl (by decide) (by decide) rfl (fun ls hl => ?_)
            refine lv_goto (tgt := 6) hx hb dX3_digest_31 (by decide) ?_
            refine lv_iload_n hx hb dX3_digest_6 rfl (lv_at hl 0 rfl) ?_
            refine lv_bipush (v := 9) hx hb dX3_digest_7 (by decide) ?_
            refine lv_icmp_gt (tgt := 34) hx hb dX3_digest_9 (by decide) (fun c6 => ?_) (fun c6 => ?_)
            · exact absurd c6 (by decide)
            · have d6 := Int32.not_lt.mp c6
              refine lv_lload_n hx hb dX3_digest_12 rfl (lv_at hl 1 rfl) ?_
              refine lv_ldc2 (v := 31) hx hb hown hk187 dX3_digest_13 ?_
              refine lv_lmul hx hb dX3_digest_16 ?_
              refine lv_aload_n hx hb dX3_digest_17 rfl (lv_at hl 2 rfl) ?_
              refine va_get (D := D) (ci := 3) (v := .ref (E 0)) (C := RX3) (T := TX3) (N := 2) hx hb hts hinX3 hown hK hP (0) rfl rfl 0 (by decide) hf12 (fun _ h9 => h9) rfl dX3_digest_18 ?_
              refine lv_iload_n hx hb dX3_digest_21 rfl (lv_at hl 0 rfl) ?_
              refine zcRV (As := [.int 5]) (rest := [.long (((digS (digS (digS (digS (digS 1409 (nI n)) ((moonI n))) ((runI t n))) (nI c)) ((heldN q c))) * 31))]) (st1 := [.int (nI bc), .long (((digS (digS (digS (digS (digS 1409 (nI n)) ((moonI n))) ((runI t n))) (nI c)) ((heldN q c))) * 31))]) ⟨hx, hb, hml, hown, hts⟩ (c_X1_fact_5 l D y E t o q b c bc n ar fi re  (by omega) (by omega)) (cwV 1 hts gX3_digest_X1_fact rfl rfl rfl (by decide +kernel) ⟨Nat.le_of_ble_eq_true rfl, Nat.le_of_ble_eq_true rfl⟩) hK (z_sub_P hP (fun z h => List.mem_append_right _ (List.mem_append_left _ h))) (ci := 1) (q0 := 0) rfl rfl rfl rfl hl.1 rfl (lv_room (Nat.le_of_ble_eq_true rfl)) dX3_digest_22 ⟨Nat.le_of_ble_eq_true rfl, Nat.le_of_ble_eq_true rfl⟩ rfl ?_
              refine lv_i2l hx hb dX3_digest_25 rfl ?_
              refine lv_ladd hx hb dX3_digest_26 ?_
              refine zt_l (x' := (digS (digS (digS (digS (digS (digS 1409 (nI n)) ((moonI n))) ((runI t n))) (nI c)) ((heldN q c))) (nI bc))) rfl ?_
              refine lv_lstore_n (lv' := [(1, .long ((digS (digS (digS (digS (digS (digS 1409 (nI n)) ((moonI n))) ((runI t n))) (nI c)) ((heldN q c))) (nI bc)))), (3, .int 5), (0, .ref X0)]) hx hb dX3_digest_27 rfl hl (by decide) rfl (fun ls hl => ?_)
              refine lv_iinc (v := 6) (lv' := [(3, .int 6), (1, .long ((digS (digS (digS (digS (digS (digS 1409 (nI n)) ((moonI n))) ((runI t n))) (nI c)) ((heldN q c))) (nI bc)))), (0, .ref X0)]) hx hb dX3_digest_28 hl (k := 1) rfl (by decide) (by decide) rfl (fun ls hl => ?_)
              refine lv_goto (tgt := 6) hx hb dX3_digest_31 (by decide) ?_
              refine lv_iload_n hx hb dX3_digest_6 rfl (lv_at hl 0 rfl) ?_
              refine lv_bipush (v := 9) hx hb dX3_digest_7 (by decide) ?_
              refine lv_icmp_gt (tgt := 34) hx hb dX3_digest_9 (by decide) (fun c7 => ?_) (fun c7 => ?_)
              · exact absurd c7 (by decide)
              · have d7 := Int32.not_lt.mp c7
                refine lv_lload_n hx hb dX3_digest_12 rfl (lv_at hl 1 rfl) ?_
                refine lv_ldc2 (v := 31) hx hb hown hk187 dX3_digest_13 ?_
                refine lv_lmul hx hb dX3_digest_16 ?_
                refine lv_aload_n hx hb dX3_digest_17 rfl (lv_at hl 2 rfl) ?_
                refine va_get (D := D) (ci := 3) (v := .ref (E 0)) (C := RX3) (T := TX3) (N := 2) hx hb hts hinX3 hown hK hP (0) rfl rfl 0 (by decide) hf12 (fun _ h9 => h9) rfl dX3_digest_18 ?_
                refine lv_iload_n hx hb dX3_digest_21 rfl (lv_at hl 0 rfl) ?_
                refine zcRV (As := [.int 6]) (rest := [.long (((digS (digS (digS (digS (digS (digS 1409 (nI n)) ((moonI n))) ((runI t n))) (nI c)) ((heldN q c))) (nI bc)) * 31))]) (st1 := [.int ar, .long (((digS (digS (digS (digS (digS (digS 1409 (nI n)) ((moonI n))) ((runI t n))) (nI c)) ((heldN q c))) (nI bc)) * 31))]) ⟨hx, hb, hml, hown, hts⟩ (c_X1_fact_6 l D y E t o q b c bc n ar fi re  (by omega) (by omega)) (cwV 1 hts gX3_digest_X1_fact rfl rfl rfl (by decide +kernel) ⟨Nat.le_of_ble_eq_true rfl, Nat.le_of_ble_eq_true rfl⟩) hK (z_sub_P hP (fun z h => List.mem_append_right _ (List.mem_append_left _ h))) (ci := 1) (q0 := 0) rfl rfl rfl rfl hl.1 rfl (lv_room (Nat.le_of_ble_eq_true rfl)) dX3_digest_22 ⟨Nat.le_of_ble_eq_true rfl, Nat.le_of_ble_eq_true rfl⟩ rfl ?_
                refine lv_i2l hx hb dX3_digest_25 rfl ?_
                refine lv_ladd hx hb dX3_digest_26 ?_
                refine zt_l (x' := (digS (digS (digS (digS (digS (digS (digS 1409 (nI n)) ((moonI n))) ((runI t n))) (nI c)) ((heldN q c))) (nI bc)) (ar))) rfl ?_
                refine lv_lstore_n (lv' := [(1, .long ((digS (digS (digS (digS (digS (digS (digS 1409 (nI n)) ((moonI n))) ((runI t n))) (nI c)) ((heldN q c))) (nI bc)) (ar)))), (3, .int 6), (0, .ref X0)]) hx hb dX3_digest_27 rfl hl (by decide) rfl (fun ls hl => ?_)
                refine lv_iinc (v := 7) (lv' := [(3, .int 7), (1, .long ((digS (digS (digS (digS (digS (digS (digS 1409 (nI n)) ((moonI n))) ((runI t n))) (nI c)) ((heldN q c))) (nI bc)) (ar)))), (0, .ref X0)]) hx hb dX3_digest_28 hl (k := 1) rfl (by decide) (by decide) rfl (fun ls hl => ?_)
                refine lv_goto (tgt := 6) hx hb dX3_digest_31 (by decide) ?_
                refine lv_iload_n hx hb dX3_digest_6 rfl (lv_at hl 0 rfl) ?_
                refine lv_bipush (v := 9) hx hb dX3_digest_7 (by decide) ?_
                refine lv_icmp_gt (tgt := 34) hx hb dX3_digest_9 (by decide) (fun c8 => ?_) (fun c8 => ?_)
                · exact absurd c8 (by decide)
                · have d8 := Int32.not_lt.mp c8
                  refine lv_lload_n hx hb dX3_digest_12 rfl (lv_at hl 1 rfl) ?_
                  refine lv_ldc2 (v := 31) hx hb hown hk187 dX3_digest_13 ?_
                  refine lv_lmul hx hb dX3_digest_16 ?_
                  refine lv_aload_n hx hb dX3_digest_17 rfl (lv_at hl 2 rfl) ?_
                  refine va_get (D := D) (ci := 3) (v := .ref (E 0)) (C := RX3) (T := TX3) (N := 2) hx hb hts hinX3 hown hK hP (0) rfl rfl 0 (by decide) hf12 (fun _ h9 => h9) rfl dX3_digest_18 ?_
                  refine lv_iload_n hx hb dX3_digest_21 rfl (lv_at hl 0 rfl) ?_
                  refine zcRV (As := [.int 7]) (rest := [.long (((digS (digS (digS (digS (digS (digS (digS 1409 (nI n)) ((moonI n))) ((runI t n))) (nI c)) ((heldN q c))) (nI bc)) (ar)) * 31))]) (st1 := [.int fi, .long (((digS (digS (digS (digS (digS (digS (digS 1409 (nI n)) ((moonI n))) ((runI t n))) (nI c)) ((heldN q c))) (nI bc)) (ar)) * 31))]) ⟨hx, hb, hml, hown, hts⟩ (c_X1_fact_7 l D y E t o q b c bc n ar fi re  (by omega) (by omega)) (cwV 1 hts gX3_digest_X1_fact rfl rfl rfl (by decide +kernel) ⟨Nat.le_of_ble_eq_true rfl, Nat.le_of_ble_eq_true rfl⟩) hK (z_sub_P hP (fun z h => List.mem_append_right _ (List.mem_append_left _ h))) (ci := 1) (q0 := 0) rfl rfl rfl rfl hl.1 rfl (lv_room (Nat.le_of_ble_eq_true rfl)) dX3_digest_22 ⟨Nat.le_of_ble_eq_true rfl, Nat.le_of_ble_eq_true rfl⟩ rfl ?_
                  refine lv_i2l hx hb dX3_digest_25 rfl ?_
                  refine lv_ladd hx hb dX3_digest_26 ?_
                  refine zt_l (x' := (digS (digS (digS (digS (digS (digS (digS (digS 1409 (nI n)) ((moonI n))) ((runI t n))) (nI c)) ((heldN q c))) (nI bc)) (ar)) (fi))) rfl ?_
                  refine lv_lstore_n (lv' := [(1, .long ((digS (digS (digS (digS (digS (digS (digS (digS 1409 (nI n)) ((moonI n))) ((runI t n))) (nI c)) ((heldN q c))) (nI bc)) (ar)) (fi)))), (3, .int 7), (0, .ref X0)]) hx hb dX3_digest_27 rfl hl (by decide) rfl (fun ls hl => ?_)
                  refine lv_iinc (v := 8) (lv' := [(3, .int 8), (1, .long ((digS (digS (digS (digS (digS (digS (digS (digS 1409 (nI n)) ((moonI n))) ((runI t n))) (nI c)) ((heldN q c))) (nI bc)) (ar)) (fi)))), (0, .ref X0)]) hx hb dX3_digest_28 hl (k := 1) rfl (by decide) (by decide) rfl (fun ls hl => ?_)
                  refine lv_goto (tgt := 6) hx hb dX3_digest_31 (by decide) ?_
                  refine lv_iload_n hx hb dX3_digest_6 rfl (lv_at hl 0 rfl) ?_
                  refine lv_bipush (v := 9) hx hb dX3_digest_7 (by decide) ?_
                  refine lv_icmp_gt (tgt := 34) hx hb dX3_digest_9 (by decide) (fun c9 => ?_) (fun c9 => ?_)
                  · exact absurd c9 (by decide)
                  · have d9 := Int32.not_lt.mp c9
                    refine lv_lload_n hx hb dX3_digest_12 rfl (lv_at hl 1 rfl) ?_
                    refine lv_ldc2 (v := 31) hx hb hown hk187 dX3_digest_13 ?_
                    refine lv_lmul hx hb dX3_digest_16 ?_
                    refine lv_aload_n hx hb dX3_digest_17 rfl (lv_at hl 2 rfl) ?_
                    refine va_get (D := D) (ci := 3) (v := .ref (E 0)) (C := RX3) (T := TX3) (N := 2) hx hb hts hinX3 hown hK hP (0) rfl rfl 0 (by decide) hf12 (fun _ h9 => h9) rfl dX3_digest_18 ?_
                    refine lv_iload_n hx hb dX3_digest_21 rfl (lv_at hl 0 rfl) ?_
                    refine zcRV (As := [.int 8]) (rest := [.long (((digS (digS (digS (digS (digS (digS (digS (digS 1409 (nI n)) ((moonI n))) ((runI t n))) (nI c)) ((heldN q c))) (nI bc)) (ar)) (fi)) * 31))]) (st1 := [.int re, .long (((digS (digS (digS (digS (digS (digS (digS (digS 1409 (nI n)) ((moonI n))) ((runI t n))) (nI c)) ((heldN q c))) (nI bc)) (ar)) (fi)) * 31))]) ⟨hx, hb, hml, hown, hts⟩ (c_X1_fact_8 l D y E t o q b c bc n ar fi re  (by omega) (by omega)) (cwV 1 hts gX3_digest_X1_fact rfl rfl rfl (by decide +kernel) ⟨Nat.le_of_ble_eq_true rfl, Nat.le_of_ble_eq_true rfl⟩) hK (z_sub_P hP (fun z h => List.mem_append_right _ (List.mem_append_left _ h))) (ci := 1) (q0 := 0) rfl rfl rfl rfl hl.1 rfl (lv_room (Nat.le_of_ble_eq_true rfl)) dX3_digest_22 ⟨Nat.le_of_ble_eq_true rfl, Nat.le_of_ble_eq_true rfl⟩ rfl ?_
                    refine lv_i2l hx hb dX3_digest_25 rfl ?_
                    refine lv_ladd hx hb dX3_digest_26 ?_
                    refine zt_l (x' := (digS (digS (digS (digS (digS (digS (digS (digS (digS 1409 (nI n)) ((moonI n))) ((runI t n))) (nI c)) ((heldN q c))) (nI bc)) (ar)) (fi)) (re))) rfl ?_
                    refine lv_lstore_n (lv' := [(1, .long ((digS (digS (digS (digS (digS (digS (digS (digS (digS 1409 (nI n)) ((moonI n))) ((runI t n))) (nI c)) ((heldN q c))) (nI bc)) (ar)) (fi)) (re)))), (3, .int 8), (0, .ref X0)]) hx hb dX3_digest_27 rfl hl (by decide) rfl (fun ls hl => ?_)
                    refine lv_iinc (v := 9) (lv' := [(3, .int 9), (1, .long ((digS (digS (digS (digS (digS (digS (digS (digS (digS 1409 (nI n)) ((moonI n))) ((runI t n))) (nI c)) ((heldN q c))) (nI bc)) (ar)) (fi)) (re)))), (0, .ref X0)]) hx hb dX3_digest_28 hl (k := 1) rfl (by decide) (by decide) rfl (fun ls hl => ?_)
                    refine lv_goto (tgt := 6) hx hb dX3_digest_31 (by decide) ?_
                    refine lv_iload_n hx hb dX3_digest_6 rfl (lv_at hl 0 rfl) ?_
                    refine lv_bipush (v := 9) hx hb dX3_digest_7 (by decide) ?_
                    refine lv_icmp_gt (tgt := 34) hx hb dX3_digest_9 (by decide) (fun c10 => ?_) (fun c10 => ?_)
                    · exact absurd c10 (by decide)
                    · have d10 := Int32.not_lt.mp c10
                      refine lv_lload_n hx hb dX3_digest_12 rfl (lv_at hl 1 rfl) ?_
                      refine lv_ldc2 (v := 31) hx hb hown hk187 dX3_digest_13 ?_
                      refine lv_lmul hx hb dX3_digest_16 ?_
                      refine lv_aload_n hx hb dX3_digest_17 rfl (lv_at hl 2 rfl) ?_
                      refine va_get (D := D) (ci := 3) (v := .ref (E 0)) (C := RX3) (T := TX3) (N := 2) hx hb hts hinX3 hown hK hP (0) rfl rfl 0 (by decide) hf12 (fun _ h9 => h9) rfl dX3_digest_18 ?_
                      refine lv_iload_n hx hb dX3_digest_21 rfl (lv_at hl 0 rfl) ?_
                      refine zcRV (As := [.int 9]) (rest := [.long (((digS (digS (digS (digS (digS (digS (digS (digS (digS 1409 (nI n)) ((moonI n))) ((runI t n))) (nI c)) ((heldN q c))) (nI bc)) (ar)) (fi)) (re)) * 31))]) (st1 := [.int ((eelsN q c)), .long (((digS (digS (digS (digS (digS (digS (digS (digS (digS 1409 (nI n)) ((moonI n))) ((runI t n))) (nI c)) ((heldN q c))) (nI bc)) (ar)) (fi)) (re)) * 31))]) ⟨hx, hb, hml, hown, hts⟩ (c_X1_fact_9 l D y E t o q b c bc n ar fi re  (by omega) (by omega)) (cwV 1 hts gX3_digest_X1_fact rfl rfl rfl (by decide +kernel) ⟨Nat.le_of_ble_eq_true rfl, Nat.le_of_ble_eq_true rfl⟩) hK (z_sub_P hP (fun z h => List.mem_append_right _ (List.mem_append_left _ h))) (ci := 1) (q0 := 0) rfl rfl rfl rfl hl.1 rfl (lv_room (Nat.le_of_ble_eq_true rfl)) dX3_digest_22 ⟨Nat.le_of_ble_eq_true rfl, Nat.le_of_ble_eq_true rfl⟩ rfl ?_
                      refine lv_i2l hx hb dX3_digest_25 rfl ?_
                      refine lv_ladd hx hb dX3_digest_26 ?_
                      refine zt_l (x' := (digS (digS (digS (digS (digS (digS (digS (digS (digS (digS 1409 (nI n)) ((moonI n))) ((runI t n))) (nI c)) ((heldN q c))) (nI bc)) (ar)) (fi)) (re)) ((eelsN q c)))) rfl ?_
                      refine lv_lstore_n (lv' := [(1, .long ((digS (digS (digS (digS (digS (digS (digS (digS (digS (digS 1409 (nI n)) ((moonI n))) ((runI t n))) (nI c)) ((heldN q c))) (nI bc)) (ar)) (fi)) (re)) ((eelsN q c))))), (3, .int 9), (0, .ref X0)]) hx hb dX3_digest_27 rfl hl (by decide) rfl (fun ls hl => ?_)
                      refine lv_iinc (v := 10) (lv' := [(3, .int 10), (1, .long ((digS (digS (digS (digS (digS (digS (digS (digS (digS (digS 1409 (nI n)) ((moonI n))) ((runI t n))) (nI c)) ((heldN q c))) (nI bc)) (ar)) (fi)) (re)) ((eelsN q c))))), (0, .ref X0)]) hx hb dX3_digest_28 hl (k := 1) rfl (by decide) (by decide) rfl (fun ls hl => ?_)
                      refine lv_goto (tgt := 6) hx hb dX3_digest_31 (by decide) ?_
                      refine lv_iload_n hx hb dX3_digest_6 rfl (lv_at hl 0 rfl) ?_
                      refine lv_bipush (v := 9) hx hb dX3_digest_7 (by decide) ?_
                      refine lv_icmp_gt (tgt := 34) hx hb dX3_digest_9 (by decide) (fun c11 => ?_) (fun c11 => ?_)
                      · have d11 := Int32.not_le.mpr c11
                        refine lv_iconst (v := 0) hx hb dX3_digest_34 (by decide) ?_
                        refine lv_istore_n (lv' := [(3, .int 0), (1, .long ((digS (digS (digS (digS (digS (digS (digS (digS (digS (digS 1409 (nI n)) ((moonI n))) ((runI t n))) (nI c)) ((heldN q c))) (nI bc)) (ar)) (fi)) (re)) ((eelsN q c))))), (0, .ref X0)]) hx hb dX3_digest_35 rfl hl (by decide) rfl (fun ls hl => ?_)
                        refine lv_iload_n hx hb dX3_digest_36 rfl (lv_at hl 0 rfl) ?_
                        refine lv_bipush (v := 7) hx hb dX3_digest_37 (by decide) ?_
                        refine lv_icmp_ge (tgt := 64) hx hb dX3_digest_39 (by decide) (fun c12 => ?_) (fun c12 => ?_)
                        · exact absurd c12 (by decide)
                        · have d12 := Int32.not_le.mp c12
                          refine lv_lload_n hx hb dX3_digest_42 rfl (lv_at hl 1 rfl) ?_
                          refine lv_ldc2 (v := 31) hx hb hown hk187 dX3_digest_43 ?_
                          refine lv_lmul hx hb dX3_digest_46 ?_
                          refine lv_aload_n hx hb dX3_digest_47 rfl (lv_at hl 2 rfl) ?_
                          refine va_get (D := D) (ci := 3) (v := .ref (E 0)) (C := RX3) (T := TX3) (N := 2) hx hb hts hinX3 hown hK hP (0) rfl rfl 0 (by decide) hf12 (fun _ h9 => h9) rfl dX3_digest_48 ?_
                          refine lv_iload_n hx hb dX3_digest_51 rfl (lv_at hl 0 rfl) ?_
                          refine zcRV (As := [.int 0]) (rest := [.long (((digS (digS (digS (digS (digS (digS (digS (digS (digS (digS 1409 (nI n)) ((moonI n))) ((runI t n))) (nI c)) ((heldN q c))) (nI bc)) (ar)) (fi)) (re)) ((eelsN q c))) * 31))]) (st1 := [.int ((t 0)), .long (((digS (digS (digS (digS (digS (digS (digS (digS (digS (digS 1409 (nI n)) ((moonI n))) ((runI t n))) (nI c)) ((heldN q c))) (nI bc)) (ar)) (fi)) (re)) ((eelsN q c))) * 31))]) ⟨hx, hb, hml, hown, hts⟩ (c_X1_tableEels l D y E t o q b c bc n ar fi re 0 (by omega)) (cwV 1 hts gX3_digest_X1_tableEels rfl rfl rfl (by decide +kernel) ⟨Nat.le_of_ble_eq_true rfl, Nat.le_of_ble_eq_true rfl⟩) hK (z_sub_P hP (fun z h => List.mem_append_right _ (List.mem_append_left _ h))) (ci := 1) (q0 := 0) rfl rfl rfl rfl hl.1 rfl (lv_room (Nat.le_of_ble_eq_true rfl)) dX3_digest_52 ⟨Nat.le_of_ble_eq_true rfl, Nat.le_of_ble_eq_true rfl⟩ rfl ?_
                          refine lv_i2l hx hb dX3_digest_55 rfl ?_
                          refine lv_ladd hx hb dX3_digest_56 ?_
                          refine zt_l (x' := (digS (digS (digS (digS (digS (digS (digS (digS (digS (digS (digS 1409 (nI n)) ((moonI n))) ((runI t n))) (nI c)) ((heldN q c))) (nI bc)) (ar)) (fi)) (re)) ((eelsN q c))) ((t 0)))) rfl ?_
                          refine lv_lstore_n (lv' := [(1, .long ((digS (digS (digS (digS (digS (digS (digS (digS (digS (digS (digS 1409 (nI n)) ((moonI n))) ((runI t n))) (nI c)) ((heldN q c))) (nI bc)) (ar)) (fi)) (re)) ((eelsN q c))) ((t 0))))), (3, .int 0), (0, .ref X0)]) hx hb dX3_digest_57 rfl hl (by decide) rfl (fun ls hl => ?_)
                          refine lv_iinc (v := 1) (lv' := [(3, .int 1), (1, .long ((digS (digS (digS (digS (digS (digS (digS (digS (digS (digS (digS 1409 (nI n)) ((moonI n))) ((runI t n))) (nI c)) ((heldN q c))) (nI bc)) (ar)) (fi)) (re)) ((eelsN q c))) ((t 0))))), (0, .ref X0)]) hx hb dX3_digest_58 hl (k := 1) rfl (by decide) (by decide) rfl (fun ls hl => ?_)
                          refine lv_goto (tgt := 36) hx hb dX3_digest_61 (by decide) ?_
                          refine lv_iload_n hx hb dX3_digest_36 rfl (lv_at hl 0 rfl) ?_
                          refine lv_bipush (v := 7) hx hb dX3_digest_37 (by decide) ?_
                          refine lv_icmp_ge (tgt := 64) hx hb dX3_digest_39 (by decide) (fun c13 => ?_) (fun c13 => ?_)
                          · exact absurd c13 (by decide)
                          · have d13 := Int32.not_le.mp c13
                            refine lv_lload_n hx hb dX3_digest_42 rfl (lv_at hl 1 rfl) ?_
                            refine lv_ldc2 (v := 31) hx hb hown hk187 dX3_digest_43 ?_
                            refine lv_lmul hx hb dX3_digest_46 ?_
                            refine lv_aload_n hx hb dX3_digest_47 rfl (lv_at hl 2 rfl) ?_
                            refine va_get (D := D) (ci := 3) (v := .ref (E 0)) (C := RX3) (T := TX3) (N := 2) hx hb hts hinX3 hown hK hP (0) rfl rfl 0 (by decide) hf12 (fun _ h9 => h9) rfl dX3_digest_48 ?_
                            refine lv_iload_n hx hb dX3_digest_51 rfl (lv_at hl 0 rfl) ?_
                            refine zcRV (As := [.int 1]) (rest := [.long (((digS (digS (digS (digS (digS (digS (digS (digS (digS (digS (digS 1409 (nI n)) ((moonI n))) ((runI t n))) (nI c)) ((heldN q c))) (nI bc)) (ar)) (fi)) (re)) ((eelsN q c))) ((t 0))) * 31))]) (st1 := [.int ((t 1)), .long (((digS (digS (digS (digS (digS (digS (digS (digS (digS (digS (digS 1409 (nI n)) ((moonI n))) ((runI t n))) (nI c)) ((heldN q c))) (nI bc)) (ar)) (fi)) (re)) ((eelsN q c))) ((t 0))) * 31))]) ⟨hx, hb, hml, hown, hts⟩ (c_X1_tableEels l D y E t o q b c bc n ar fi re 1 (by omega)) (cwV 1 hts gX3_digest_X1_tableEels rfl rfl rfl (by decide +kernel) ⟨Nat.le_of_ble_eq_true rfl, Nat.le_of_ble_eq_true rfl⟩) hK (z_sub_P hP (fun z h => List.mem_append_right _ (List.mem_append_left _ h))) (ci := 1) (q0 := 0) rfl rfl rfl rfl hl.1 rfl (lv_room (Nat.le_of_ble_eq_true rfl)) dX3_digest_52 ⟨Nat.le_of_ble_eq_true rfl, Nat.le_of_ble_eq_true rfl⟩ rfl ?_
                            refine lv_i2l hx hb dX3_digest_55 rfl ?_
                            refine lv_ladd hx hb dX3_digest_56 ?_
                            refine zt_l (x' := (digS (digS (digS (digS (digS (digS (digS (digS (digS (digS (digS (digS 1409 (nI n)) ((moonI n))) ((runI t n))) (nI c)) ((heldN q c))) (nI bc)) (ar)) (fi)) (re)) ((eelsN q c))) ((t 0))) ((t 1)))) rfl ?_
                            refine lv_lstore_n (lv' := [(1, .long ((digS (digS (digS (digS (digS (digS (digS (digS (digS (digS (digS (digS 1409 (nI n)) ((moonI n))) ((runI t n))) (nI c)) ((heldN q c))) (nI bc)) (ar)) (fi)) (re)) ((eelsN q c))) ((t 0))) ((t 1))))), (3, .int 1), (0, .ref X0)]) hx hb dX3_digest_57 rfl hl (by decide) rfl (fun ls hl => ?_)
                            refine lv_iinc (v := 2) (lv' := [(3, .int 2), (1, .long ((digS (digS (digS (digS (digS (digS (digS (digS (digS (digS (digS (digS 1409 (nI n)) ((moonI n))) ((runI t n))) (nI c)) ((heldN q c))) (nI bc)) (ar)) (fi)) (re)) ((eelsN q c))) ((t 0))) ((t 1))))), (0, .ref X0)]) hx hb dX3_digest_58 hl (k := 1) rfl (by decide) (by decide) rfl (fun ls hl => ?_)
                            refine lv_goto (tgt := 36) hx hb dX3_digest_61 (by decide) ?_
                            refine lv_iload_n hx hb dX3_digest_36 rfl (lv_at hl 0 rfl) ?_
                            refine lv_bipush (v := 7) hx hb dX3_digest_37 (by decide) ?_
                            refine lv_icmp_ge (tgt := 64) hx hb dX3_digest_39 (by decide) (fun c14 => ?_) (fun c14 => ?_)
                            · exact absurd c14 (by decide)
                            · have d14 := Int32.not_le.mp c14
                              refine lv_lload_n hx hb dX3_digest_42 rfl (lv_at hl 1 rfl) ?_
                              refine lv_ldc2 (v := 31) hx hb hown hk187 dX3_digest_43 ?_
                              refine lv_lmul hx hb dX3_digest_46 ?_
                              refine lv_aload_n hx hb dX3_digest_47 rfl (lv_at hl 2 rfl) ?_
                              refine va_get (D := D) (ci := 3) (v := .ref (E 0)) (C := RX3) (T := TX3) (N := 2) hx hb hts hinX3 hown hK hP (0) rfl rfl 0 (by decide) hf12 (fun _ h9 => h9) rfl dX3_digest_48 ?_
                              refine lv_iload_n hx hb dX3_digest_51 rfl (lv_at hl 0 rfl) ?_
                              refine zcRV (As := [.int 2]) (rest := [.long (((digS (digS (digS (digS (digS (digS (digS (digS (digS (digS (digS (digS 1409 (nI n)) ((moonI n))) ((runI t n))) (nI c)) ((heldN q c))) (nI bc)) (ar)) (fi)) (re)) ((eelsN q c))) ((t 0))) ((t 1))) * 31))]) (st1 := [.int ((t 2)), .long (((digS (digS (digS (digS (digS (digS (digS (digS (digS (digS (digS (digS 1409 (nI n)) ((moonI n))) ((runI t n))) (nI c)) ((heldN q c))) (nI bc)) (ar)) (fi)) (re)) ((eelsN q c))) ((t 0))) ((t 1))) * 31))]) ⟨hx, hb, hml, hown, hts⟩ (c_X1_tableEels l D y E t o q b c bc n ar fi re 2 (by omega)) (cwV 1 hts gX3_digest_X1_tableEels rfl rfl rfl (by decide +kernel) ⟨Nat.le_of_ble_eq_true rfl, Nat.le_of_ble_eq_true rfl⟩) hK (z_sub_P hP (fun z h => List.mem_append_right _ (List.mem_append_left _ h))) (ci := 1) (q0 := 0) rfl rfl rfl rfl hl.1 rfl (lv_room (Nat.le_of_ble_eq_true rfl)) dX3_digest_52 ⟨Nat.le_of_ble_eq_true rfl, Nat.le_of_ble_eq_true rfl⟩ rfl ?_
                              refine lv_i2l hx hb dX3_digest_55 rfl ?_
                              refine lv_ladd hx hb dX3_digest_56 ?_
                              refine zt_l (x' := (digS (digS (digS (digS (digS (digS (digS (digS (digS (digS (digS (digS (digS 1409 (nI n)) ((moonI n))) ((runI t n))) (nI c)) ((heldN q c))) (nI bc)) (ar)) (fi)) (re)) ((eelsN q c))) ((t 0))) ((t 1))) ((t 2)))) rfl ?_
                              refine lv_lstore_n (lv' := [(1, .long ((digS (digS (digS (digS (digS (digS (digS (digS (digS (digS (digS (digS (digS 1409 (nI n)) ((moonI n))) ((runI t n))) (nI c)) ((heldN q c))) (nI bc)) (ar)) (fi)) (re)) ((eelsN q c))) ((t 0))) ((t 1))) ((t 2))))), (3, .int 2), (0, .ref X0)]) hx hb dX3_digest_57 rfl hl (by decide) rfl (fun ls hl => ?_)
                              refine lv_iinc (v := 3) (lv' := [(3, .int 3), (1, .long ((digS (digS (digS (digS (digS (digS (digS (digS (digS (digS (digS (digS (digS 1409 (nI n)) ((moonI n))) ((runI t n))) (nI c)) ((heldN q c))) (nI bc)) (ar)) (fi)) (re)) ((eelsN q c))) ((t 0))) ((t 1))) ((t 2))))), (0, .ref X0)]) hx hb dX3_digest_58 hl (k := 1) rfl (by decide) (by decide) rfl (fun ls hl => ?_)
                              refine lv_goto (tgt := 36) hx hb dX3_digest_61 (by decide) ?_
                              refine lv_iload_n hx hb dX3_digest_36 rfl (lv_at hl 0 rfl) ?_
                              refine lv_bipush (v := 7) hx hb dX3_digest_37 (by decide) ?_
                              refine lv_icmp_ge (tgt := 64) hx hb dX3_digest_39 (by decide) (fun c15 => ?_) (fun c15 => ?_)
                              · exact absurd c15 (by decide)
                              · have d15 := Int32.not_le.mp c15
                                refine lv_lload_n hx hb dX3_digest_42 rfl (lv_at hl 1 rfl) ?_
                                refine lv_ldc2 (v := 31) hx hb hown hk187 dX3_digest_43 ?_
                                refine lv_lmul hx hb dX3_digest_46 ?_
                                refine lv_aload_n hx hb dX3_digest_47 rfl (lv_at hl 2 rfl) ?_
                                refine va_get (D := D) (ci := 3) (v := .ref (E 0)) (C := RX3) (T := TX3) (N := 2) hx hb hts hinX3 hown hK hP (0) rfl rfl 0 (by decide) hf12 (fun _ h9 => h9) rfl dX3_digest_48 ?_
                                refine lv_iload_n hx hb dX3_digest_51 rfl (lv_at hl 0 rfl) ?_
                                refine zcRV (As := [.int 3]) (rest := [.long (((digS (digS (digS (digS (digS (digS (digS (digS (digS (digS (digS (digS (digS 1409 (nI n)) ((moonI n))) ((runI t n))) (nI c)) ((heldN q c))) (nI bc)) (ar)) (fi)) (re)) ((eelsN q c))) ((t 0))) ((t 1))) ((t 2))) * 31))]) (st1 := [.int ((t 3)), .long (((digS (digS (digS (digS (digS (digS (digS (digS (digS (digS (digS (digS (digS 1409 (nI n)) ((moonI n))) ((runI t n))) (nI c)) ((heldN q c))) (nI bc)) (ar)) (fi)) (re)) ((eelsN q c))) ((t 0))) ((t 1))) ((t 2))) * 31))]) ⟨hx, hb, hml, hown, hts⟩ (c_X1_tableEels l D y E t o q b c bc n ar fi re 3 (by omega)) (cwV 1 hts gX3_digest_X1_tableEels rfl rfl rfl (by decide +kernel) ⟨Nat.le_of_ble_eq_true rfl, Nat.le_of_ble_eq_true rfl⟩) hK (z_sub_P hP (fun z h => List.mem_append_right _ (List.mem_append_left _ h))) (ci := 1) (q0 := 0) rfl rfl rfl rfl hl.1 rfl (lv_room (Nat.le_of_ble_eq_true rfl)) dX3_digest_52 ⟨Nat.le_of_ble_eq_true rfl, Nat.le_of_ble_eq_true rfl⟩ rfl ?_
                                refine lv_i2l hx hb dX3_digest_55 rfl ?_
                                refine lv_ladd hx hb dX3_digest_56 ?_
                                refine zt_l (x' := (digS (digS (digS (digS (digS (digS (digS (digS (digS (digS (digS (digS (digS (digS 1409 (nI n)) ((moonI n))) ((runI t n))) (nI c)) ((heldN q c))) (nI bc)) (ar)) (fi)) (re)) ((eelsN q c))) ((t 0))) ((t 1))) ((t 2))) ((t 3)))) rfl ?_
                                refine lv_lstore_n (lv' := [(1, .long ((digS (digS (digS (digS (digS (digS (digS (digS (digS (digS (digS (digS (digS (digS 1409 (nI n)) ((moonI n))) ((runI t n))) (nI c)) ((heldN q c))) (nI bc)) (ar)) (fi)) (re)) ((eelsN q c))) ((t 0))) ((t 1))) ((t 2))) ((t 3))))), (3, .int 3), (0, .ref X0)]) hx hb dX3_digest_57 rfl hl (by decide) rfl (fun ls hl => ?_)
                                refine lv_iinc (v := 4) (lv' := [(3, .int 4), (1, .long ((digS (digS (digS (digS (digS (digS (digS (digS (digS (digS (digS (digS (digS (digS 1409 (nI n)) ((moonI n))) ((runI t n))) (nI c)) ((heldN q c))) (nI bc)) (ar)) (fi)) (re)) ((eelsN q c))) ((t 0))) ((t 1))) ((t 2))) ((t 3))))), (0, .ref X0)]) hx hb dX3_digest_58 hl (k := 1) rfl (by decide) (by decide) rfl (fun ls hl => ?_)
                                refine lv_goto (tgt := 36) hx hb dX3_digest_61 (by decide) ?_
                                refine lv_iload_n hx hb dX3_digest_36 rfl (lv_at hl 0 rfl) ?_
                                refine lv_bipush (v := 7) hx hb dX3_digest_37 (by decide) ?_
                                refine lv_icmp_ge (tgt := 64) hx hb dX3_digest_39 (by decide) (fun c16 => ?_) (fun c16 => ?_)
                                · exact absurd c16 (by decide)
                                · have d16 := Int32.not_le.mp c16
                                  refine lv_lload_n hx hb dX3_digest_42 rfl (lv_at hl 1 rfl) ?_
                                  refine lv_ldc2 (v := 31) hx hb hown hk187 dX3_digest_43 ?_
                                  refine lv_lmul hx hb dX3_digest_46 ?_
                                  refine lv_aload_n hx hb dX3_digest_47 rfl (lv_at hl 2 rfl) ?_
                                  refine va_get (D := D) (ci := 3) (v := .ref (E 0)) (C := RX3) (T := TX3) (N := 2) hx hb hts hinX3 hown hK hP (0) rfl rfl 0 (by decide) hf12 (fun _ h9 => h9) rfl dX3_digest_48 ?_
                                  refine lv_iload_n hx hb dX3_digest_51 rfl (lv_at hl 0 rfl) ?_
                                  refine zcRV (As := [.int 4]) (rest := [.long (((digS (digS (digS (digS (digS (digS (digS (digS (digS (digS (digS (digS (digS (digS 1409 (nI n)) ((moonI n))) ((runI t n))) (nI c)) ((heldN q c))) (nI bc)) (ar)) (fi)) (re)) ((eelsN q c))) ((t 0))) ((t 1))) ((t 2))) ((t 3))) * 31))]) (st1 := [.int ((t 4)), .long (((digS (digS (digS (digS (digS (digS (digS (digS (digS (digS (digS (digS (digS (digS 1409 (nI n)) ((moonI n))) ((runI t n))) (nI c)) ((heldN q c))) (nI bc)) (ar)) (fi)) (re)) ((eelsN q c))) ((t 0))) ((t 1))) ((t 2))) ((t 3))) * 31))]) ⟨hx, hb, hml, hown, hts⟩ (c_X1_tableEels l D y E t o q b c bc n ar fi re 4 (by omega)) (cwV 1 hts gX3_digest_X1_tableEels rfl rfl rfl (by decide +kernel) ⟨Nat.le_of_ble_eq_true rfl, Nat.le_of_ble_eq_true rfl⟩) hK (z_sub_P hP (fun z h => List.mem_append_right _ (List.mem_append_left _ h))) (ci := 1) (q0 := 0) rfl rfl rfl rfl hl.1 rfl (lv_room (Nat.le_of_ble_eq_true rfl)) dX3_digest_52 ⟨Nat.le_of_ble_eq_true rfl, Nat.le_of_ble_eq_true rfl⟩ rfl ?_
                                  refine lv_i2l hx hb dX3_digest_55 rfl ?_
                                  refine lv_ladd hx hb dX3_digest_56 ?_
                                  refine zt_l (x' := (digS (digS (digS (digS (digS (digS (digS (digS (digS (digS (digS (digS (digS (digS (digS 1409 (nI n)) ((moonI n))) ((runI t n))) (nI c)) ((heldN q c))) (nI bc)) (ar)) (fi)) (re)) ((eelsN q c))) ((t 0))) ((t 1))) ((t 2))) ((t 3))) ((t 4)))) rfl ?_
                                  refine lv_lstore_n (lv' := [(1, .long ((digS (digS (digS (digS (digS (digS (digS (digS (digS (digS (digS (digS (digS (digS (digS 1409 (nI n)) ((moonI n))) ((runI t n))) (nI c)) ((heldN q c))) (nI bc)) (ar)) (fi)) (re)) ((eelsN q c))) ((t 0))) ((t 1))) ((t 2))) ((t 3))) ((t 4))))), (3, .int 4), (0, .ref X0)]) hx hb dX3_digest_57 rfl hl (by decide) rfl (fun ls hl => ?_)
                                  refine lv_iinc (v := 5) (lv' := [(3, .int 5), (1, .long ((digS (digS (digS (digS (digS (digS (digS (digS (digS (digS (digS (digS (digS (digS (digS 1409 (nI n)) ((moonI n))) ((runI t n))) (nI c)) ((heldN q c))) (nI bc)) (ar)) (fi)) (re)) ((eelsN q c))) ((t 0))) ((t 1))) ((t 2))) ((t 3))) ((t 4))))), (0, .ref X0)]) hx hb dX3_digest_58 hl (k := 1) rfl (by decide) (by decide) rfl (fun ls hl => ?_)
                                  refine lv_goto (tgt := 36) hx hb dX3_digest_61 (by decide) ?_
                                  refine lv_iload_n hx hb dX3_digest_36 rfl (lv_at hl 0 rfl) ?_
                                  refine lv_bipush (v := 7) hx hb dX3_digest_37 (by decide) ?_
                                  refine lv_icmp_ge (tgt := 64) hx hb dX3_digest_39 (by decide) (fun c17 => ?_) (fun c17 => ?_)
                                  · exact absurd c17 (by decide)
                                  · have d17 := Int32.not_le.mp c17
                                    refine lv_lload_n hx hb dX3_digest_42 rfl (lv_at hl 1 rfl) ?_
                                    refine lv_ldc2 (v := 31) hx hb hown hk187 dX3_digest_43 ?_
                                    refine lv_lmul hx hb dX3_digest_46 ?_
                                    refine lv_aload_n hx hb dX3_digest_47 rfl (lv_at hl 2 rfl) ?_
                                    refine va_get (D := D) (ci := 3) (v := .ref (E 0)) (C := RX3) (T := TX3) (N := 2) hx hb hts hinX3 hown hK hP (0) rfl rfl 0 (by decide) hf12 (fun _ h9 => h9) rfl dX3_digest_48 ?_
                                    refine lv_iload_n hx hb dX3_digest_51 rfl (lv_at hl 0 rfl) ?_
                                    refine zcRV (As := [.int 5]) (rest := [.long (((digS (digS (digS (digS (digS (digS (digS (digS (digS (digS (digS (digS (digS (digS (digS 1409 (nI n)) ((moonI n))) ((runI t n))) (nI c)) ((heldN q c))) (nI bc)) (ar)) (fi)) (re)) ((eelsN q c))) ((t 0))) ((t 1))) ((t 2))) ((t 3))) ((t 4))) * 31))]) (st1 := [.int ((t 5)), .long (((digS (digS (digS (digS (digS (digS (digS (digS (digS (digS (digS (digS (digS (digS (digS 1409 (nI n)) ((moonI n))) ((runI t n))) (nI c)) ((heldN q c))) (nI bc)) (ar)) (fi)) (re)) ((eelsN q c))) ((t 0))) ((t 1))) ((t 2))) ((t 3))) ((t 4))) * 31))]) ⟨hx, hb, hml, hown, hts⟩ (c_X1_tableEels l D y E t o q b c bc n ar fi re 5 (by omega)) (cwV 1 hts gX3_digest_X1_tableEels rfl rfl rfl (by decide +kernel) ⟨Nat.le_of_ble_eq_true rfl, Nat.le_of_ble_eq_true rfl⟩) hK (z_sub_P hP (fun z h => List.mem_append_right _ (List.mem_append_left _ h))) (ci := 1) (q0 := 0) rfl rfl rfl rfl hl.1 rfl (lv_room (Nat.le_of_ble_eq_true rfl)) dX3_digest_52 ⟨Nat.le_of_ble_eq_true rfl, Nat.le_of_ble_eq_true rfl⟩ rfl ?_
                                    refine lv_i2l hx hb dX3_digest_55 rfl ?_
                                    refine lv_ladd hx hb dX3_digest_56 ?_
                                    refine zt_l (x' := (digS (digS (digS (digS (digS (digS (digS (digS (digS (digS (digS (digS (digS (digS (digS (digS 1409 (nI n)) ((moonI n))) ((runI t n))) (nI c)) ((heldN q c))) (nI bc)) (ar)) (fi)) (re)) ((eelsN q c))) ((t 0))) ((t 1))) ((t 2))) ((t 3))) ((t 4))) ((t 5)))) rfl ?_
                                    refine lv_lstore_n (lv' := [(1, .long ((digS (digS (digS (digS (digS (digS (digS (digS (digS (digS (digS (digS (digS (digS (digS (digS 1409 (nI n)) ((moonI n))) ((runI t n))) (nI c)) ((heldN q c))) (nI bc)) (ar)) (fi)) (re)) ((eelsN q c))) ((t 0))) ((t 1))) ((t 2))) ((t 3))) ((t 4))) ((t 5))))), (3, .int 5), (0, .ref X0)]) hx hb dX3_digest_57 rfl hl (by decide) rfl (fun ls hl => ?_)
                                    refine lv_iinc (v := 6) (lv' := [(3, .int 6), (1, .long ((digS (digS (digS (digS (digS (digS (digS (digS (digS (digS (digS (digS (digS (digS (digS (digS 1409 (nI n)) ((moonI n))) ((runI t n))) (nI c)) ((heldN q c))) (nI bc)) (ar)) (fi)) (re)) ((eelsN q c))) ((t 0))) ((t 1))) ((t 2))) ((t 3))) ((t 4))) ((t 5))))), (0, .ref X0)]) hx hb dX3_digest_58 hl (k := 1) rfl (by decide) (by decide) rfl (fun ls hl => ?_)
                                    refine lv_goto (tgt := 36) hx hb dX3_digest_61 (by decide) ?_
                                    refine lv_iload_n hx hb dX3_digest_36 rfl (lv_at hl 0 rfl) ?_
                                    refine lv_bipush (v := 7) hx hb dX3_digest_37 (by decide) ?_
                                    refine lv_icmp_ge (tgt := 64) hx hb dX3_digest_39 (by decide) (fun c18 => ?_) (fun c18 => ?_)
                                    · exact absurd c18 (by decide)
                                    · have d18 := Int32.not_le.mp c18
                                      refine lv_lload_n hx hb dX3_digest_42 rfl (lv_at hl 1 rfl) ?_
                                      refine lv_ldc2 (v := 31) hx hb hown hk187 dX3_digest_43 ?_
                                      refine lv_lmul hx hb dX3_digest_46 ?_
                                      refine lv_aload_n hx hb dX3_digest_47 rfl (lv_at hl 2 rfl) ?_
                                      refine va_get (D := D) (ci := 3) (v := .ref (E 0)) (C := RX3) (T := TX3) (N := 2) hx hb hts hinX3 hown hK hP (0) rfl rfl 0 (by decide) hf12 (fun _ h9 => h9) rfl dX3_digest_48 ?_
                                      refine lv_iload_n hx hb dX3_digest_51 rfl (lv_at hl 0 rfl) ?_
                                      refine zcRV (As := [.int 6]) (rest := [.long (((digS (digS (digS (digS (digS (digS (digS (digS (digS (digS (digS (digS (digS (digS (digS (digS 1409 (nI n)) ((moonI n))) ((runI t n))) (nI c)) ((heldN q c))) (nI bc)) (ar)) (fi)) (re)) ((eelsN q c))) ((t 0))) ((t 1))) ((t 2))) ((t 3))) ((t 4))) ((t 5))) * 31))]) (st1 := [.int ((t 6)), .long (((digS (digS (digS (digS (digS (digS (digS (digS (digS (digS (digS (digS (digS (digS (digS (digS 1409 (nI n)) ((moonI n))) ((runI t n))) (nI c)) ((heldN q c))) (nI bc)) (ar)) (fi)) (re)) ((eelsN q c))) ((t 0))) ((t 1))) ((t 2))) ((t 3))) ((t 4))) ((t 5))) * 31))]) ⟨hx, hb, hml, hown, hts⟩ (c_X1_tableEels l D y E t o q b c bc n ar fi re 6 (by omega)) (cwV 1 hts gX3_digest_X1_tableEels rfl rfl rfl (by decide +kernel) ⟨Nat.le_of_ble_eq_true rfl, Nat.le_of_ble_eq_true rfl⟩) hK (z_sub_P hP (fun z h => List.mem_append_right _ (List.mem_append_left _ h))) (ci := 1) (q0 := 0) rfl rfl rfl rfl hl.1 rfl (lv_room (Nat.le_of_ble_eq_true rfl)) dX3_digest_52 ⟨Nat.le_of_ble_eq_true rfl, Nat.le_of_ble_eq_true rfl⟩ rfl ?_
                                      refine lv_i2l hx hb dX3_digest_55 rfl ?_
                                      refine lv_ladd hx hb dX3_digest_56 ?_
                                      refine zt_l (x' := (digS (digS (digS (digS (digS (digS (digS (digS (digS (digS (digS (digS (digS (digS (digS (digS (digS 1409 (nI n)) ((moonI n))) ((runI t n))) (nI c)) ((heldN q c))) (nI bc)) (ar)) (fi)) (re)) ((eelsN q c))) ((t 0))) ((t 1))) ((t 2))) ((t 3))) ((t 4))) ((t 5))) ((t 6)))) rfl ?_
                                      refine lv_lstore_n (lv' := [(1, .long ((digS (digS (digS (digS (digS (digS (digS (digS (digS (digS (digS (digS (digS (digS (digS (digS (digS 1409 (nI n)) ((moonI n))) ((runI t n))) (nI c)) ((heldN q c))) (nI bc)) (ar)) (fi)) (re)) ((eelsN q c))) ((t 0))) ((t 1))) ((t 2))) ((t 3))) ((t 4))) ((t 5))) ((t 6))))), (3, .int 6), (0, .ref X0)]) hx hb dX3_digest_57 rfl hl (by decide) rfl (fun ls hl => ?_)
                                      refine lv_iinc (v := 7) (lv' := [(3, .int 7), (1, .long ((digS (digS (digS (digS (digS (digS (digS (digS (digS (digS (digS (digS (digS (digS (digS (digS (digS 1409 (nI n)) ((moonI n))) ((runI t n))) (nI c)) ((heldN q c))) (nI bc)) (ar)) (fi)) (re)) ((eelsN q c))) ((t 0))) ((t 1))) ((t 2))) ((t 3))) ((t 4))) ((t 5))) ((t 6))))), (0, .ref X0)]) hx hb dX3_digest_58 hl (k := 1) rfl (by decide) (by decide) rfl (fun ls hl => ?_)
                                      refine lv_goto (tgt := 36) hx hb dX3_digest_61 (by decide) ?_
                                      refine lv_iload_n hx hb dX3_digest_36 rfl (lv_at hl 0 rfl) ?_
                                      refine lv_bipush (v := 7) hx hb dX3_digest_37 (by decide) ?_
                                      refine lv_icmp_ge (tgt := 64) hx hb dX3_digest_39 (by decide) (fun c19 => ?_) (fun c19 => ?_)
                                      · have d19 := Int32.not_lt.mpr c19
                                        refine lv_aload_n hx hb dX3_digest_64 rfl (lv_at hl 2 rfl) ?_
                                        refine lv_aload_n hx hb dX3_digest_65 rfl (lv_at hl 2 rfl) ?_
                                        refine lv_lload_n hx hb dX3_digest_66 rfl (lv_at hl 1 rfl) ?_
                                        refine zcRV (As := [.long ((digS (digS (digS (digS (digS (digS (digS (digS (digS (digS (digS (digS (digS (digS (digS (digS (digS 1409 (nI n)) ((moonI n))) ((runI t n))) (nI c)) ((heldN q c))) (nI bc)) (ar)) (fi)) (re)) ((eelsN q c))) ((t 0))) ((t 1))) ((t 2))) ((t 3))) ((t 4))) ((t 5))) ((t 6))))]) (rest := [.ref X0]) (st1 := [.long ((digWs q (digS (digS (digS (digS (digS (digS (digS (digS (digS (digS (digS (digS (digS (digS (digS (digS (digS 1409 (nI n)) ((moonI n))) ((runI t n))) (nI c)) ((heldN q c))) (nI bc)) (ar)) (fi)) (re)) ((eelsN q c))) ((t 0))) ((t 1))) ((t 2))) ((t 3))) ((t 4))) ((t 5))) ((t 6))) c)), .ref X0]) ⟨hx, hb, hml, hown, hts⟩ (c_X3_digestOfWeirs l D y X0 E E2 t o q b c bc n ar fi re T (digS (digS (digS (digS (digS (digS (digS (digS (digS (digS (digS (digS (digS (digS (digS (digS (digS 1409 (nI n)) ((moonI n))) ((runI t n))) (nI c)) ((heldN q c))) (nI bc)) (ar)) (fi)) (re)) ((eelsN q c))) ((t 0))) ((t 1))) ((t 2))) ((t 3))) ((t 4))) ((t 5))) ((t 6))) hc) (cwV 1 hts gX3_digest_X3_digestOfWeirs rfl rfl rfl (by decide +kernel) ⟨Nat.le_of_ble_eq_true rfl, Nat.le_of_ble_eq_true rfl⟩) hK hP (ci := 3) (q0 := 0) rfl rfl rfl rfl hl.1 rfl (lv_room (Nat.le_of_ble_eq_true rfl)) dX3_digest_67 ⟨Nat.le_of_ble_eq_true rfl, Nat.le_of_ble_eq_true rfl⟩ rfl ?_
                                        refine zcRV (As := [.long ((digWs q (digS (digS (digS (digS (digS (digS (digS (digS (digS (digS (digS (digS (digS (digS (digS (digS (digS 1409 (nI n)) ((moonI n))) ((runI t n))) (nI c)) ((heldN q c))) (nI bc)) (ar)) (fi)) (re)) ((eelsN q c))) ((t 0))) ((t 1))) ((t 2))) ((t 3))) ((t 4))) ((t 5))) ((t 6))) c))]) (rest := []) (st1 := [.long ((digBs q b c (digWs q (digS (digS (digS (digS (digS (digS (digS (digS (digS (digS (digS (digS (digS (digS (digS (digS (digS 1409 (nI n)) ((moonI n))) ((runI t n))) (nI c)) ((heldN q c))) (nI bc)) (ar)) (fi)) (re)) ((eelsN q c))) ((t 0))) ((t 1))) ((t 2))) ((t 3))) ((t 4))) ((t 5))) ((t 6))) c) bc))]) ⟨hx, hb, hml, hown, hts⟩ (c_X3_digestOfBarges l D y X0 E E2 t o q b c bc n ar fi re T (digWs q (digS (digS (digS (digS (digS (digS (digS (digS (digS (digS (digS (digS (digS (digS (digS (digS (digS 1409 (nI n)) ((moonI n))) ((runI t n))) (nI c)) ((heldN q c))) (nI bc)) (ar)) (fi)) (re)) ((eelsN q c))) ((t 0))) ((t 1))) ((t 2))) ((t 3))) ((t 4))) ((t 5))) ((t 6))) c) hc hbc) (cwV 1 hts gX3_digest_X3_digestOfBarges rfl rfl rfl (by decide +kernel) ⟨Nat.le_of_ble_eq_true rfl, Nat.le_of_ble_eq_true rfl⟩) hK hP (ci := 3) (q0 := 0) rfl rfl rfl rfl hl.1 rfl (lv_room (Nat.le_of_ble_eq_true rfl)) dX3_digest_70 ⟨Nat.le_of_ble_eq_true rfl, Nat.le_of_ble_eq_true rfl⟩ rfl ?_
                                        exact zR_l hx hb hr hlocks dX3_digest_73 rfl
                                      · exact absurd (by decide) c19
                      · exact absurd (by decide) c11
