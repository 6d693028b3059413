def wtF (q : Fld) (k : Nat) : Nat → Int32 := upd (upd (upd (upd (upd (upd (upd (upd (fun _ => 0) 0 (q 0 k)) 1 (q 1 k)) 2 (q 2 k)) 3 (q 3 k)) 4 (q 4 k)) 5 (q 5 k)) 6 (q 6 k)) 7 (q 7 k)
/-- the first weir in the way at one place, of those from c - r on -/
def nfI (q : Fld) (p bw : Int32) (c : Nat) : Nat → Int32
  | 0 => -1
  | r + 1 => if q 0 (c - (r + 1)) = p then (if wayB q (c - (r + 1)) bw = true then nI (c - (r + 1)) else nfI q p bw c r) else nfI q p bw c r
theorem nfI_far {q : Fld} {p bw : Int32} {c k : Nat} (hk : k < c) (h : ¬ q 0 k = p) : nfI q p bw c (c - k) = nfI q p bw c (c - (k + 1)) := by
  have e : c - k = (c - (k + 1)) + 1 := by omega
  rw [e]; show (if q 0 (c - (c - (k + 1) + 1)) = p then _ else _) = _
  rw [show c - (c - (k + 1) + 1) = k by omega, if_neg h]
theorem nfI_no {q : Fld} {p bw : Int32} {c k : Nat} (hk : k < c) (h : q 0 k = p) (h2 : wayB q k bw = false) : nfI q p bw c (c - k) = nfI q p bw c (c - (k + 1)) := by
  have e : c - k = (c - (k + 1)) + 1 := by omega
  rw [e]; show (if q 0 (c - (c - (k + 1) + 1)) = p then (if wayB q (c - (c - (k + 1) + 1)) bw = true then _ else _) else _) = _
  rw [show c - (c - (k + 1) + 1) = k by omega, if_pos h, if_neg (by rw [h2]; decide)]
theorem nfI_hit {q : Fld} {p bw : Int32} {c k : Nat} (hk : k < c) (h : q 0 k = p) (h2 : wayB q k bw = true) : nfI q p bw c (c - k) = nI k := by
  have e : c - k = (c - (k + 1)) + 1 := by omega
  rw [e]; show (if q 0 (c - (c - (k + 1) + 1)) = p then (if wayB q (c - (c - (k + 1) + 1)) bw = true then _ else _) else _) = _
  rw [show c - (c - (k + 1) + 1) = k by omega, if_pos h, if_pos h2]
/-- the first weir in the way, of those at the last m places -/
def nfO (q : Fld) (bw : Int32) (c : Nat) : Nat → Int32
  | 0 => -1
  | m + 1 => if nfI q (nI (40 - (m + 1))) bw c c = -1 then nfO q bw c m else nfI q (nI (40 - (m + 1))) bw c c
theorem nfO_go {q : Fld} {bw : Int32} {c m : Nat} (h : nfI q (nI (40 - (m + 1))) bw c c = -1) : nfO q bw c (m + 1) = nfO q bw c m := by
  show (if nfI q (nI (40 - (m + 1))) bw c c = -1 then nfO q bw c m else _) = _
  exact if_pos h
theorem nfO_hit {q : Fld} {bw : Int32} {c m k : Nat} (hk : k < 6) (h : nfI q (nI (40 - (m + 1))) bw c c = nI k) : nfO q bw c (m + 1) = nI k := by
  show (if nfI q (nI (40 - (m + 1))) bw c c = -1 then nfO q bw c m else nfI q (nI (40 - (m + 1))) bw c c) = nI k
  rw [h]; exact if_neg (nI_nm1 (by omega))
theorem richE_c (q : Fld) (c : Nat) : (richE q c).1 = -1 ∨ ∃ i, i < c ∧ (richE q c).1 = nI i ∧ (richE q c).2 = q 4 i := by
  induction c with
  | zero => exact Or.inl rfl
  | succ c ih =>
    rw [richE_s]
    have ih' : (richE q c).1 = -1 ∨ ∃ i, i < c + 1 ∧ (richE q c).1 = nI i ∧ (richE q c).2 = q 4 i := by
      rcases ih with h | ⟨i, h1, h2⟩
      · exact Or.inl h
      · exact Or.inr ⟨i, by omega, h2⟩
    have hn : (nI c, q 4 c).1 = -1 ∨ ∃ i, i < c + 1 ∧ ((nI c, q 4 c) : Int32 × Int32).1 = nI i ∧ ((nI c, q 4 c) : Int32 × Int32).2 = q 4 i := Or.inr ⟨c, by omega, rfl, rfl⟩
    unfold richS
    split
    · split
      · exact hn
      · split
        · exact hn
        · exact ih'
    · exact ih'
def advMS (t : Nat → Int32) (c k mm : Nat) (N : Nst) (i : Nat) (a : Int32 × Int32 × Nst) : Int32 × Int32 × Nst :=
  let T1 := nightsM t c mm (up2 N.1 1 k (nI (i + 1)), N.2)
  if T1.1 5 k ≤ a.2.1 then (a.1, a.2.1, T1) else (nI (i + 1), T1.1 5 k, T1)
def advM (t : Nat → Int32) (c k mm : Nat) (N T : Nst) (i : Nat) : Int32 × Int32 × Nst := itN (advMS t c k mm N) i (0, -1, T)
theorem advM_s (t : Nat → Int32) (c k mm : Nat) (N T : Nst) (i : Nat) : advM t c k mm N T (i + 1) = advMS t c k mm N i (advM t c k mm N T i) := rfl
set_option maxHeartbeats 1000000 in
set_option maxRecDepth 100000 in
theorem c_X5_weirTold (l : Launch) (D : va_G) (y : Nat → ClassId) (Y Z Z2 : Nat → Nat) (th : Int32) (t : Nat → Int32) (c : Nat) (q b : Fld) (bc n : Nat) (ar fi rn : Int32) (T : Nst) (k j : Nat) (hk : k < 6) (hj : j < 8) (sz : Nat) : zMN l yX5_weirTold wsX5_weirTold { frames := 0, cells := 1, slots := 8, locals := 0 } D y [.ref (Y 0), .int (nI k), .int (nI j)] (zW Y Z Z2 y th t c q b bc n ar fi rn T) sz (some (.int (wtF q k j))) (zW Y Z Z2 y th t c q b bc n ar fi rn T) 1 8 := by
  refine zMN.of (cc := cX5_weirTold) (maxL := 4) (ret := (some .int)) (own := RX5) (by decide) rfl (Nat.le_of_ble_eq_true rfl) rfl ?_
  intro p e s m args below meth cd ls A H locs hx hb hr hml hown hts hlocks hP hK hD hA hS hN hl hin
  have hS0 := hS
  have hl : lv_has ls 4 [(0, .ref (Y 0)), (1, .int (nI k)), (2, .int (nI j))] := hl
  have harr : (Cond.arrayClass .int).before args s = true := hts _ (by decide +kernel)
  have hf13 : (Cond.fieldLink RX5 13 "StakeWeirsModel" "place" "[I").before args s = true := hts _ (by decide +kernel)
  have hinX5 : ∀ w ∈ wsX50, w ∈ wsX5_weirTold := by decide +kernel
  have hf24 : (Cond.fieldLink RX5 24 "StakeWeirsModel" "s" "LStakeWeirsModel$State;").before args s = true := hts _ (by decide +kernel)
  have hf49 : (Cond.fieldLinkNest "StakeWeirsModel" 49 "StakeWeirsModel$State" "stakes" "[I" "StakeWeirsModel").before args s = true := va_Nw.use rfl (hN ("StakeWeirsModel", 49, "StakeWeirsModel$State", "stakes", "[I", "StakeWeirsModel") (by decide +kernel))
  have hinX4 : ∀ w ∈ wsX40, w ∈ wsX5_weirTold := by decide +kernel
  have hf52 : (Cond.fieldLinkNest "StakeWeirsModel" 52 "StakeWeirsModel$State" "wattle" "[I" "StakeWeirsModel").before args s = true := va_Nw.use rfl (hN ("StakeWeirsModel", 52, "StakeWeirsModel$State", "wattle", "[I", "StakeWeirsModel") (by decide +kernel))
  have hf16 : (Cond.fieldLink RX5 16 "StakeWeirsModel" "rent" "[I").before args s = true := hts _ (by decide +kernel)
  have hf55 : (Cond.fieldLinkNest "StakeWeirsModel" 55 "StakeWeirsModel$State" "coins" "[I" "StakeWeirsModel").before args s = true := va_Nw.use rfl (hN ("StakeWeirsModel", 55, "StakeWeirsModel$State", "coins", "[I", "StakeWeirsModel") (by decide +kernel))
  have hf68 : (Cond.fieldLinkNest "StakeWeirsModel" 68 "StakeWeirsModel$State" "eels" "[I" "StakeWeirsModel").before args s = true := va_Nw.use rfl (hN ("StakeWeirsModel", 68, "StakeWeirsModel$State", "eels", "[I", "StakeWeirsModel") (by decide +kernel))
  have hf65 : (Cond.fieldLinkNest "StakeWeirsModel" 65 "StakeWeirsModel$State" "open" "[I" "StakeWeirsModel").before args s = true := va_Nw.use rfl (hN ("StakeWeirsModel", 65, "StakeWeirsModel$State", "open", "[I", "StakeWeirsModel") (by decide +kernel))
  have hf84 : (Cond.fieldLinkNest "StakeWeirsModel" 84 "StakeWeirsModel$State" "owes" "[I" "StakeWeirsModel").before args s = true := va_Nw.use rfl (hN ("StakeWeirsModel", 84, "StakeWeirsModel$State", "owes", "[I", "StakeWeirsModel") (by decide +kernel))
  refine lv_bipush (v := 8) hx hb dX5_weirTold_0 (by decide) ?_
  refine va_newa (atype := .int) (ty := .int) (a0 := (8, .inl (fun _ => 0))) (N' := 8) hx hb harr rfl hK hP hD hS hA (fun _ => rfl) (by decide) rfl (by have h9 : componentBytes .int = 4 := rfl; omega) (Nat.le_of_ble_eq_true rfl) (Nat.le_of_ble_eq_true rfl) dX5_weirTold_2 (fun qn cA H hKn hP hD hS => ?_)
  refine lv_dup hx hb dX5_weirTold_4 rfl ?_
  refine lv_iconst (v := 0) hx hb dX5_weirTold_5 (by decide) ?_
  refine lv_aload_n hx hb dX5_weirTold_6 rfl (lv_at hl 0 rfl) ?_
  refine va_get (D := D) (ci := 5) (v := .ref (Y 2)) (C := RX5) (T := TX5) (N := 7) hx hb hts hinX5 hown hK hP (0) rfl rfl 3 (by decide) hf13 (fun _ h9 => h9) rfl dX5_weirTold_7 ?_
  refine lv_iload_n hx hb dX5_weirTold_10 rfl (lv_at hl 1 rfl) ?_
  refine z_ald hx hb hK hP 2 (f := q 0) rfl k rfl (by omega) (by decide) dX5_weirTold_11 ?_
  refine z_astG hx hb hKn hP hD hS 26 4 (f := (fun _ => 0)) rfl rfl 0 rfl (by omega) (by decide) rfl dX5_weirTold_12 (fun H locs hP hD hS => ?_)
  have hP : va_P D vwCl (zW Y Z Z2 y th t c q b bc n ar fi rn T ++ [(qn, .inl (cA, 8, .inl (upd (fun _ => 0) 0 (q 0 k))))]) H := hP
  have hD : va_D A (zW Y Z Z2 y th t c q b bc n ar fi rn T ++ [(qn, .inl (cA, 8, .inl (upd (fun _ => 0) 0 (q 0 k))))]) := hD
  refine lv_dup hx hb dX5_weirTold_13 rfl ?_
  refine lv_iconst (v := 1) hx hb dX5_weirTold_14 (by decide) ?_
  refine lv_aload_n hx hb dX5_weirTold_15 rfl (lv_at hl 0 rfl) ?_
  refine va_get (D := D) (ci := 5) (v := .ref (Z 0)) (C := RX5) (T := TX5) (N := 7) hx hb hts hinX5 hown hK hP (0) rfl rfl 5 (by decide) hf24 (fun _ h9 => h9) rfl dX5_weirTold_16 ?_
  refine va_getN (D := D) (ci := 4) (v := .ref (Z 1)) (C := RX4) (T := TX4) (N := 16) hx hb hts hinX4 hown hK hP (4) rfl rfl 1 (by decide) hf49 (fun _ h9 => h9) rfl dX5_weirTold_19 ?_
  refine lv_iload_n hx hb dX5_weirTold_22 rfl (lv_at hl 1 rfl) ?_
  refine z_ald hx hb hK hP 5 (f := q 1) rfl k rfl (by omega) (by decide) dX5_weirTold_23 ?_
  refine z_astG hx hb hKn hP hD hS 26 4 (f := (upd (fun _ => 0) 0 (q 0 k))) rfl rfl 1 rfl (by omega) (by decide) rfl dX5_weirTold_24 (fun H locs hP hD hS => ?_)
  have hP : va_P D vwCl (zW Y Z Z2 y th t c q b bc n ar fi rn T ++ [(qn, .inl (cA, 8, .inl (upd (upd (fun _ => 0) 0 (q 0 k)) 1 (q 1 k))))]) H := hP
  have hD : va_D A (zW Y Z Z2 y th t c q b bc n ar fi rn T ++ [(qn, .inl (cA, 8, .inl (upd (upd (fun _ => 0) 0 (q 0 k)) 1 (q 1 k))))]) := hD
  refine lv_dup hx hb dX5_weirTold_25 rfl ?_
  refine lv_iconst (v := 2) hx hb dX5_weirTold_26 (by decide) ?_
  refine lv_aload_n hx hb dX5_weirTold_27 rfl (lv_at hl 0 rfl) ?_
  refine va_get (D := D) (ci := 5) (v := .ref (Z 0)) (C := RX5) (T := TX5) (N := 7) hx hb hts hinX5 hown hK hP (0) rfl rfl 5 (by decide) hf24 (fun _ h9 => h9) rfl dX5_weirTold_28 ?_
  refine va_getN (D := D) (ci := 4) (v := .ref (Z 2)) (C := RX4) (T := TX4) (N := 16) hx hb hts hinX4 hown hK hP (4) rfl rfl 2 (by decide) hf52 (fun _ h9 => h9) rfl dX5_weirTold_31 ?_
  refine lv_iload_n hx hb dX5_weirTold_34 rfl (lv_at hl 1 rfl) ?_
  refine z_ald hx hb hK hP 6 (f := q 2) rfl k rfl (by omega) (by decide) dX5_weirTold_35 ?_
  refine z_astG hx hb hKn hP hD hS 26 4 (f := (upd (upd (fun _ => 0) 0 (q 0 k)) 1 (q 1 k))) rfl rfl 2 rfl (by omega) (by decide) rfl dX5_weirTold_36 (fun H locs hP hD hS => ?_)
  have hP : va_P D vwCl (zW Y Z Z2 y th t c q b bc n ar fi rn T ++ [(qn, .inl (cA, 8, .inl (upd (upd (upd (fun _ => 0) 0 (q 0 k)) 1 (q 1 k)) 2 (q 2 k))))]) H := hP
  have hD : va_D A (zW Y Z Z2 y th t c q b bc n ar fi rn T ++ [(qn, .inl (cA, 8, .inl (upd (upd (upd (fun _ => 0) 0 (q 0 k)) 1 (q 1 k)) 2 (q 2 k))))]) := hD
  refine lv_dup hx hb dX5_weirTold_37 rfl ?_
  refine lv_iconst (v := 3) hx hb dX5_weirTold_38 (by decide) ?_
  refine lv_aload_n hx hb dX5_weirTold_39 rfl (lv_at hl 0 rfl) ?_
  refine va_get (D := D) (ci := 5) (v := .ref (Y 3)) (C := RX5) (T := TX5) (N := 7) hx hb hts hinX5 hown hK hP (0) rfl rfl 4 (by decide) hf16 (fun _ h9 => h9) rfl dX5_weirTold_40 ?_
  refine lv_iload_n hx hb dX5_weirTold_43 rfl (lv_at hl 1 rfl) ?_
  refine z_ald hx hb hK hP 3 (f := q 3) rfl k rfl (by omega) (by decide) dX5_weirTold_44 ?_
  refine z_astG hx hb hKn hP hD hS 26 4 (f := (upd (upd (upd (fun _ => 0) 0 (q 0 k)) 1 (q 1 k)) 2 (q 2 k))) rfl rfl 3 rfl (by omega) (by decide) rfl dX5_weirTold_45 (fun H locs hP hD hS => ?_)
  have hP : va_P D vwCl (zW Y Z Z2 y th t c q b bc n ar fi rn T ++ [(qn, .inl (cA, 8, .inl (upd (upd (upd (upd (fun _ => 0) 0 (q 0 k)) 1 (q 1 k)) 2 (q 2 k)) 3 (q 3 k))))]) H := hP
  have hD : va_D A (zW Y Z Z2 y th t c q b bc n ar fi rn T ++ [(qn, .inl (cA, 8, .inl (upd (upd (upd (upd (fun _ => 0) 0 (q 0 k)) 1 (q 1 k)) 2 (q 2 k)) 3 (q 3 k))))]) := hD
  refine lv_dup hx hb dX5_weirTold_46 rfl ?_
  refine lv_iconst (v := 4) hx hb dX5_weirTold_47 (by decide) ?_
  refine lv_aload_n hx hb dX5_weirTold_48 rfl (lv_at hl 0 rfl) ?_
  refine va_get (D := D) (ci := 5) (v := .ref (Z 0)) (C := RX5) (T := TX5) (N := 7) hx hb hts hinX5 hown hK hP (0) rfl rfl 5 (by decide) hf24 (fun _ h9 => h9) rfl dX5_weirTold_49 ?_
  refine va_getN (D := D) (ci := 4) (v := .ref (Z 3)) (C := RX4) (T := TX4) (N := 16) hx hb hts hinX4 hown hK hP (4) rfl rfl 3 (by decide) hf55 (fun _ h9 => h9) rfl dX5_weirTold_52 ?_
  refine lv_iload_n hx hb dX5_weirTold_55 rfl (lv_at hl 1 rfl) ?_
  refine z_ald hx hb hK hP 7 (f := q 4) rfl k rfl (by omega) (by decide) dX5_weirTold_56 ?_
  refine z_astG hx hb hKn hP hD hS 26 4 (f := (upd (upd (upd (upd (fun _ => 0) 0 (q 0 k)) 1 (q 1 k)) 2 (q 2 k)) 3 (q 3 k))) rfl rfl 4 rfl (by omega) (by decide) rfl dX5_weirTold_57 (fun H locs hP hD hS => ?_)
  have hP : va_P D vwCl (zW Y Z Z2 y th t c q b bc n ar fi rn T ++ [(qn, .inl (cA, 8, .inl (upd (upd (upd (upd (upd (fun _ => 0) 0 (q 0 k)) 1 (q 1 k)) 2 (q 2 k)) 3 (q 3 k)) 4 (q 4 k))))]) H := hP
  have hD : va_D A (zW Y Z Z2 y th t c q b bc n ar fi rn T ++ [(qn, .inl (cA, 8, .inl (upd (upd (upd (upd (upd (fun _ => 0) 0 (q 0 k)) 1 (q 1 k)) 2 (q 2 k)) 3 (q 3 k)) 4 (q 4 k))))]) := hD
  refine lv_dup hx hb dX5_weirTold_58 rfl ?_
  refine lv_iconst (v := 5) hx hb dX5_weirTold_59 (by decide) ?_
  refine lv_aload_n hx hb dX5_weirTold_60 rfl (lv_at hl 0 rfl) ?_
  refine va_get (D := D) (ci := 5) (v := .ref (Z 0)) (C := RX5) (T := TX5) (N := 7) hx hb hts hinX5 hown hK hP (0) rfl rfl 5 (by decide) hf24 (fun _ h9 => h9) rfl dX5_weirTold_61 ?_
  refine va_getN (D := D) (ci := 4) (v := .ref (Z 4)) (C := RX4) (T := TX4) (N := 16) hx hb hts hinX4 hown hK hP (4) rfl rfl 4 (by decide) hf68 (fun _ h9 => h9) rfl dX5_weirTold_64 ?_
  refine lv_iload_n hx hb dX5_weirTold_67 rfl (lv_at hl 1 rfl) ?_
  refine z_ald hx hb hK hP 8 (f := q 5) rfl k rfl (by omega) (by decide) dX5_weirTold_68 ?_
  refine z_astG hx hb hKn hP hD hS 26 4 (f := (upd (upd (upd (upd (upd (fun _ => 0) 0 (q 0 k)) 1 (q 1 k)) 2 (q 2 k)) 3 (q 3 k)) 4 (q 4 k))) rfl rfl 5 rfl (by omega) (by decide) rfl dX5_weirTold_69 (fun H locs hP hD hS => ?_)
  have hP : va_P D vwCl (zW Y Z Z2 y th t c q b bc n ar fi rn T ++ [(qn, .inl (cA, 8, .inl (upd (upd (upd (upd (upd (upd (fun _ => 0) 0 (q 0 k)) 1 (q 1 k)) 2 (q 2 k)) 3 (q 3 k)) 4 (q 4 k)) 5 (q 5 k))))]) H := hP
  have hD : va_D A (zW Y Z Z2 y th t c q b bc n ar fi rn T ++ [(qn, .inl (cA, 8, .inl (upd (upd (upd (upd (upd (upd (fun _ => 0) 0 (q 0 k)) 1 (q 1 k)) 2 (q 2 k)) 3 (q 3 k)) 4 (q 4 k)) 5 (q 5 k))))]) := hD
  refine lv_dup hx hb dX5_weirTold_70 rfl ?_
  refine lv_bipush (v := 6) hx hb dX5_weirTold_71 (by decide) ?_
  refine lv_aload_n hx hb dX5_weirTold_73 rfl (lv_at hl 0 rfl) ?_
  refine va_get (D := D) (ci := 5) (v := .ref (Z 0)) (C := RX5) (T := TX5) (N := 7) hx hb hts hinX5 hown hK hP (0) rfl rfl 5 (by decide) hf24 (fun _ h9 => h9) rfl dX5_weirTold_74 ?_
  refine va_getN (D := D) (ci := 4) (v := .ref (Z 5)) (C := RX4) (T := TX4) (N := 16) hx hb hts hinX4 hown hK hP (4) rfl rfl 5 (by decide) hf65 (fun _ h9 => h9) rfl dX5_weirTold_77 ?_
  refine lv_iload_n hx hb dX5_weirTold_80 rfl (lv_at hl 1 rfl) ?_
  refine z_ald hx hb hK hP 9 (f := q 6) rfl k rfl (by omega) (by decide) dX5_weirTold_81 ?_
  refine z_astG hx hb hKn hP hD hS 26 4 (f := (upd (upd (upd (upd (upd (upd (fun _ => 0) 0 (q 0 k)) 1 (q 1 k)) 2 (q 2 k)) 3 (q 3 k)) 4 (q 4 k)) 5 (q 5 k))) rfl rfl 6 rfl (by omega) (by decide) rfl dX5_weirTold_82 (fun H locs hP hD hS => ?_)
  have hP : va_P D vwCl (zW Y Z Z2 y th t c q b bc n ar fi rn T ++ [(qn, .inl (cA, 8, .inl (upd (upd (upd (upd (upd (upd (upd (fun _ => 0) 0 (q 0 k)) 1 (q 1 k)) 2 (q 2 k)) 3 (q 3 k)) 4 (q 4 k)) 5 (q 5 k)) 6 (q 6 k))))]) H := hP
  have hD : va_D A (zW Y Z Z2 y th t c q b bc n ar fi rn T ++ [(qn, .inl (cA, 8, .inl (upd (upd (upd (upd (upd (upd (upd (fun _ => 0) 0 (q 0 k)) 1 (q 1 k)) 2 (q 2 k)) 3 (q 3 k)) 4 (q 4 k)) 5 (q 5 k)) 6 (q 6 k))))]) := hD
  refine lv_dup hx hb dX5_weirTold_83 rfl ?_
  refine lv_bipush (v := 7) hx hb dX5_weirTold_84 (by decide) ?_
  refine lv_aload_n hx hb dX5_weirTold_86 rfl (lv_at hl 0 rfl) ?_
  refine va_get (D := D) (ci := 5) (v := .ref (Z 0)) (C := RX5) (T := TX5) (N := 7) hx hb hts hinX5 hown hK hP (0) rfl rfl 5 (by decide) hf24 (fun _ h9 => h9) rfl dX5_weirTold_87 ?_
  refine va_getN (D := D) (ci := 4) (v := .ref (Z 6)) (C := RX4) (T := TX4) (N := 16) hx hb hts hinX4 hown hK hP (4) rfl rfl 6 (by decide) hf84 (fun _ h9 => h9) rfl dX5_weirTold_90 ?_
  refine lv_iload_n hx hb dX5_weirTold_93 rfl (lv_at hl 1 rfl) ?_
  refine z_ald hx hb hK hP 10 (f := q 7) rfl k rfl (by omega) (by decide) dX5_weirTold_94 ?_
  refine z_astG hx hb hKn hP hD hS 26 4 (f := (upd (upd (upd (upd (upd (upd (upd (fun _ => 0) 0 (q 0 k)) 1 (q 1 k)) 2 (q 2 k)) 3 (q 3 k)) 4 (q 4 k)) 5 (q 5 k)) 6 (q 6 k))) rfl rfl 7 rfl (by omega) (by decide) rfl dX5_weirTold_95 (fun H locs hP hD hS => ?_)
  have hP : va_P D vwCl (zW Y Z Z2 y th t c q b bc n ar fi rn T ++ [(qn, .inl (cA, 8, .inl (upd (upd (upd (upd (upd (upd (upd (upd (fun _ => 0) 0 (q 0 k)) 1 (q 1 k)) 2 (q 2 k)) 3 (q 3 k)) 4 (q 4 k)) 5 (q 5 k)) 6 (q 6 k)) 7 (q 7 k))))]) H := hP
  have hD : va_D A (zW Y Z Z2 y th t c q b bc n ar fi rn T ++ [(qn, .inl (cA, 8, .inl (upd (upd (upd (upd (upd (upd (upd (upd (fun _ => 0) 0 (q 0 k)) 1 (q 1 k)) 2 (q 2 k)) 3 (q 3 k)) 4 (q 4 k)) 5 (q 5 k)) 6 (q 6 k)) 7 (q 7 k))))]) := hD
  refine lv_astore_n (lv' := [(3, .ref qn), (0, .ref (Y 0)), (1, .int (nI k)), (2, .int (nI j))]) hx hb dX5_weirTold_96 rfl hl (by decide) rfl (fun ls hl => ?_)
  refine lv_aload_n hx hb dX5_weirTold_97 rfl (lv_at hl 0 rfl) ?_
  refine lv_iload_n hx hb dX5_weirTold_98 rfl (lv_at hl 3 rfl) ?_
  refine z_aldG hx hb hKn hP 26 4 (f := (upd (upd (upd (upd (upd (upd (upd (upd (fun _ => 0) 0 (q 0 k)) 1 (q 1 k)) 2 (q 2 k)) 3 (q 3 k)) 4 (q 4 k)) 5 (q 5 k)) 6 (q 6 k)) 7 (q 7 k))) rfl rfl j rfl (by omega) (by decide) dX5_weirTold_99 ?_
  exact zM_i hx hb hr hlocks hS dX5_weirTold_100 rfl (z_sub_P hP (fun z h => List.mem_append_left _ h))
set_option maxHeartbeats 1000000 in
set_option maxRecDepth 100000 in
theorem c_X5_about (l : Launch) (D : va_G) (y : Nat → ClassId) (Y Z Z2 : Nat → Nat) (th : Int32) (t : Nat → Int32) (c : Nat) (q b : Fld) (bc n : Nat) (ar fi rn : Int32) (T : Nst) (k : Nat) (hk : k < c) (j : Nat) (hj : j < 8) (hw : inB 0 (nI j) 7 = true) (hc : c ≤ 6) (sz : Nat) : zMN l yX5_about wsX5_about { frames := 2, cells := 1, slots := 8, locals := 43 } D y [.ref (Y 0), .int (nI k), .int (nI j)] (zW Y Z Z2 y th t c q b bc n ar fi rn T) sz (some (.int (wtF q k j))) (zW Y Z Z2 y 0 t c q b bc n ar fi rn T) 1 8 := by
  refine zMN.of (cc := cX5_about) (maxL := 3) (ret := (some .int)) (own := RX5) (by decide) rfl (Nat.le_of_ble_eq_true rfl) rfl ?_
  intro p e s m args below meth cd ls A H locs hx hb hr hml hown hts hlocks hP hK hD hA hS hN hl hin
  have hS0 := hS
  have hl : lv_has ls 3 [(0, .ref (Y 0)), (1, .int (nI k)), (2, .int (nI j))] := hl
  have hf31 : (Cond.fieldLink RX5 31 "StakeWeirsModel" "thrown" "I").before args s = true := hts _ (by decide +kernel)
  have hinX5 : ∀ w ∈ wsX50, w ∈ wsX5_about := by decide +kernel
  refine lv_aload_n hx hb dX5_about_0 rfl (lv_at hl 0 rfl) ?_
  refine lv_iconst (v := 0) hx hb dX5_about_1 (by decide) ?_
  refine va_put (D := D) (ci := 5) (v := .int 0) (ty := .int) (C := RX5) (T := TX5) (N := 7) hx hb hts hinX5 tyX5 tyX5_ok nmX5 hown hK hP hD hS (0) rfl rfl 0 (by decide) hf31 (fun _ h9 => h9) rfl (by decide +kernel) rfl rfl (Nat.le_of_ble_eq_true rfl) dX5_about_2 (fun H locs hP hD hS => ?_)
  have hP : va_P D vwCl (zW Y Z Z2 y 0 t c q b bc n ar fi rn T) H := hP
  have hD : va_D A (zW Y Z Z2 y 0 t c q b bc n ar fi rn T) := hD
  refine lv_aload_n hx hb dX5_about_5 rfl (lv_at hl 0 rfl) ?_
  refine lv_iload_n hx hb dX5_about_6 rfl (lv_at hl 1 rfl) ?_
  refine zcRV (As := [.int (nI k)]) (rest := []) (st1 := [.int (zb (inB 0 (nI k) (nI c - 1)))]) ⟨hx, hb, hml, hown, hts⟩ (c_X5_isWeir l D y Y Z Z2 0 t c q b bc n ar fi rn T (nI k)) (cwV 1 hts gX5_about_X5_isWeir rfl rfl rfl (by decide +kernel) ⟨Nat.le_of_ble_eq_true rfl, Nat.le_of_ble_eq_true rfl⟩) hK hP (ci := 5) (q0 := 0) rfl rfl rfl rfl hl.1 rfl (lv_room (Nat.le_of_ble_eq_true rfl)) dX5_about_7 ⟨Nat.le_of_ble_eq_true rfl, Nat.le_of_ble_eq_true rfl⟩ rfl ?_
  refine lv_if_eq (tgt := 32) hx hb dX5_about_10 (by decide) (fun c1 => ?_) (fun c1 => ?_)
  · exact absurd (zb_f c1) (by rw [(inW_t hk hc)]; decide)
  · have c1 := c1
    refine lv_iload_n hx hb dX5_about_13 rfl (lv_at hl 2 rfl) ?_
    refine lv_iconst (v := 0) hx hb dX5_about_14 (by decide) ?_
    refine lv_bipush (v := 7) hx hb dX5_about_15 (by decide) ?_
    refine zcRS (As := [.int (nI j), .int 0, .int 7]) (rest := []) (st1 := [.int (zb (inB 0 (nI j) 7))]) ⟨hx, hb, hml, hown, hts⟩ (c_X5_isIn l D y (nI j) 0 7) (cwS 3 hts gX5_about_X5_isIn rfl rfl rfl (by decide +kernel) ⟨Nat.le_of_ble_eq_true rfl, Nat.le_of_ble_eq_true rfl⟩) hK va_P_nil rfl hl.1 rfl (lv_room (Nat.le_of_ble_eq_true rfl)) dX5_about_17 ⟨Nat.le_of_ble_eq_true rfl, Nat.le_of_ble_eq_true rfl⟩ rfl ?_
    refine lv_if_eq (tgt := 32) hx hb dX5_about_20 (by decide) (fun c2 => ?_) (fun c2 => ?_)
    · exact absurd (zb_f c2) (by rw [hw]; decide)
    · have c2 := c2
      refine lv_aload_n hx hb dX5_about_23 rfl (lv_at hl 0 rfl) ?_
      refine lv_iload_n hx hb dX5_about_24 rfl (lv_at hl 1 rfl) ?_
      refine lv_iload_n hx hb dX5_about_25 rfl (lv_at hl 2 rfl) ?_
      refine zcNMV (As := [.int (nI k), .int (nI j)]) (rest := []) (st1 := [.int ((wtF q k j))]) (cells1 := 1) (slots1 := 8) ⟨hx, hb, hml, hown, hts⟩ (c_X5_weirTold l D y Y Z Z2 0 t c q b bc n ar fi rn T k j (by omega) (by omega) _) (cwV 2 hts gX5_about_X5_weirTold rfl rfl rfl (by decide +kernel) ⟨Nat.le_of_ble_eq_true rfl, Nat.le_of_ble_eq_true rfl⟩) hN hK hP (z_D_T hD) (ci := 5) (q0 := 0) rfl rfl rfl rfl hl.1 rfl (lv_room (Nat.le_of_ble_eq_true rfl)) dX5_about_26 hS (z_sub_F hD hS hA z_in_r) ⟨Nat.le_of_ble_eq_true rfl, Nat.le_of_ble_eq_true rfl⟩ rfl rfl rfl (fun H locs hP1 hz hfr hS => ?_)
      have hD := z_D_adr hD (show (zW Y Z Z2 y 0 t c q b bc n ar fi rn T).map Prod.fst = _ from rfl)
      have hP := hP1
      refine lv_goto (tgt := 37) hx hb dX5_about_29 (by decide) ?_
      exact zM_i hx hb hr hlocks hS dX5_about_37 rfl hP
set_option maxHeartbeats 1000000 in
set_option maxRecDepth 100000 in
theorem c_X5_about_N1 (l : Launch) (D : va_G) (y : Nat → ClassId) (Y Z Z2 : Nat → Nat) (th : Int32) (t : Nat → Int32) (c : Nat) (q b : Fld) (bc n : Nat) (ar fi rn : Int32) (T : Nst) (x : Int32) (hx0 : x < 0 ∨ nI c ≤ x) (z : Int32) (hc : c ≤ 6) (sz : Nat) : zMN l yX5_about wsX5_about { frames := 2, cells := 0, slots := 0, locals := 43 } D y [.ref (Y 0), .int x, .int z] (zW Y Z Z2 y th t c q b bc n ar fi rn T) sz (some (.int 0)) (zW Y Z Z2 y 1 t c q b bc n ar fi rn T) 0 0 := by
  refine zMN.of (cc := cX5_about) (maxL := 3) (ret := (some .int)) (own := RX5) (by decide) rfl (Nat.le_of_ble_eq_true rfl) rfl ?_
  intro p e s m args below meth cd ls A H locs hx hb hr hml hown hts hlocks hP hK hD hA hS hN hl hin
  have hS0 := hS
  have hl : lv_has ls 3 [(0, .ref (Y 0)), (1, .int x), (2, .int z)] := hl
  have hf31 : (Cond.fieldLink RX5 31 "StakeWeirsModel" "thrown" "I").before args s = true := hts _ (by decide +kernel)
  have hinX5 : ∀ w ∈ wsX50, w ∈ wsX5_about := by decide +kernel
  refine lv_aload_n hx hb dX5_about_0 rfl (lv_at hl 0 rfl) ?_
  refine lv_iconst (v := 0) hx hb dX5_about_1 (by decide) ?_
  refine va_put (D := D) (ci := 5) (v := .int 0) (ty := .int) (C := RX5) (T := TX5) (N := 7) hx hb hts hinX5 tyX5 tyX5_ok nmX5 hown hK hP hD hS (0) rfl rfl 0 (by decide) hf31 (fun _ h9 => h9) rfl (by decide +kernel) rfl rfl (Nat.le_of_ble_eq_true rfl) dX5_about_2 (fun H locs hP hD hS => ?_)
  have hP : va_P D vwCl (zW Y Z Z2 y 0 t c q b bc n ar fi rn T) H := hP
  have hD : va_D A (zW Y Z Z2 y 0 t c q b bc n ar fi rn T) := hD
  refine lv_aload_n hx hb dX5_about_5 rfl (lv_at hl 0 rfl) ?_
  refine lv_iload_n hx hb dX5_about_6 rfl (lv_at hl 1 rfl) ?_
  refine zcRV (As := [.int x]) (rest := []) (st1 := [.int (zb (inB 0 x (nI c - 1)))]) ⟨hx, hb, hml, hown, hts⟩ (c_X5_isWeir l D y Y Z Z2 0 t c q b bc n ar fi rn T x) (cwV 1 hts gX5_about_X5_isWeir rfl rfl rfl (by decide +kernel) ⟨Nat.le_of_ble_eq_true rfl, Nat.le_of_ble_eq_true rfl⟩) hK hP (ci := 5) (q0 := 0) rfl rfl rfl rfl hl.1 rfl (lv_room (Nat.le_of_ble_eq_true rfl)) dX5_about_7 ⟨Nat.le_of_ble_eq_true rfl, Nat.le_of_ble_eq_true rfl⟩ rfl ?_
  refine lv_if_eq (tgt := 32) hx hb dX5_about_10 (by decide) (fun c1 => ?_) (fun c1 => ?_)
  · have c1 := c1
    refine lv_aload_n hx hb dX5_about_32 rfl (lv_at hl 0 rfl) ?_
    refine lv_iconst (v := 1) hx hb dX5_about_33 (by decide) ?_
    refine zcMV (As := [.int 1]) (rest := []) (st1 := [.int 0]) (cells1 := 0) (slots1 := 0) ⟨hx, hb, hml, hown, hts⟩ (c_X5_no l D y Y Z Z2 0 t c q b bc n ar fi rn T 1 _) (cwV 1 hts gX5_about_X5_no rfl rfl rfl (by decide +kernel) ⟨Nat.le_of_ble_eq_true rfl, Nat.le_of_ble_eq_true rfl⟩) hK hP (z_D_T hD) (ci := 5) (q0 := 0) rfl rfl rfl rfl hl.1 rfl (lv_room (Nat.le_of_ble_eq_true rfl)) dX5_about_34 hS (z_sub_F hD hS hA z_in_r) ⟨Nat.le_of_ble_eq_true rfl, Nat.le_of_ble_eq_true rfl⟩ rfl rfl rfl (fun H locs hP1 hz hfr hS => ?_)
    have hD := z_D_adr hD (show (zW Y Z Z2 y 1 t c q b bc n ar fi rn T).map Prod.fst = _ from rfl)
    have hP := hP1
    exact zM_i hx hb hr hlocks hS dX5_about_37 rfl hP
  · exact absurd (zb_t c1) (by rw [(inW_f hx0 hc)]; decide)
set_option maxHeartbeats 1000000 in
set_option maxRecDepth 100000 in
theorem c_X5_about_N2 (l : Launch) (D : va_G) (y : Nat → ClassId) (Y Z Z2 : Nat → Nat) (th : Int32) (t : Nat → Int32) (c : Nat) (q b : Fld) (bc n : Nat) (ar fi rn : Int32) (T : Nst) (k : Nat) (hk : k < c) (z : Int32) (hw : inB 0 z 7 = false) (hc : c ≤ 6) (sz : Nat) : zMN l yX5_about wsX5_about { frames := 2, cells := 0, slots := 0, locals := 43 } D y [.ref (Y 0), .int (nI k), .int z] (zW Y Z Z2 y th t c q b bc n ar fi rn T) sz (some (.int 0)) (zW Y Z Z2 y 1 t c q b bc n ar fi rn T) 0 0 := by
  refine zMN.of (cc := cX5_about) (maxL := 3) (ret := (some .int)) (own := RX5) (by decide) rfl (Nat.le_of_ble_eq_true rfl) rfl ?_
  intro p e s m args below meth cd ls A H locs hx hb hr hml hown hts hlocks hP hK hD hA hS hN hl hin
  have hS0 := hS
  have hl : lv_has ls 3 [(0, .ref (Y 0)), (1, .int (nI k)), (2, .int z)] := hl
  have hf31 : (Cond.fieldLink RX5 31 "StakeWeirsModel" "thrown" "I").before args s = true := hts _ (by decide +kernel)
  have hinX5 : ∀ w ∈ wsX50, w ∈ wsX5_about := by decide +kernel
  refine lv_aload_n hx hb dX5_about_0 rfl (lv_at hl 0 rfl) ?_
  refine lv_iconst (v := 0) hx hb dX5_about_1 (by decide) ?_
  refine va_put (D := D) (ci := 5) (v := .int 0) (ty := .int) (C := RX5) (T := TX5) (N := 7) hx hb hts hinX5 tyX5 tyX5_ok nmX5 hown hK hP hD hS (0) rfl rfl 0 (by decide) hf31 (fun _ h9 => h9) rfl (by decide +kernel) rfl rfl (Nat.le_of_ble_eq_true rfl) dX5_about_2 (fun H locs hP hD hS => ?_)
  have hP : va_P D vwCl (zW Y Z Z2 y 0 t c q b bc n ar fi rn T) H := hP
  have hD : va_D A (zW Y Z Z2 y 0 t c q b bc n ar fi rn T) := hD
  refine lv_aload_n hx hb dX5_about_5 rfl (lv_at hl 0 rfl) ?_
  refine lv_iload_n hx hb dX5_about_6 rfl (lv_at hl 1 rfl) ?_
  refine zcRV (As := [.int (nI k)]) (rest := []) (st1 := [.int (zb (inB 0 (nI k) (nI c - 1)))]) ⟨hx, hb, hml, hown, hts⟩ (c_X5_isWeir l D y Y Z Z2 0 t c q b bc n ar fi rn T (nI k)) (cwV 1 hts gX5_about_X5_isWeir rfl rfl rfl (by decide +kernel) ⟨Nat.le_of_ble_eq_true rfl, Nat.le_of_ble_eq_true rfl⟩) hK hP (ci := 5) (q0 := 0) rfl rfl rfl rfl hl.1 rfl (lv_room (Nat.le_of_ble_eq_true rfl)) dX5_about_7 ⟨Nat.le_of_ble_eq_true rfl, Nat.le_of_ble_eq_true rfl⟩ rfl ?_
  refine lv_if_eq (tgt := 32) hx hb dX5_about_10 (by decide) (fun c1 => ?_) (fun c1 => ?_)
  · exact absurd (zb_f c1) (by rw [(inW_t hk hc)]; decide)
  · have c1 := c1
    refine lv_iload_n hx hb dX5_about_13 rfl (lv_at hl 2 rfl) ?_
    refine lv_iconst (v := 0) hx hb dX5_about_14 (by decide) ?_
    refine lv_bipush (v := 7) hx hb dX5_about_15 (by decide) ?_
    refine zcRS (As := [.int z, .int 0, .int 7]) (rest := []) (st1 := [.int (zb (inB 0 z 7))]) ⟨hx, hb, hml, hown, hts⟩ (c_X5_isIn l D y z 0 7) (cwS 3 hts gX5_about_X5_isIn rfl rfl rfl (by decide +kernel) ⟨Nat.le_of_ble_eq_true rfl, Nat.le_of_ble_eq_true rfl⟩) hK va_P_nil rfl hl.1 rfl (lv_room (Nat.le_of_ble_eq_true rfl)) dX5_about_17 ⟨Nat.le_of_ble_eq_true rfl, Nat.le_of_ble_eq_true rfl⟩ rfl ?_
    refine lv_if_eq (tgt := 32) hx hb dX5_about_20 (by decide) (fun c2 => ?_) (fun c2 => ?_)
    · have c2 := c2
      refine lv_aload_n hx hb dX5_about_32 rfl (lv_at hl 0 rfl) ?_
      refine lv_iconst (v := 1) hx hb dX5_about_33 (by decide) ?_
      refine zcMV (As := [.int 1]) (rest := []) (st1 := [.int 0]) (cells1 := 0) (slots1 := 0) ⟨hx, hb, hml, hown, hts⟩ (c_X5_no l D y Y Z Z2 0 t c q b bc n ar fi rn T 1 _) (cwV 1 hts gX5_about_X5_no rfl rfl rfl (by decide +kernel) ⟨Nat.le_of_ble_eq_true rfl, Nat.le_of_ble_eq_true rfl⟩) hK hP (z_D_T hD) (ci := 5) (q0 := 0) rfl rfl rfl rfl hl.1 rfl (lv_room (Nat.le_of_ble_eq_true rfl)) dX5_about_34 hS (z_sub_F hD hS hA z_in_r) ⟨Nat.le_of_ble_eq_true rfl, Nat.le_of_ble_eq_true rfl⟩ rfl rfl rfl (fun H locs hP1 hz hfr hS => ?_)
      have hD := z_D_adr hD (show (zW Y Z Z2 y 1 t c q b bc n ar fi rn T).map Prod.fst = _ from rfl)
      have hP := hP1
      exact zM_i hx hb hr hlocks hS dX5_about_37 rfl hP
    · exact absurd (zb_t c2) (by rw [hw]; decide)
set_option maxHeartbeats 1000000 in
set_option maxRecDepth 100000 in
theorem c_X5_nextFor (l : Launch) (D : va_G) (y : Nat → ClassId) (Y Z Z2 : Nat → Nat) (th : Int32) (t : Nat → Int32) (c : Nat) (q b : Fld) (bc n : Nat) (ar fi rn : Int32) (T : Nst) (j p0 : Nat) (hj : j < 5) (hp : b 2 j + 1 = nI p0) (hp0 : p0 ≤ 40) (hc : c ≤ 6) : zRN l yX5_nextFor wsX5_nextFor { frames := 2, cells := 0, slots := 0, locals := 43 } D y [.ref (Y 0), .int (nI j)] (zW Y Z Z2 y th t c q b bc n ar fi rn T) (some (.int (nfO q (b 1 j) c (40 - p0)))) := by
  refine zRN.of (cc := cX5_nextFor) (maxL := 4) (ret := (some .int)) (own := RX5) (by decide) rfl (Nat.le_of_ble_eq_true rfl) rfl ?_
  intro p e s m args below meth cd ls hx hb hr hml hown hts hlocks hP hK hN hl
  have hl : lv_has ls 4 [(0, .ref (Y 0)), (1, .int (nI j))] := hl
  have hf24 : (Cond.fieldLink RX5 24 "StakeWeirsModel" "s" "LStakeWeirsModel$State;").before args s = true := hts _ (by decide +kernel)
  have hinX5 : ∀ w ∈ wsX50, w ∈ wsX5_nextFor := by decide +kernel
  have hf78 : (Cond.fieldLinkNest "StakeWeirsModel" 78 "StakeWeirsModel$State" "at" "[I" "StakeWeirsModel").before args s = true := va_Nw.use rfl (hN ("StakeWeirsModel", 78, "StakeWeirsModel$State", "at", "[I", "StakeWeirsModel") (by decide +kernel))
  have hinX4 : ∀ w ∈ wsX40, w ∈ wsX5_nextFor := by decide +kernel
  have hf35 : (Cond.fieldLink RX5 35 "StakeWeirsModel" "weirs" "I").before args s = true := hts _ (by decide +kernel)
  have hf13 : (Cond.fieldLink RX5 13 "StakeWeirsModel" "place" "[I").before args s = true := hts _ (by decide +kernel)
  have hf75 : (Cond.fieldLinkNest "StakeWeirsModel" 75 "StakeWeirsModel$State" "wide" "[I" "StakeWeirsModel").before args s = true := va_Nw.use rfl (hN ("StakeWeirsModel", 75, "StakeWeirsModel$State", "wide", "[I", "StakeWeirsModel") (by decide +kernel))
  refine lv_aload_n hx hb dX5_nextFor_0 rfl (lv_at hl 0 rfl) ?_
  refine va_get (D := D) (ci := 5) (v := .ref (Z 0)) (C := RX5) (T := TX5) (N := 7) hx hb hts hinX5 hown hK hP (0) rfl rfl 5 (by decide) hf24 (fun _ h9 => h9) rfl dX5_nextFor_1 ?_
  refine va_getN (D := D) (ci := 4) (v := .ref (Z 8)) (C := RX4) (T := TX4) (N := 16) hx hb hts hinX4 hown hK hP (4) rfl rfl 9 (by decide) hf78 (fun _ h9 => h9) rfl dX5_nextFor_4 ?_
  refine lv_iload_n hx hb dX5_nextFor_7 rfl (lv_at hl 1 rfl) ?_
  refine z_ald hx hb hK hP 12 (f := b 2) rfl j rfl (by omega) (by decide) dX5_nextFor_8 ?_
  refine lv_iconst (v := 1) hx hb dX5_nextFor_9 (by decide) ?_
  refine lv_iadd hx hb dX5_nextFor_10 ?_
  refine zt_i (x' := nI p0) hp ?_
  refine lv_istore_n (lv' := [(2, .int (nI p0)), (0, .ref (Y 0)), (1, .int (nI j))]) hx hb dX5_nextFor_11 rfl hl (by decide) rfl (fun ls hl => ?_)
  have loopo : ∀ mm, mm ≤ 40 → ∀ (ls : Array Slot), nfO q (b 1 j) c mm = nfO q (b 1 j) c (40 - p0) → lv_has ls 4 [(2, .int (nI (40 - mm))), (0, .ref (Y 0)), (1, .int (nI j))] → W p l e ({ frames := 2, cells := 0, slots := 0, locals := 43 } : Room) s m args below meth cd s.heap [] 0 0 (MQ below (zRQ (some (.int (nfO q (b 1 j) c (40 - p0))))) args s 0 0 (fun _ => False)) (F0 m 12 ls []) := by
    intro mm
    induction mm with
    | zero =>
      intro hmm ls hE hl
      refine lv_iload_n hx hb dX5_nextFor_12 rfl (lv_at hl 0 rfl) ?_
      refine lv_bipush (v := 40) hx hb dX5_nextFor_13 (by decide) ?_
      refine lv_icmp_ge (tgt := 72) hx hb dX5_nextFor_15 (by decide) (fun c1 => ?_) (fun c1 => ?_)
      · have d1 := Int32.not_lt.mpr c1
        refine lv_iconst (v := (-1)) hx hb dX5_nextFor_72 (by decide) ?_
        exact zR_i hx hb hr hlocks dX5_nextFor_73 (by rw [← hE]; rfl)
      · exact absurd (nI_le (a := 40) (b := (40 - 0)) (by omega) (by omega)) c1
    | succ mm ih =>
      intro hmm ls hE hl
      refine lv_iload_n hx hb dX5_nextFor_12 rfl (lv_at hl 0 rfl) ?_
      refine lv_bipush (v := 40) hx hb dX5_nextFor_13 (by decide) ?_
      refine lv_icmp_ge (tgt := 72) hx hb dX5_nextFor_15 (by decide) (fun c2 => ?_) (fun c2 => ?_)
      · exact absurd c2 (nI_ge (a := (40 - (mm + 1))) (b := 40) (by omega) (by omega))
      · have d2 := Int32.not_le.mp c2
        refine lv_iconst (v := 0) hx hb dX5_nextFor_18 (by decide) ?_
        refine lv_istore_n (lv' := [(3, .int 0), (2, .int (nI (40 - (mm + 1)))), (0, .ref (Y 0)), (1, .int (nI j))]) hx hb dX5_nextFor_19 rfl hl (by decide) rfl (fun ls hl => ?_)
        have loop3 : ∀ k, k ≤ c → ∀ (ls : Array Slot), nfI q (nI (40 - (mm + 1))) (b 1 j) c (c - k) = nfI q (nI (40 - (mm + 1))) (b 1 j) c c → lv_has ls 4 [(3, .int (nI k)), (2, .int (nI (40 - (mm + 1)))), (0, .ref (Y 0)), (1, .int (nI j))] → W p l e ({ frames := 2, cells := 0, slots := 0, locals := 43 } : Room) s m args below meth cd s.heap [] 0 0 (MQ below (zRQ (some (.int (nfO q (b 1 j) c (40 - p0))))) args s 0 0 (fun _ => False)) (F0 m 20 ls []) := by
          refine down ?_ ?_
          · intro ls hn hl
            refine lv_iload_n hx hb dX5_nextFor_20 rfl (lv_at hl 0 rfl) ?_
            refine lv_aload_n hx hb dX5_nextFor_21 rfl (lv_at hl 2 rfl) ?_
            refine va_get (D := D) (ci := 5) (v := .int (nI c)) (C := RX5) (T := TX5) (N := 7) hx hb hts hinX5 hown hK hP (0) rfl rfl 2 (by decide) hf35 (fun _ h9 => h9) rfl dX5_nextFor_22 ?_
            refine lv_icmp_ge (tgt := 66) hx hb dX5_nextFor_25 (by decide) (fun c4 => ?_) (fun c4 => ?_)
            · have d4 := Int32.not_lt.mpr c4
              refine lv_iinc (v := nI ((40 - (mm + 1)) + 1)) (lv' := [(2, .int (nI ((40 - (mm + 1)) + 1))), (3, .int (nI c)), (0, .ref (Y 0)), (1, .int (nI j))]) hx hb dX5_nextFor_66 hl (k := 1) rfl (nI_1 _) (by decide) rfl (fun ls hl => ?_)
              refine lv_goto (tgt := 12) hx hb dX5_nextFor_69 (by decide) ?_
              refine ih (by omega) ls ((nfO_go (hn.symm.trans (by rw [Nat.sub_self]; rfl))).symm.trans hE) ?_
              rw [show 40 - mm = 40 - (mm + 1) + 1 from by omega]; exact lv_sub hl [0, 2, 3] rfl
            · exact absurd (nI_le (a := c) (b := c) (by omega) (by omega)) c4
          · intro k hkk ihk ls hn hl
            refine lv_iload_n hx hb dX5_nextFor_20 rfl (lv_at hl 0 rfl) ?_
            refine lv_aload_n hx hb dX5_nextFor_21 rfl (lv_at hl 2 rfl) ?_
            refine va_get (D := D) (ci := 5) (v := .int (nI c)) (C := RX5) (T := TX5) (N := 7) hx hb hts hinX5 hown hK hP (0) rfl rfl 2 (by decide) hf35 (fun _ h9 => h9) rfl dX5_nextFor_22 ?_
            refine lv_icmp_ge (tgt := 66) hx hb dX5_nextFor_25 (by decide) (fun c5 => ?_) (fun c5 => ?_)
            · exact absurd c5 (nI_ge (a := k) (b := c) (by omega) (by omega))
            · have d5 := Int32.not_le.mp c5
              refine lv_aload_n hx hb dX5_nextFor_28 rfl (lv_at hl 2 rfl) ?_
              refine va_get (D := D) (ci := 5) (v := .ref (Y 2)) (C := RX5) (T := TX5) (N := 7) hx hb hts hinX5 hown hK hP (0) rfl rfl 3 (by decide) hf13 (fun _ h9 => h9) rfl dX5_nextFor_29 ?_
              refine lv_iload_n hx hb dX5_nextFor_32 rfl (lv_at hl 0 rfl) ?_
              refine z_ald hx hb hK hP 2 (f := q 0) rfl k rfl (by omega) (by decide) dX5_nextFor_33 ?_
              refine lv_iload_n hx hb dX5_nextFor_34 rfl (lv_at hl 1 rfl) ?_
              refine lv_icmp_ne (tgt := 60) hx hb dX5_nextFor_35 (by decide) (fun c6 => ?_) (fun c6 => ?_)
              · have d6 := c6
                refine lv_iinc (v := nI (k + 1)) (lv' := [(3, .int (nI (k + 1))), (2, .int (nI (40 - (mm + 1)))), (0, .ref (Y 0)), (1, .int (nI j))]) hx hb dX5_nextFor_60 hl (k := 0) rfl (nI_1 _) (by decide) rfl (fun ls hl => ?_)
                refine lv_goto (tgt := 20) hx hb dX5_nextFor_63 (by decide) ?_
                refine ihk ls (by rw [← nfI_far hkk c6]; exact hn) ?_
                skip
                exact lv_sub hl [0, 1, 2, 3] rfl
              · have d6 := c6
                refine lv_aload_n hx hb dX5_nextFor_38 rfl (lv_at hl 2 rfl) ?_
                refine va_get (D := D) (ci := 5) (v := .ref (Z 0)) (C := RX5) (T := TX5) (N := 7) hx hb hts hinX5 hown hK hP (0) rfl rfl 5 (by decide) hf24 (fun _ h9 => h9) rfl dX5_nextFor_39 ?_
                refine lv_iload_n hx hb dX5_nextFor_42 rfl (lv_at hl 0 rfl) ?_
                refine lv_aload_n hx hb dX5_nextFor_43 rfl (lv_at hl 2 rfl) ?_
                refine va_get (D := D) (ci := 5) (v := .ref (Z 0)) (C := RX5) (T := TX5) (N := 7) hx hb hts hinX5 hown hK hP (0) rfl rfl 5 (by decide) hf24 (fun _ h9 => h9) rfl dX5_nextFor_44 ?_
                refine va_getN (D := D) (ci := 4) (v := .ref (Z 7)) (C := RX4) (T := TX4) (N := 16) hx hb hts hinX4 hown hK hP (4) rfl rfl 8 (by decide) hf75 (fun _ h9 => h9) rfl dX5_nextFor_47 ?_
                refine lv_iload_n hx hb dX5_nextFor_50 rfl (lv_at hl 3 rfl) ?_
                refine z_ald hx hb hK hP 11 (f := b 1) rfl j rfl (by omega) (by decide) dX5_nextFor_51 ?_
                refine zcRV (As := [.int (nI k), .int ((b 1 j))]) (rest := []) (st1 := [.int (zb (wayB q k (b 1 j)))]) ⟨hx, hb, hml, hown, hts⟩ (c_X4_isInWay l D y Y Z (Z 0) (Z2 0) th t c q b bc n ar fi rn k (b 1 j) (by omega)) (cwV 2 hts gX5_nextFor_X4_isInWay rfl rfl rfl (by decide +kernel) ⟨Nat.le_of_ble_eq_true rfl, Nat.le_of_ble_eq_true rfl⟩) hK (zz_sP hP) (ci := 4) (q0 := 4) rfl rfl rfl rfl hl.1 rfl (lv_room (Nat.le_of_ble_eq_true rfl)) dX5_nextFor_52 ⟨Nat.le_of_ble_eq_true rfl, Nat.le_of_ble_eq_true rfl⟩ rfl ?_
                refine lv_if_eq (tgt := 60) hx hb dX5_nextFor_55 (by decide) (fun c7 => ?_) (fun c7 => ?_)
                · have c7 : wayB q k (b 1 j) = false := zb_f c7
                  refine lv_iinc (v := nI (k + 1)) (lv' := [(3, .int (nI (k + 1))), (2, .int (nI (40 - (mm + 1)))), (0, .ref (Y 0)), (1, .int (nI j))]) hx hb dX5_nextFor_60 hl (k := 0) rfl (nI_1 _) (by decide) rfl (fun ls hl => ?_)
                  refine lv_goto (tgt := 20) hx hb dX5_nextFor_63 (by decide) ?_
                  refine ihk ls (by rw [← nfI_no hkk c6 c7]; exact hn) ?_
                  skip
                  exact lv_sub hl [0, 1, 2, 3] rfl
                · have c7 : wayB q k (b 1 j) = true := zb_t c7
                  refine lv_iload_n hx hb dX5_nextFor_58 rfl (lv_at hl 0 rfl) ?_
                  exact zR_i hx hb hr hlocks dX5_nextFor_59 (by rw [← hE, nfO_hit (k := k) (by omega) (hn.symm.trans (nfI_hit hkk c6 c7))])
        exact loop3 0 (Nat.zero_le _) ls (by rw [Nat.sub_zero]) (lv_sub hl [0, 1, 2, 3] rfl)
  exact loopo (40 - p0) (by omega) ls rfl (by rw [show 40 - (40 - p0) = p0 from by omega]; exact lv_sub hl [0, 1, 2] rfl)
set_option maxHeartbeats 1000000 in
set_option maxRecDepth 100000 in
theorem c_X5_bargeTold_0 (l : Launch) (D : va_G) (y : Nat → ClassId) (Y Z Z2 : Nat → Nat) (th : Int32) (t : Nat → Int32) (c : Nat) (q b : Fld) (bc n : Nat) (ar fi rn : Int32) (T : Nst) (j : Nat) (hj : j < 5) : zRN l yX5_bargeTold wsX5_bargeTold { frames := 0, cells := 0, slots := 0, locals := 0 } D y [.ref (Y 0), .int (nI j), .int 0] (zW Y Z Z2 y th t c q b bc n ar fi rn T) (some (.int (b 1 j))) := by
  refine zRN.of (cc := cX5_bargeTold) (maxL := 3) (ret := (some .int)) (own := RX5) (by decide) rfl (Nat.le_of_ble_eq_true rfl) rfl ?_
  intro p e s m args below meth cd ls hx hb hr hml hown hts hlocks hP hK hN hl
  have hl : lv_has ls 3 [(0, .ref (Y 0)), (1, .int (nI j)), (2, .int 0)] := hl
  have hf24 : (Cond.fieldLink RX5 24 "StakeWeirsModel" "s" "LStakeWeirsModel$State;").before args s = true := hts _ (by decide +kernel)
  have hinX5 : ∀ w ∈ wsX50, w ∈ wsX5_bargeTold := by decide +kernel
  have hf75 : (Cond.fieldLinkNest "StakeWeirsModel" 75 "StakeWeirsModel$State" "wide" "[I" "StakeWeirsModel").before args s = true := va_Nw.use rfl (hN ("StakeWeirsModel", 75, "StakeWeirsModel$State", "wide", "[I", "StakeWeirsModel") (by decide +kernel))
  have hinX4 : ∀ w ∈ wsX40, w ∈ wsX5_bargeTold := by decide +kernel
  refine lv_iload_n hx hb dX5_bargeTold_0 rfl (lv_at hl 2 rfl) ?_
  refine lv_if_ne (tgt := 16) hx hb dX5_bargeTold_1 (by decide) (fun c1 => ?_) (fun c1 => ?_)
  · exact absurd c1 (by decide)
  · have d1 := c1
    refine lv_aload_n hx hb dX5_bargeTold_4 rfl (lv_at hl 0 rfl) ?_
    refine va_get (D := D) (ci := 5) (v := .ref (Z 0)) (C := RX5) (T := TX5) (N := 7) hx hb hts hinX5 hown hK hP (0) rfl rfl 5 (by decide) hf24 (fun _ h9 => h9) rfl dX5_bargeTold_5 ?_
    refine va_getN (D := D) (ci := 4) (v := .ref (Z 7)) (C := RX4) (T := TX4) (N := 16) hx hb hts hinX4 hown hK hP (4) rfl rfl 8 (by decide) hf75 (fun _ h9 => h9) rfl dX5_bargeTold_8 ?_
    refine lv_iload_n hx hb dX5_bargeTold_11 rfl (lv_at hl 1 rfl) ?_
    refine z_ald hx hb hK hP 11 (f := b 1) rfl j rfl (by omega) (by decide) dX5_bargeTold_12 ?_
    refine lv_goto (tgt := 55) hx hb dX5_bargeTold_13 (by decide) ?_
    exact zR_i hx hb hr hlocks dX5_bargeTold_55 rfl
set_option maxHeartbeats 1000000 in
set_option maxRecDepth 100000 in
theorem c_X5_bargeTold_1 (l : Launch) (D : va_G) (y : Nat → ClassId) (Y Z Z2 : Nat → Nat) (th : Int32) (t : Nat → Int32) (c : Nat) (q b : Fld) (bc n : Nat) (ar fi rn : Int32) (T : Nst) (j : Nat) (hj : j < 5) : zRN l yX5_bargeTold wsX5_bargeTold { frames := 0, cells := 0, slots := 0, locals := 0 } D y [.ref (Y 0), .int (nI j), .int 1] (zW Y Z Z2 y th t c q b bc n ar fi rn T) (some (.int (b 2 j))) := by
  refine zRN.of (cc := cX5_bargeTold) (maxL := 3) (ret := (some .int)) (own := RX5) (by decide) rfl (Nat.le_of_ble_eq_true rfl) rfl ?_
  intro p e s m args below meth cd ls hx hb hr hml hown hts hlocks hP hK hN hl
  have hl : lv_has ls 3 [(0, .ref (Y 0)), (1, .int (nI j)), (2, .int 1)] := hl
  have hf24 : (Cond.fieldLink RX5 24 "StakeWeirsModel" "s" "LStakeWeirsModel$State;").before args s = true := hts _ (by decide +kernel)
  have hinX5 : ∀ w ∈ wsX50, w ∈ wsX5_bargeTold := by decide +kernel
  have hf78 : (Cond.fieldLinkNest "StakeWeirsModel" 78 "StakeWeirsModel$State" "at" "[I" "StakeWeirsModel").before args s = true := va_Nw.use rfl (hN ("StakeWeirsModel", 78, "StakeWeirsModel$State", "at", "[I", "StakeWeirsModel") (by decide +kernel))
  have hinX4 : ∀ w ∈ wsX40, w ∈ wsX5_bargeTold := by decide +kernel
  refine lv_iload_n hx hb dX5_bargeTold_0 rfl (lv_at hl 2 rfl) ?_
  refine lv_if_ne (tgt := 16) hx hb dX5_bargeTold_1 (by decide) (fun c1 => ?_) (fun c1 => ?_)
  · have d1 := c1
    refine lv_iload_n hx hb dX5_bargeTold_16 rfl (lv_at hl 2 rfl) ?_
    refine lv_iconst (v := 1) hx hb dX5_bargeTold_17 (by decide) ?_
    refine lv_icmp_ne (tgt := 33) hx hb dX5_bargeTold_18 (by decide) (fun c2 => ?_) (fun c2 => ?_)
    · exact absurd c2 (by decide)
    · have d2 := c2
      refine lv_aload_n hx hb dX5_bargeTold_21 rfl (lv_at hl 0 rfl) ?_
      refine va_get (D := D) (ci := 5) (v := .ref (Z 0)) (C := RX5) (T := TX5) (N := 7) hx hb hts hinX5 hown hK hP (0) rfl rfl 5 (by decide) hf24 (fun _ h9 => h9) rfl dX5_bargeTold_22 ?_
      refine va_getN (D := D) (ci := 4) (v := .ref (Z 8)) (C := RX4) (T := TX4) (N := 16) hx hb hts hinX4 hown hK hP (4) rfl rfl 9 (by decide) hf78 (fun _ h9 => h9) rfl dX5_bargeTold_25 ?_
      refine lv_iload_n hx hb dX5_bargeTold_28 rfl (lv_at hl 1 rfl) ?_
      refine z_ald hx hb hK hP 12 (f := b 2) rfl j rfl (by omega) (by decide) dX5_bargeTold_29 ?_
      refine lv_goto (tgt := 55) hx hb dX5_bargeTold_30 (by decide) ?_
      exact zR_i hx hb hr hlocks dX5_bargeTold_55 rfl
  · exact absurd c1 (by decide)
set_option maxHeartbeats 1000000 in
set_option maxRecDepth 100000 in
theorem c_X5_bargeTold_2 (l : Launch) (D : va_G) (y : Nat → ClassId) (Y Z Z2 : Nat → Nat) (th : Int32) (t : Nat → Int32) (c : Nat) (q b : Fld) (bc n : Nat) (ar fi rn : Int32) (T : Nst) (j : Nat) (hj : j < 5) : zRN l yX5_bargeTold wsX5_bargeTold { frames := 0, cells := 0, slots := 0, locals := 0 } D y [.ref (Y 0), .int (nI j), .int 2] (zW Y Z Z2 y th t c q b bc n ar fi rn T) (some (.int (b 3 j))) := by
  refine zRN.of (cc := cX5_bargeTold) (maxL := 3) (ret := (some .int)) (own := RX5) (by decide) rfl (Nat.le_of_ble_eq_true rfl) rfl ?_
  intro p e s m args below meth cd ls hx hb hr hml hown hts hlocks hP hK hN hl
  have hl : lv_has ls 3 [(0, .ref (Y 0)), (1, .int (nI j)), (2, .int 2)] := hl
  have hf24 : (Cond.fieldLink RX5 24 "StakeWeirsModel" "s" "LStakeWeirsModel$State;").before args s = true := hts _ (by decide +kernel)
  have hinX5 : ∀ w ∈ wsX50, w ∈ wsX5_bargeTold := by decide +kernel
  have hf81 : (Cond.fieldLinkNest "StakeWeirsModel" 81 "StakeWeirsModel$State" "broken" "[I" "StakeWeirsModel").before args s = true := va_Nw.use rfl (hN ("StakeWeirsModel", 81, "StakeWeirsModel$State", "broken", "[I", "StakeWeirsModel") (by decide +kernel))
  have hinX4 : ∀ w ∈ wsX40, w ∈ wsX5_bargeTold := by decide +kernel
  refine lv_iload_n hx hb dX5_bargeTold_0 rfl (lv_at hl 2 rfl) ?_
  refine lv_if_ne (tgt := 16) hx hb dX5_bargeTold_1 (by decide) (fun c1 => ?_) (fun c1 => ?_)
  · have d1 := c1
    refine lv_iload_n hx hb dX5_bargeTold_16 rfl (lv_at hl 2 rfl) ?_
    refine lv_iconst (v := 1) hx hb dX5_bargeTold_17 (by decide) ?_
    refine lv_icmp_ne (tgt := 33) hx hb dX5_bargeTold_18 (by decide) (fun c2 => ?_) (fun c2 => ?_)
    · have d2 := c2
      refine lv_iload_n hx hb dX5_bargeTold_33 rfl (lv_at hl 2 rfl) ?_
      refine lv_iconst (v := 2) hx hb dX5_bargeTold_34 (by decide) ?_
      refine lv_icmp_ne (tgt := 50) hx hb dX5_bargeTold_35 (by decide) (fun c3 => ?_) (fun c3 => ?_)
      · exact absurd c3 (by decide)
      · have d3 := c3
        refine lv_aload_n hx hb dX5_bargeTold_38 rfl (lv_at hl 0 rfl) ?_
        refine va_get (D := D) (ci := 5) (v := .ref (Z 0)) (C := RX5) (T := TX5) (N := 7) hx hb hts hinX5 hown hK hP (0) rfl rfl 5 (by decide) hf24 (fun _ h9 => h9) rfl dX5_bargeTold_39 ?_
        refine va_getN (D := D) (ci := 4) (v := .ref (Z 9)) (C := RX4) (T := TX4) (N := 16) hx hb hts hinX4 hown hK hP (4) rfl rfl 10 (by decide) hf81 (fun _ h9 => h9) rfl dX5_bargeTold_42 ?_
        refine lv_iload_n hx hb dX5_bargeTold_45 rfl (lv_at hl 1 rfl) ?_
        refine z_ald hx hb hK hP 13 (f := b 3) rfl j rfl (by omega) (by decide) dX5_bargeTold_46 ?_
        refine lv_goto (tgt := 55) hx hb dX5_bargeTold_47 (by decide) ?_
        exact zR_i hx hb hr hlocks dX5_bargeTold_55 rfl
    · exact absurd c2 (by decide)
  · exact absurd c1 (by decide)
set_option maxHeartbeats 1000000 in
set_option maxRecDepth 100000 in
theorem c_X5_bargeTold_3 (l : Launch) (D : va_G) (y : Nat → ClassId) (Y Z Z2 : Nat → Nat) (th : Int32) (t : Nat → Int32) (c : Nat) (q b : Fld) (bc n : Nat) (ar fi rn : Int32) (T : Nst) (j p0 : Nat) (hj : j < 5) (hp : b 2 j + 1 = nI p0) (hp0 : p0 ≤ 40) (hc : c ≤ 6) : zRN l yX5_bargeTold wsX5_bargeTold { frames := 3, cells := 0, slots := 0, locals := 66 } D y [.ref (Y 0), .int (nI j), .int 3] (zW Y Z Z2 y th t c q b bc n ar fi rn T) (some (.int (nfO q (b 1 j) c (40 - p0)))) := by
  refine zRN.of (cc := cX5_bargeTold) (maxL := 3) (ret := (some .int)) (own := RX5) (by decide) rfl (Nat.le_of_ble_eq_true rfl) rfl ?_
  intro p e s m args below meth cd ls hx hb hr hml hown hts hlocks hP hK hN hl
  have hl : lv_has ls 3 [(0, .ref (Y 0)), (1, .int (nI j)), (2, .int 3)] := hl
  refine lv_iload_n hx hb dX5_bargeTold_0 rfl (lv_at hl 2 rfl) ?_
  refine lv_if_ne (tgt := 16) hx hb dX5_bargeTold_1 (by decide) (fun c1 => ?_) (fun c1 => ?_)
  · have d1 := c1
    refine lv_iload_n hx hb dX5_bargeTold_16 rfl (lv_at hl 2 rfl) ?_
    refine lv_iconst (v := 1) hx hb dX5_bargeTold_17 (by decide) ?_
    refine lv_icmp_ne (tgt := 33) hx hb dX5_bargeTold_18 (by decide) (fun c2 => ?_) (fun c2 => ?_)
    · have d2 := c2
      refine lv_iload_n hx hb dX5_bargeTold_33 rfl (lv_at hl 2 rfl) ?_
      refine lv_iconst (v := 2) hx hb dX5_bargeTold_34 (by decide) ?_
      refine lv_icmp_ne (tgt := 50) hx hb dX5_bargeTold_35 (by decide) (fun c3 => ?_) (fun c3 => ?_)
      · have d3 := c3
        refine lv_aload_n hx hb dX5_bargeTold_50 rfl (lv_at hl 0 rfl) ?_
        refine lv_iload_n hx hb dX5_bargeTold_51 rfl (lv_at hl 1 rfl) ?_
        refine zcNRV (As := [.int (nI j)]) (rest := []) (st1 := [.int ((nfO q (b 1 j) c (40 - p0)))]) ⟨hx, hb, hml, hown, hts⟩ (c_X5_nextFor l D y Y Z Z2 th t c q b bc n ar fi rn T j p0 (by omega) hp hp0 (by omega)) (cwV 1 hts gX5_bargeTold_X5_nextFor rfl rfl rfl (by decide +kernel) ⟨Nat.le_of_ble_eq_true rfl, Nat.le_of_ble_eq_true rfl⟩) hN hK hP (ci := 5) (q0 := 0) rfl rfl rfl rfl hl.1 rfl (lv_room (Nat.le_of_ble_eq_true rfl)) dX5_bargeTold_52 ⟨Nat.le_of_ble_eq_true rfl, Nat.le_of_ble_eq_true rfl⟩ rfl ?_
        exact zR_i hx hb hr hlocks dX5_bargeTold_55 rfl
      · exact absurd c3 (by decide)
    · exact absurd c2 (by decide)
  · exact absurd c1 (by decide)
set_option maxHeartbeats 1000000 in
set_option maxRecDepth 100000 in
theorem c_X5_told_0 (l : Launch) (D : va_G) (y : Nat → ClassId) (Y Z Z2 : Nat → Nat) (th : Int32) (t : Nat → Int32) (c : Nat) (q b : Fld) (bc n : Nat) (ar fi rn : Int32) (T : Nst) (j : Nat) (hj : j < bc) (hbc : bc ≤ 5)  (sz : Nat) : zMN l yX5_told wsX5_told { frames := 2, cells := 0, slots := 0, locals := 43 } D y [.ref (Y 0), .int (nI j), .int 0] (zW Y Z Z2 y th t c q b bc n ar fi rn T) sz (some (.int (b 1 j))) (zW Y Z Z2 y 0 t c q b bc n ar fi rn T) 0 0 := by
  refine zMN.of (cc := cX5_told) (maxL := 3) (ret := (some .int)) (own := RX5) (by decide) rfl (Nat.le_of_ble_eq_true rfl) rfl ?_
  intro p e s m args below meth cd ls A H locs hx hb hr hml hown hts hlocks hP hK hD hA hS hN hl hin
  have hS0 := hS
  have hl : lv_has ls 3 [(0, .ref (Y 0)), (1, .int (nI j)), (2, .int 0)] := hl
  have hf31 : (Cond.fieldLink RX5 31 "StakeWeirsModel" "thrown" "I").before args s = true := hts _ (by decide +kernel)
  have hinX5 : ∀ w ∈ wsX50, w ∈ wsX5_told := by decide +kernel
  refine lv_aload_n hx hb dX5_told_0 rfl (lv_at hl 0 rfl) ?_
  refine lv_iconst (v := 0) hx hb dX5_told_1 (by decide) ?_
  refine va_put (D := D) (ci := 5) (v := .int 0) (ty := .int) (C := RX5) (T := TX5) (N := 7) hx hb hts hinX5 tyX5 tyX5_ok nmX5 hown hK hP hD hS (0) rfl rfl 0 (by decide) hf31 (fun _ h9 => h9) rfl (by decide +kernel) rfl rfl (Nat.le_of_ble_eq_true rfl) dX5_told_2 (fun H locs hP hD hS => ?_)
  have hP : va_P D vwCl (zW Y Z Z2 y 0 t c q b bc n ar fi rn T) H := hP
  have hD : va_D A (zW Y Z Z2 y 0 t c q b bc n ar fi rn T) := hD
  refine lv_aload_n hx hb dX5_told_5 rfl (lv_at hl 0 rfl) ?_
  refine lv_iload_n hx hb dX5_told_6 rfl (lv_at hl 1 rfl) ?_
  refine zcNRV (As := [.int (nI j)]) (rest := []) (st1 := [.int (zb (inB 0 (nI j) (nI bc - 1)))]) ⟨hx, hb, hml, hown, hts⟩ (c_X5_isBarge l D y Y Z Z2 0 t c q b bc n ar fi rn T (nI j)) (cwV 1 hts gX5_told_X5_isBarge rfl rfl rfl (by decide +kernel) ⟨Nat.le_of_ble_eq_true rfl, Nat.le_of_ble_eq_true rfl⟩) hN hK hP (ci := 5) (q0 := 0) rfl rfl rfl rfl hl.1 rfl (lv_room (Nat.le_of_ble_eq_true rfl)) dX5_told_7 ⟨Nat.le_of_ble_eq_true rfl, Nat.le_of_ble_eq_true rfl⟩ rfl ?_
  refine lv_if_eq (tgt := 31) hx hb dX5_told_10 (by decide) (fun c1 => ?_) (fun c1 => ?_)
  · exact absurd (zb_f c1) (by rw [(inW_t hj (by omega))]; decide)
  · have c1 := c1
    refine lv_iload_n hx hb dX5_told_13 rfl (lv_at hl 2 rfl) ?_
    refine lv_iconst (v := 0) hx hb dX5_told_14 (by decide) ?_
    refine lv_iconst (v := 3) hx hb dX5_told_15 (by decide) ?_
    refine zcRS (As := [.int 0, .int 0, .int 3]) (rest := []) (st1 := [.int (zb (inB 0 0 3))]) ⟨hx, hb, hml, hown, hts⟩ (c_X5_isIn l D y 0 0 3) (cwS 3 hts gX5_told_X5_isIn rfl rfl rfl (by decide +kernel) ⟨Nat.le_of_ble_eq_true rfl, Nat.le_of_ble_eq_true rfl⟩) hK va_P_nil rfl hl.1 rfl (lv_room (Nat.le_of_ble_eq_true rfl)) dX5_told_16 ⟨Nat.le_of_ble_eq_true rfl, Nat.le_of_ble_eq_true rfl⟩ rfl ?_
    refine lv_if_eq (tgt := 31) hx hb dX5_told_19 (by decide) (fun c2 => ?_) (fun c2 => ?_)
    · exact absurd (zb_f c2) (by rw [(show inB 0 0 3 = true from by decide)]; decide)
    · have c2 := c2
      refine lv_aload_n hx hb dX5_told_22 rfl (lv_at hl 0 rfl) ?_
      refine lv_iload_n hx hb dX5_told_23 rfl (lv_at hl 1 rfl) ?_
      refine lv_iload_n hx hb dX5_told_24 rfl (lv_at hl 2 rfl) ?_
      refine zcNRV (As := [.int (nI j), .int 0]) (rest := []) (st1 := [.int ((b 1 j))]) ⟨hx, hb, hml, hown, hts⟩ (c_X5_bargeTold_0 l D y Y Z Z2 0 t c q b bc n ar fi rn T j (by omega)) (cwV 2 hts gX5_told_X5_bargeTold rfl rfl rfl (by decide +kernel) ⟨Nat.le_of_ble_eq_true rfl, Nat.le_of_ble_eq_true rfl⟩) hN hK hP (ci := 5) (q0 := 0) rfl rfl rfl rfl hl.1 rfl (lv_room (Nat.le_of_ble_eq_true rfl)) dX5_told_25 ⟨Nat.le_of_ble_eq_true rfl, Nat.le_of_ble_eq_true rfl⟩ rfl ?_
      refine lv_goto (tgt := 36) hx hb dX5_told_28 (by decide) ?_
      exact zM_i hx hb hr hlocks hS dX5_told_36 rfl hP
set_option maxHeartbeats 1000000 in
set_option maxRecDepth 100000 in
theorem c_X5_told_1 (l : Launch) (D : va_G) (y : Nat → ClassId) (Y Z Z2 : Nat → Nat) (th : Int32) (t : Nat → Int32) (c : Nat) (q b : Fld) (bc n : Nat) (ar fi rn : Int32) (T : Nst) (j : Nat) (hj : j < bc) (hbc : bc ≤ 5)  (sz : Nat) : zMN l yX5_told wsX5_told { frames := 2, cells := 0, slots := 0, locals := 43 } D y [.ref (Y 0), .int (nI j), .int 1] (zW Y Z Z2 y th t c q b bc n ar fi rn T) sz (some (.int (b 2 j))) (zW Y Z Z2 y 0 t c q b bc n ar fi rn T) 0 0 := by
  refine zMN.of (cc := cX5_told) (maxL := 3) (ret := (some .int)) (own := RX5) (by decide) rfl (Nat.le_of_ble_eq_true rfl) rfl ?_
  intro p e s m args below meth cd ls A H locs hx hb hr hml hown hts hlocks hP hK hD hA hS hN hl hin
  have hS0 := hS
  have hl : lv_has ls 3 [(0, .ref (Y 0)), (1, .int (nI j)), (2, .int 1)] := hl
  have hf31 : (Cond.fieldLink RX5 31 "StakeWeirsModel" "thrown" "I").before args s = true := hts _ (by decide +kernel)
  have hinX5 : ∀ w ∈ wsX50, w ∈ wsX5_told := by decide +kernel
  refine lv_aload_n hx hb dX5_told_0 rfl (lv_at hl 0 rfl) ?_
  refine lv_iconst (v := 0) hx hb dX5_told_1 (by decide) ?_
  refine va_put (D := D) (ci := 5) (v := .int 0) (ty := .int) (C := RX5) (T := TX5) (N := 7) hx hb hts hinX5 tyX5 tyX5_ok nmX5 hown hK hP hD hS (0) rfl rfl 0 (by decide) hf31 (fun _ h9 => h9) rfl (by decide +kernel) rfl rfl (Nat.le_of_ble_eq_true rfl) dX5_told_2 (fun H locs hP hD hS => ?_)
  have hP : va_P D vwCl (zW Y Z Z2 y 0 t c q b bc n ar fi rn T) H := hP
  have hD : va_D A (zW Y Z Z2 y 0 t c q b bc n ar fi rn T) := hD
  refine lv_aload_n hx hb dX5_told_5 rfl (lv_at hl 0 rfl) ?_
  refine lv_iload_n hx hb dX5_told_6 rfl (lv_at hl 1 rfl) ?_
  refine zcNRV (As := [.int (nI j)]) (rest := []) (st1 := [.int (zb (inB 0 (nI j) (nI bc - 1)))]) ⟨hx, hb, hml, hown, hts⟩ (c_X5_isBarge l D y Y Z Z2 0 t c q b bc n ar fi rn T (nI j)) (cwV 1 hts gX5_told_X5_isBarge rfl rfl rfl (by decide +kernel) ⟨Nat.le_of_ble_eq_true rfl, Nat.le_of_ble_eq_true rfl⟩) hN hK hP (ci := 5) (q0 := 0) rfl rfl rfl rfl hl.1 rfl (lv_room (Nat.le_of_ble_eq_true rfl)) dX5_told_7 ⟨Nat.le_of_ble_eq_true rfl, Nat.le_of_ble_eq_true rfl⟩ rfl ?_
  refine lv_if_eq (tgt := 31) hx hb dX5_told_10 (by decide) (fun c1 => ?_) (fun c1 => ?_)
  · exact absurd (zb_f c1) (by rw [(inW_t hj (by omega))]; decide)
  · have c1 := c1
    refine lv_iload_n hx hb dX5_told_13 rfl (lv_at hl 2 rfl) ?_
    refine lv_iconst (v := 0) hx hb dX5_told_14 (by decide) ?_
    refine lv_iconst (v := 3) hx hb dX5_told_15 (by decide) ?_
    refine zcRS (As := [.int 1, .int 0, .int 3]) (rest := []) (st1 := [.int (zb (inB 0 1 3))]) ⟨hx, hb, hml, hown, hts⟩ (c_X5_isIn l D y 1 0 3) (cwS 3 hts gX5_told_X5_isIn rfl rfl rfl (by decide +kernel) ⟨Nat.le_of_ble_eq_true rfl, Nat.le_of_ble_eq_true rfl⟩) hK va_P_nil rfl hl.1 rfl (lv_room (Nat.le_of_ble_eq_true rfl)) dX5_told_16 ⟨Nat.le_of_ble_eq_true rfl, Nat.le_of_ble_eq_true rfl⟩ rfl ?_
    refine lv_if_eq (tgt := 31) hx hb dX5_told_19 (by decide) (fun c2 => ?_) (fun c2 => ?_)
    · exact absurd (zb_f c2) (by rw [(show inB 0 1 3 = true from by decide)]; decide)
    · have c2 := c2
      refine lv_aload_n hx hb dX5_told_22 rfl (lv_at hl 0 rfl) ?_
      refine lv_iload_n hx hb dX5_told_23 rfl (lv_at hl 1 rfl) ?_
      refine lv_iload_n hx hb dX5_told_24 rfl (lv_at hl 2 rfl) ?_
      refine zcNRV (As := [.int (nI j), .int 1]) (rest := []) (st1 := [.int ((b 2 j))]) ⟨hx, hb, hml, hown, hts⟩ (c_X5_bargeTold_1 l D y Y Z Z2 0 t c q b bc n ar fi rn T j (by omega)) (cwV 2 hts gX5_told_X5_bargeTold rfl rfl rfl (by decide +kernel) ⟨Nat.le_of_ble_eq_true rfl, Nat.le_of_ble_eq_true rfl⟩) hN hK hP (ci := 5) (q0 := 0) rfl rfl rfl rfl hl.1 rfl (lv_room (Nat.le_of_ble_eq_true rfl)) dX5_told_25 ⟨Nat.le_of_ble_eq_true rfl, Nat.le_of_ble_eq_true rfl⟩ rfl ?_
      refine lv_goto (tgt := 36) hx hb dX5_told_28 (by decide) ?_
      exact zM_i hx hb hr hlocks hS dX5_told_36 rfl hP
set_option maxHeartbeats 1000000 in
set_option maxRecDepth 100000 in
theorem c_X5_told_2 (l : Launch) (D : va_G) (y : Nat → ClassId) (Y Z Z2 : Nat → Nat) (th : Int32) (t : Nat → Int32) (c : Nat) (q b : Fld) (bc n : Nat) (ar fi rn : Int32) (T : Nst) (j : Nat) (hj : j < bc) (hbc : bc ≤ 5)  (sz : Nat) : zMN l yX5_told wsX5_told { frames := 2, cells := 0, slots := 0, locals := 43 } D y [.ref (Y 0), .int (nI j), .int 2] (zW Y Z Z2 y th t c q b bc n ar fi rn T) sz (some (.int (b 3 j))) (zW Y Z Z2 y 0 t c q b bc n ar fi rn T) 0 0 := by
  refine zMN.of (cc := cX5_told) (maxL := 3) (ret := (some .int)) (own := RX5) (by decide) rfl (Nat.le_of_ble_eq_true rfl) rfl ?_
  intro p e s m args below meth cd ls A H locs hx hb hr hml hown hts hlocks hP hK hD hA hS hN hl hin
  have hS0 := hS
  have hl : lv_has ls 3 [(0, .ref (Y 0)), (1, .int (nI j)), (2, .int 2)] := hl
  have hf31 : (Cond.fieldLink RX5 31 "StakeWeirsModel" "thrown" "I").before args s = true := hts _ (by decide +kernel)
  have hinX5 : ∀ w ∈ wsX50, w ∈ wsX5_told := by decide +kernel
  refine lv_aload_n hx hb dX5_told_0 rfl (lv_at hl 0 rfl) ?_
  refine lv_iconst (v := 0) hx hb dX5_told_1 (by decide) ?_
  refine va_put (D := D) (ci := 5) (v := .int 0) (ty := .int) (C := RX5) (T := TX5) (N := 7) hx hb hts hinX5 tyX5 tyX5_ok nmX5 hown hK hP hD hS (0) rfl rfl 0 (by decide) hf31 (fun _ h9 => h9) rfl (by decide +kernel) rfl rfl (Nat.le_of_ble_eq_true rfl) dX5_told_2 (fun H locs hP hD hS => ?_)
  have hP : va_P D vwCl (zW Y Z Z2 y 0 t c q b bc n ar fi rn T) H := hP
  have hD : va_D A (zW Y Z Z2 y 0 t c q b bc n ar fi rn T) := hD
  refine lv_aload_n hx hb dX5_told_5 rfl (lv_at hl 0 rfl) ?_
  refine lv_iload_n hx hb dX5_told_6 rfl (lv_at hl 1 rfl) ?_
  refine zcNRV (As := [.int (nI j)]) (rest := []) (st1 := [.int (zb (inB 0 (nI j) (nI bc - 1)))]) ⟨hx, hb, hml, hown, hts⟩ (c_X5_isBarge l D y Y Z Z2 0 t c q b bc n ar fi rn T (nI j)) (cwV 1 hts gX5_told_X5_isBarge rfl rfl rfl (by decide +kernel) ⟨Nat.le_of_ble_eq_true rfl, Nat.le_of_ble_eq_true rfl⟩) hN hK hP (ci := 5) (q0 := 0) rfl rfl rfl rfl hl.1 rfl (lv_room (Nat.le_of_ble_eq_true rfl)) dX5_told_7 ⟨Nat.le_of_ble_eq_true rfl, Nat.le_of_ble_eq_true rfl⟩ rfl ?_
  refine lv_if_eq (tgt := 31) hx hb dX5_told_10 (by decide) (fun c1 => ?_) (fun c1 => ?_)
  · exact absurd (zb_f c1) (by rw [(inW_t hj (by omega))]; decide)
  · have c1 := c1
    refine lv_iload_n hx hb dX5_told_13 rfl (lv_at hl 2 rfl) ?_
    refine lv_iconst (v := 0) hx hb dX5_told_14 (by decide) ?_
    refine lv_iconst (v := 3) hx hb dX5_told_15 (by decide) ?_
    refine zcRS (As := [.int 2, .int 0, .int 3]) (rest := []) (st1 := [.int (zb (inB 0 2 3))]) ⟨hx, hb, hml, hown, hts⟩ (c_X5_isIn l D y 2 0 3) (cwS 3 hts gX5_told_X5_isIn rfl rfl rfl (by decide +kernel) ⟨Nat.le_of_ble_eq_true rfl, Nat.le_of_ble_eq_true rfl⟩) hK va_P_nil rfl hl.1 rfl (lv_room (Nat.le_of_ble_eq_true rfl)) dX5_told_16 ⟨Nat.le_of_ble_eq_true rfl, Nat.le_of_ble_eq_true rfl⟩ rfl ?_
    refine lv_if_eq (tgt := 31) hx hb dX5_told_19 (by decide) (fun c2 => ?_) (fun c2 => ?_)
    · exact absurd (zb_f c2) (by rw [(show inB 0 2 3 = true from by decide)]; decide)
    · have c2 := c2
      refine lv_aload_n hx hb dX5_told_22 rfl (lv_at hl 0 rfl) ?_
      refine lv_iload_n hx hb dX5_told_23 rfl (lv_at hl 1 rfl) ?_
      refine lv_iload_n hx hb dX5_told_24 rfl (lv_at hl 2 rfl) ?_
      refine zcNRV (As := [.int (nI j), .int 2]) (rest := []) (st1 := [.int ((b 3 j))]) ⟨hx, hb, hml, hown, hts⟩ (c_X5_bargeTold_2 l D y Y Z Z2 0 t c q b bc n ar fi rn T j (by omega)) (cwV 2 hts gX5_told_X5_bargeTold rfl rfl rfl (by decide +kernel) ⟨Nat.le_of_ble_eq_true rfl, Nat.le_of_ble_eq_true rfl⟩) hN hK hP (ci := 5) (q0 := 0) rfl rfl rfl rfl hl.1 rfl (lv_room (Nat.le_of_ble_eq_true rfl)) dX5_told_25 ⟨Nat.le_of_ble_eq_true rfl, Nat.le_of_ble_eq_true rfl⟩ rfl ?_
      refine lv_goto (tgt := 36) hx hb dX5_told_28 (by decide) ?_
      exact zM_i hx hb hr hlocks hS dX5_told_36 rfl hP
set_option maxHeartbeats 1000000 in
set_option maxRecDepth 100000 in
theorem c_X5_told_3 (l : Launch) (D : va_G) (y : Nat → ClassId) (Y Z Z2 : Nat → Nat) (th : Int32) (t : Nat → Int32) (c : Nat) (q b : Fld) (bc n : Nat) (ar fi rn : Int32) (T : Nst) (j : Nat) (hj : j < bc) (hbc : bc ≤ 5) (p0 : Nat) (hp : b 2 j + 1 = nI p0) (hp0 : p0 ≤ 40) (hc : c ≤ 6) (sz : Nat) : zMN l yX5_told wsX5_told { frames := 4, cells := 0, slots := 0, locals := 88 } D y [.ref (Y 0), .int (nI j), .int 3] (zW Y Z Z2 y th t c q b bc n ar fi rn T) sz (some (.int (nfO q (b 1 j) c (40 - p0)))) (zW Y Z Z2 y 0 t c q b bc n ar fi rn T) 0 0 := by
  refine zMN.of (cc := cX5_told) (maxL := 3) (ret := (some .int)) (own := RX5) (by decide) rfl (Nat.le_of_ble_eq_true rfl) rfl ?_
  intro p e s m args below meth cd ls A H locs hx hb hr hml hown hts hlocks hP hK hD hA hS hN hl hin
  have hS0 := hS
  have hl : lv_has ls 3 [(0, .ref (Y 0)), (1, .int (nI j)), (2, .int 3)] := hl
  have hf31 : (Cond.fieldLink RX5 31 "StakeWeirsModel" "thrown" "I").before args s = true := hts _ (by decide +kernel)
  have hinX5 : ∀ w ∈ wsX50, w ∈ wsX5_told := by decide +kernel
  refine lv_aload_n hx hb dX5_told_0 rfl (lv_at hl 0 rfl) ?_
  refine lv_iconst (v := 0) hx hb dX5_told_1 (by decide) ?_
  refine va_put (D := D) (ci := 5) (v := .int 0) (ty := .int) (C := RX5) (T := TX5) (N := 7) hx hb hts hinX5 tyX5 tyX5_ok nmX5 hown hK hP hD hS (0) rfl rfl 0 (by decide) hf31 (fun _ h9 => h9) rfl (by decide +kernel) rfl rfl (Nat.le_of_ble_eq_true rfl) dX5_told_2 (fun H locs hP hD hS => ?_)
  have hP : va_P D vwCl (zW Y Z Z2 y 0 t c q b bc n ar fi rn T) H := hP
  have hD : va_D A (zW Y Z Z2 y 0 t c q b bc n ar fi rn T) := hD
  refine lv_aload_n hx hb dX5_told_5 rfl (lv_at hl 0 rfl) ?_
  refine lv_iload_n hx hb dX5_told_6 rfl (lv_at hl 1 rfl) ?_
  refine zcNRV (As := [.int (nI j)]) (rest := []) (st1 := [.int (zb (inB 0 (nI j) (nI bc - 1)))]) ⟨hx, hb, hml, hown, hts⟩ (c_X5_isBarge l D y Y Z Z2 0 t c q b bc n ar fi rn T (nI j)) (cwV 1 hts gX5_told_X5_isBarge rfl rfl rfl (by decide +kernel) ⟨Nat.le_of_ble_eq_true rfl, Nat.le_of_ble_eq_true rfl⟩) hN hK hP (ci := 5) (q0 := 0) rfl rfl rfl rfl hl.1 rfl (lv_room (Nat.le_of_ble_eq_true rfl)) dX5_told_7 ⟨Nat.le_of_ble_eq_true rfl, Nat.le_of_ble_eq_true rfl⟩ rfl ?_
  refine lv_if_eq (tgt := 31) hx hb dX5_told_10 (by decide) (fun c1 => ?_) (fun c1 => ?_)
  · exact absurd (zb_f c1) (by rw [(inW_t hj (by omega))]; decide)
  · have c1 := c1
    refine lv_iload_n hx hb dX5_told_13 rfl (lv_at hl 2 rfl) ?_
    refine lv_iconst (v := 0) hx hb dX5_told_14 (by decide) ?_
    refine lv_iconst (v := 3) hx hb dX5_told_15 (by decide) ?_
    refine zcRS (As := [.int 3, .int 0, .int 3]) (rest := []) (st1 := [.int (zb (inB 0 3 3))]) ⟨hx, hb, hml, hown, hts⟩ (c_X5_isIn l D y 3 0 3) (cwS 3 hts gX5_told_X5_isIn rfl rfl rfl (by decide +kernel) ⟨Nat.le_of_ble_eq_true rfl, Nat.le_of_ble_eq_true rfl⟩) hK va_P_nil rfl hl.1 rfl (lv_room (Nat.le_of_ble_eq_true rfl)) dX5_told_16 ⟨Nat.le_of_ble_eq_true rfl, Nat.le_of_ble_eq_true rfl⟩ rfl ?_
    refine lv_if_eq (tgt := 31) hx hb dX5_told_19 (by decide) (fun c2 => ?_) (fun c2 => ?_)
    · exact absurd (zb_f c2) (by rw [(show inB 0 3 3 = true from by decide)]; decide)
    · have c2 := c2
      refine lv_aload_n hx hb dX5_told_22 rfl (lv_at hl 0 rfl) ?_
      refine lv_iload_n hx hb dX5_told_23 rfl (lv_at hl 1 rfl) ?_
      refine lv_iload_n hx hb dX5_told_24 rfl (lv_at hl 2 rfl) ?_
      refine zcNRV (As := [.int (nI j), .int 3]) (rest := []) (st1 := [.int ((nfO q (b 1 j) c (40 - p0)))]) ⟨hx, hb, hml, hown, hts⟩ (c_X5_bargeTold_3 l D y Y Z Z2 0 t c q b bc n ar fi rn T j p0 (by omega) hp hp0 (by omega)) (cwV 2 hts gX5_told_X5_bargeTold rfl rfl rfl (by decide +kernel) ⟨Nat.le_of_ble_eq_true rfl, Nat.le_of_ble_eq_true rfl⟩) hN hK hP (ci := 5) (q0 := 0) rfl rfl rfl rfl hl.1 rfl (lv_room (Nat.le_of_ble_eq_true rfl)) dX5_told_25 ⟨Nat.le_of_ble_eq_true rfl, Nat.le_of_ble_eq_true rfl⟩ rfl ?_
      refine lv_goto (tgt := 36) hx hb dX5_told_28 (by decide) ?_
      exact zM_i hx hb hr hlocks hS dX5_told_36 rfl hP
set_option maxHeartbeats 1000000 in
set_option maxRecDepth 100000 in
theorem c_X5_told_N1 (l : Launch) (D : va_G) (y : Nat → ClassId) (Y Z Z2 : Nat → Nat) (th : Int32) (t : Nat → Int32) (c : Nat) (q b : Fld) (bc n : Nat) (ar fi rn : Int32) (T : Nst) (x : Int32) (hx0 : x < 0 ∨ nI bc ≤ x) (z : Int32) (hbc : bc ≤ 5) (sz : Nat) : zMN l yX5_told wsX5_told { frames := 2, cells := 0, slots := 0, locals := 43 } D y [.ref (Y 0), .int x, .int z] (zW Y Z Z2 y th t c q b bc n ar fi rn T) sz (some (.int 0)) (zW Y Z Z2 y 1 t c q b bc n ar fi rn T) 0 0 := by
  refine zMN.of (cc := cX5_told) (maxL := 3) (ret := (some .int)) (own := RX5) (by decide) rfl (Nat.le_of_ble_eq_true rfl) rfl ?_
  intro p e s m args below meth cd ls A H locs hx hb hr hml hown hts hlocks hP hK hD hA hS hN hl hin
  have hS0 := hS
  have hl : lv_has ls 3 [(0, .ref (Y 0)), (1, .int x), (2, .int z)] := hl
  have hf31 : (Cond.fieldLink RX5 31 "StakeWeirsModel" "thrown" "I").before args s = true := hts _ (by decide +kernel)
  have hinX5 : ∀ w ∈ wsX50, w ∈ wsX5_told := by decide +kernel
  refine lv_aload_n hx hb dX5_told_0 rfl (lv_at hl 0 rfl) ?_
  refine lv_iconst (v := 0) hx hb dX5_told_1 (by decide) ?_
  refine va_put (D := D) (ci := 5) (v := .int 0) (ty := .int) (C := RX5) (T := TX5) (N := 7) hx hb hts hinX5 tyX5 tyX5_ok nmX5 hown hK hP hD hS (0) rfl rfl 0 (by decide) hf31 (fun _ h9 => h9) rfl (by decide +kernel) rfl rfl (Nat.le_of_ble_eq_true rfl) dX5_told_2 (fun H locs hP hD hS => ?_)
  have hP : va_P D vwCl (zW Y Z Z2 y 0 t c q b bc n ar fi rn T) H := hP
  have hD : va_D A (zW Y Z Z2 y 0 t c q b bc n ar fi rn T) := hD
  refine lv_aload_n hx hb dX5_told_5 rfl (lv_at hl 0 rfl) ?_
  refine lv_iload_n hx hb dX5_told_6 rfl (lv_at hl 1 rfl) ?_
  refine zcNRV (As := [.int x]) (rest := []) (st1 := [.int (zb (inB 0 x (nI bc - 1)))]) ⟨hx, hb, hml, hown, hts⟩ (c_X5_isBarge l D y Y Z Z2 0 t c q b bc n ar fi rn T x) (cwV 1 hts gX5_told_X5_isBarge rfl rfl rfl (by decide +kernel) ⟨Nat.le_of_ble_eq_true rfl, Nat.le_of_ble_eq_true rfl⟩) hN hK hP (ci := 5) (q0 := 0) rfl rfl rfl rfl hl.1 rfl (lv_room (Nat.le_of_ble_eq_true rfl)) dX5_told_7 ⟨Nat.le_of_ble_eq_true rfl, Nat.le_of_ble_eq_true rfl⟩ rfl ?_
  refine lv_if_eq (tgt := 31) hx hb dX5_told_10 (by decide) (fun c1 => ?_) (fun c1 => ?_)
  · have c1 := c1
    refine lv_aload_n hx hb dX5_told_31 rfl (lv_at hl 0 rfl) ?_
    refine lv_iconst (v := 1) hx hb dX5_told_32 (by decide) ?_
    refine zcMV (As := [.int 1]) (rest := []) (st1 := [.int 0]) (cells1 := 0) (slots1 := 0) ⟨hx, hb, hml, hown, hts⟩ (c_X5_no l D y Y Z Z2 0 t c q b bc n ar fi rn T 1 _) (cwV 1 hts gX5_told_X5_no rfl rfl rfl (by decide +kernel) ⟨Nat.le_of_ble_eq_true rfl, Nat.le_of_ble_eq_true rfl⟩) hK hP (z_D_T hD) (ci := 5) (q0 := 0) rfl rfl rfl rfl hl.1 rfl (lv_room (Nat.le_of_ble_eq_true rfl)) dX5_told_33 hS (z_sub_F hD hS hA z_in_r) ⟨Nat.le_of_ble_eq_true rfl, Nat.le_of_ble_eq_true rfl⟩ rfl rfl rfl (fun H locs hP1 hz hfr hS => ?_)
    have hD := z_D_adr hD (show (zW Y Z Z2 y 1 t c q b bc n ar fi rn T).map Prod.fst = _ from rfl)
    have hP := hP1
    exact zM_i hx hb hr hlocks hS dX5_told_36 rfl hP
  · exact absurd (zb_t c1) (by rw [(inW_f hx0 (by omega))]; decide)
set_option maxHeartbeats 1000000 in
set_option maxRecDepth 100000 in
theorem c_X5_told_N2 (l : Launch) (D : va_G) (y : Nat → ClassId) (Y Z Z2 : Nat → Nat) (th : Int32) (t : Nat → Int32) (c : Nat) (q b : Fld) (bc n : Nat) (ar fi rn : Int32) (T : Nst) (j : Nat) (hj : j < bc) (z : Int32) (hw : inB 0 z 3 = false) (hbc : bc ≤ 5) (sz : Nat) : zMN l yX5_told wsX5_told { frames := 2, cells := 0, slots := 0, locals := 43 } D y [.ref (Y 0), .int (nI j), .int z] (zW Y Z Z2 y th t c q b bc n ar fi rn T) sz (some (.int 0)) (zW Y Z Z2 y 1 t c q b bc n ar fi rn T) 0 0 := by
  refine zMN.of (cc := cX5_told) (maxL := 3) (ret := (some .int)) (own := RX5) (by decide) rfl (Nat.le_of_ble_eq_true rfl) rfl ?_
  intro p e s m args below meth cd ls A H locs hx hb hr hml hown hts hlocks hP hK hD hA hS hN hl hin
  have hS0 := hS
  have hl : lv_has ls 3 [(0, .ref (Y 0)), (1, .int (nI j)), (2, .int z)] := hl
  have hf31 : (Cond.fieldLink RX5 31 "StakeWeirsModel" "thrown" "I").before args s = true := hts _ (by decide +kernel)
  have hinX5 : ∀ w ∈ wsX50, w ∈ wsX5_told := by decide +kernel
  refine lv_aload_n hx hb dX5_told_0 rfl (lv_at hl 0 rfl) ?_
  refine lv_iconst (v := 0) hx hb dX5_told_1 (by decide) ?_
  refine va_put (D := D) (ci := 5) (v := .int 0) (ty := .int) (C := RX5) (T := TX5) (N := 7) hx hb hts hinX5 tyX5 tyX5_ok nmX5 hown hK hP hD hS (0) rfl rfl 0 (by decide) hf31 (fun _ h9 => h9) rfl (by decide +kernel) rfl rfl (Nat.le_of_ble_eq_true rfl) dX5_told_2 (fun H locs hP hD hS => ?_)
  have hP : va_P D vwCl (zW Y Z Z2 y 0 t c q b bc n ar fi rn T) H := hP
  have hD : va_D A (zW Y Z Z2 y 0 t c q b bc n ar fi rn T) := hD
  refine lv_aload_n hx hb dX5_told_5 rfl (lv_at hl 0 rfl) ?_
  refine lv_iload_n hx hb dX5_told_6 rfl (lv_at hl 1 rfl) ?_
  refine zcNRV (As := [.int (nI j)]) (rest := []) (st1 := [.int (zb (inB 0 (nI j) (nI bc - 1)))]) ⟨hx, hb, hml, hown, hts⟩ (c_X5_isBarge l D y Y Z Z2 0 t c q b bc n ar fi rn T (nI j)) (cwV 1 hts gX5_told_X5_isBarge rfl rfl rfl (by decide +kernel) ⟨Nat.le_of_ble_eq_true rfl, Nat.le_of_ble_eq_true rfl⟩) hN hK hP (ci := 5) (q0 := 0) rfl rfl rfl rfl hl.1 rfl (lv_room (Nat.le_of_ble_eq_true rfl)) dX5_told_7 ⟨Nat.le_of_ble_eq_true rfl, Nat.le_of_ble_eq_true rfl⟩ rfl ?_
  refine lv_if_eq (tgt := 31) hx hb dX5_told_10 (by decide) (fun c1 => ?_) (fun c1 => ?_)
  · exact absurd (zb_f c1) (by rw [(inW_t hj (by omega))]; decide)
  · have c1 := c1
    refine lv_iload_n hx hb dX5_told_13 rfl (lv_at hl 2 rfl) ?_
    refine lv_iconst (v := 0) hx hb dX5_told_14 (by decide) ?_
    refine lv_iconst (v := 3) hx hb dX5_told_15 (by decide) ?_
    refine zcRS (As := [.int z, .int 0, .int 3]) (rest := []) (st1 := [.int (zb (inB 0 z 3))]) ⟨hx, hb, hml, hown, hts⟩ (c_X5_isIn l D y z 0 3) (cwS 3 hts gX5_told_X5_isIn rfl rfl rfl (by decide +kernel) ⟨Nat.le_of_ble_eq_true rfl, Nat.le_of_ble_eq_true rfl⟩) hK va_P_nil rfl hl.1 rfl (lv_room (Nat.le_of_ble_eq_true rfl)) dX5_told_16 ⟨Nat.le_of_ble_eq_true rfl, Nat.le_of_ble_eq_true rfl⟩ rfl ?_
    refine lv_if_eq (tgt := 31) hx hb dX5_told_19 (by decide) (fun c2 => ?_) (fun c2 => ?_)
    · have c2 := c2
      refine lv_aload_n hx hb dX5_told_31 rfl (lv_at hl 0 rfl) ?_
      refine lv_iconst (v := 1) hx hb dX5_told_32 (by decide) ?_
      refine zcMV (As := [.int 1]) (rest := []) (st1 := [.int 0]) (cells1 := 0) (slots1 := 0) ⟨hx, hb, hml, hown, hts⟩ (c_X5_no l D y Y Z Z2 0 t c q b bc n ar fi rn T 1 _) (cwV 1 hts gX5_told_X5_no rfl rfl rfl (by decide +kernel) ⟨Nat.le_of_ble_eq_true rfl, Nat.le_of_ble_eq_true rfl⟩) hK hP (z_D_T hD) (ci := 5) (q0 := 0) rfl rfl rfl rfl hl.1 rfl (lv_room (Nat.le_of_ble_eq_true rfl)) dX5_told_33 hS (z_sub_F hD hS hA z_in_r) ⟨Nat.le_of_ble_eq_true rfl, Nat.le_of_ble_eq_true rfl⟩ rfl rfl rfl (fun H locs hP1 hz hfr hS => ?_)
      have hD := z_D_adr hD (show (zW Y Z Z2 y 1 t c q b bc n ar fi rn T).map Prod.fst = _ from rfl)
      have hP := hP1
      exact zM_i hx hb hr hlocks hS dX5_told_36 rfl hP
    · exact absurd (zb_t c2) (by rw [hw]; decide)
set_option maxHeartbeats 1000000 in
set_option maxRecDepth 100000 in
theorem c_X5_count (l : Launch) (D : va_G) (y : Nat → ClassId) (Y Z Z2 : Nat → Nat) (th : Int32) (t : Nat → Int32) (c : Nat) (q b : Fld) (bc n : Nat) (ar fi rn : Int32) (T : Nst) (j : Nat) (hj : j < 10) (hw : inB 0 (nI j) 9 = true) (hc : c ≤ 6) (hn : n < 2147483648) (sz : Nat) : zMN l yX5_count wsX5_count { frames := 3, cells := 1, slots := 10, locals := 65 } D y [.ref (Y 0), .int (nI j)] (zW Y Z Z2 y th t c q b bc n ar fi rn T) sz (some (.int (cntF t q c bc n ar fi rn j))) (zW Y Z Z2 y 0 t c q b bc n ar fi rn T) 1 10 := by
  refine zMN.of (cc := cX5_count) (maxL := 2) (ret := (some .int)) (own := RX5) (by decide) rfl (Nat.le_of_ble_eq_true rfl) rfl ?_
  intro p e s m args below meth cd ls A H locs hx hb hr hml hown hts hlocks hP hK hD hA hS hN hl hin
  have hS0 := hS
  have hl : lv_has ls 2 [(0, .ref (Y 0)), (1, .int (nI j))] := hl
  have hf31 : (Cond.fieldLink RX5 31 "StakeWeirsModel" "thrown" "I").before args s = true := hts _ (by decide +kernel)
  have hinX5 : ∀ w ∈ wsX50, w ∈ wsX5_count := by decide +kernel
  have hf24 : (Cond.fieldLink RX5 24 "StakeWeirsModel" "s" "LStakeWeirsModel$State;").before args s = true := hts _ (by decide +kernel)
  refine lv_aload_n hx hb dX5_count_0 rfl (lv_at hl 0 rfl) ?_
  refine lv_iconst (v := 0) hx hb dX5_count_1 (by decide) ?_
  refine va_put (D := D) (ci := 5) (v := .int 0) (ty := .int) (C := RX5) (T := TX5) (N := 7) hx hb hts hinX5 tyX5 tyX5_ok nmX5 hown hK hP hD hS (0) rfl rfl 0 (by decide) hf31 (fun _ h9 => h9) rfl (by decide +kernel) rfl rfl (Nat.le_of_ble_eq_true rfl) dX5_count_2 (fun H locs hP hD hS => ?_)
  have hP : va_P D vwCl (zW Y Z Z2 y 0 t c q b bc n ar fi rn T) H := hP
  have hD : va_D A (zW Y Z Z2 y 0 t c q b bc n ar fi rn T) := hD
  refine lv_iload_n hx hb dX5_count_5 rfl (lv_at hl 1 rfl) ?_
  refine lv_iconst (v := 0) hx hb dX5_count_6 (by decide) ?_
  refine lv_bipush (v := 9) hx hb dX5_count_7 (by decide) ?_
  refine zcRS (As := [.int (nI j), .int 0, .int 9]) (rest := []) (st1 := [.int (zb (inB 0 (nI j) 9))]) ⟨hx, hb, hml, hown, hts⟩ (c_X5_isIn l D y (nI j) 0 9) (cwS 3 hts gX5_count_X5_isIn rfl rfl rfl (by decide +kernel) ⟨Nat.le_of_ble_eq_true rfl, Nat.le_of_ble_eq_true rfl⟩) hK va_P_nil rfl hl.1 rfl (lv_room (Nat.le_of_ble_eq_true rfl)) dX5_count_9 ⟨Nat.le_of_ble_eq_true rfl, Nat.le_of_ble_eq_true rfl⟩ rfl ?_
  refine lv_if_eq (tgt := 26) hx hb dX5_count_12 (by decide) (fun c1 => ?_) (fun c1 => ?_)
  · exact absurd (zb_f c1) (by rw [hw]; decide)
  · have c1 := c1
    refine lv_aload_n hx hb dX5_count_15 rfl (lv_at hl 0 rfl) ?_
    refine va_get (D := D) (ci := 5) (v := .ref (Z 0)) (C := RX5) (T := TX5) (N := 7) hx hb hts hinX5 hown hK hP (0) rfl rfl 5 (by decide) hf24 (fun _ h9 => h9) rfl dX5_count_16 ?_
    refine lv_iload_n hx hb dX5_count_19 rfl (lv_at hl 1 rfl) ?_
    refine zcNMV (As := [.int (nI j)]) (rest := []) (st1 := [.int ((cntF t q c bc n ar fi rn j))]) (cells1 := 1) (slots1 := 10) ⟨hx, hb, hml, hown, hts⟩ (c_X4_counted l D y Y Z (Z 0) (Z2 0) 0 t c q b bc n ar fi rn j (by omega) (by omega) (by omega) _) (cwV 1 hts gX5_count_X4_counted rfl rfl rfl (by decide +kernel) ⟨Nat.le_of_ble_eq_true rfl, Nat.le_of_ble_eq_true rfl⟩) hN hK (zz_sP hP) (zz_sD hD) (ci := 4) (q0 := 4) rfl rfl rfl rfl hl.1 rfl (lv_room (Nat.le_of_ble_eq_true rfl)) dX5_count_20 hS (zz_sF hD hS hA) ⟨Nat.le_of_ble_eq_true rfl, Nat.le_of_ble_eq_true rfl⟩ rfl rfl rfl (fun H locs hP1 hz hfr hS => ?_)
    obtain ⟨hP, hD⟩ := zz_sB hP hD hP1 hfr
    have hP : va_P D vwCl (zW Y Z Z2 y 0 t c q b bc n ar fi rn T) H := hP
    have hD : va_D A (zW Y Z Z2 y 0 t c q b bc n ar fi rn T) := hD
    refine lv_goto (tgt := 31) hx hb dX5_count_23 (by decide) ?_
    exact zM_i hx hb hr hlocks hS dX5_count_31 rfl hP
set_option maxHeartbeats 1000000 in
set_option maxRecDepth 100000 in
theorem c_X5_count_N1 (l : Launch) (D : va_G) (y : Nat → ClassId) (Y Z Z2 : Nat → Nat) (th : Int32) (t : Nat → Int32) (c : Nat) (q b : Fld) (bc n : Nat) (ar fi rn : Int32) (T : Nst) (x : Int32) (hw : inB 0 x 9 = false) (sz : Nat) : zMN l yX5_count wsX5_count { frames := 1, cells := 0, slots := 0, locals := 22 } D y [.ref (Y 0), .int x] (zW Y Z Z2 y th t c q b bc n ar fi rn T) sz (some (.int 0)) (zW Y Z Z2 y 1 t c q b bc n ar fi rn T) 0 0 := by
  refine zMN.of (cc := cX5_count) (maxL := 2) (ret := (some .int)) (own := RX5) (by decide) rfl (Nat.le_of_ble_eq_true rfl) rfl ?_
  intro p e s m args below meth cd ls A H locs hx hb hr hml hown hts hlocks hP hK hD hA hS hN hl hin
  have hS0 := hS
  have hl : lv_has ls 2 [(0, .ref (Y 0)), (1, .int x)] := hl
  have hf31 : (Cond.fieldLink RX5 31 "StakeWeirsModel" "thrown" "I").before args s = true := hts _ (by decide +kernel)
  have hinX5 : ∀ w ∈ wsX50, w ∈ wsX5_count := by decide +kernel
  refine lv_aload_n hx hb dX5_count_0 rfl (lv_at hl 0 rfl) ?_
  refine lv_iconst (v := 0) hx hb dX5_count_1 (by decide) ?_
  refine va_put (D := D) (ci := 5) (v := .int 0) (ty := .int) (C := RX5) (T := TX5) (N := 7) hx hb hts hinX5 tyX5 tyX5_ok nmX5 hown hK hP hD hS (0) rfl rfl 0 (by decide) hf31 (fun _ h9 => h9) rfl (by decide +kernel) rfl rfl (Nat.le_of_ble_eq_true rfl) dX5_count_2 (fun H locs hP hD hS => ?_)
  have hP : va_P D vwCl (zW Y Z Z2 y 0 t c q b bc n ar fi rn T) H := hP
  have hD : va_D A (zW Y Z Z2 y 0 t c q b bc n ar fi rn T) := hD
  refine lv_iload_n hx hb dX5_count_5 rfl (lv_at hl 1 rfl) ?_
  refine lv_iconst (v := 0) hx hb dX5_count_6 (by decide) ?_
  refine lv_bipush (v := 9) hx hb dX5_count_7 (by decide) ?_
  refine zcRS (As := [.int x, .int 0, .int 9]) (rest := []) (st1 := [.int (zb (inB 0 x 9))]) ⟨hx, hb, hml, hown, hts⟩ (c_X5_isIn l D y x 0 9) (cwS 3 hts gX5_count_X5_isIn rfl rfl rfl (by decide +kernel) ⟨Nat.le_of_ble_eq_true rfl, Nat.le_of_ble_eq_true rfl⟩) hK va_P_nil rfl hl.1 rfl (lv_room (Nat.le_of_ble_eq_true rfl)) dX5_count_9 ⟨Nat.le_of_ble_eq_true rfl, Nat.le_of_ble_eq_true rfl⟩ rfl ?_
  refine lv_if_eq (tgt := 26) hx hb dX5_count_12 (by decide) (fun c1 => ?_) (fun c1 => ?_)
  · have c1 := c1
    refine lv_aload_n hx hb dX5_count_26 rfl (lv_at hl 0 rfl) ?_
    refine lv_iconst (v := 1) hx hb dX5_count_27 (by decide) ?_
    refine zcMV (As := [.int 1]) (rest := []) (st1 := [.int 0]) (cells1 := 0) (slots1 := 0) ⟨hx, hb, hml, hown, hts⟩ (c_X5_no l D y Y Z Z2 0 t c q b bc n ar fi rn T 1 _) (cwV 1 hts gX5_count_X5_no rfl rfl rfl (by decide +kernel) ⟨Nat.le_of_ble_eq_true rfl, Nat.le_of_ble_eq_true rfl⟩) hK hP (z_D_T hD) (ci := 5) (q0 := 0) rfl rfl rfl rfl hl.1 rfl (lv_room (Nat.le_of_ble_eq_true rfl)) dX5_count_28 hS (z_sub_F hD hS hA z_in_r) ⟨Nat.le_of_ble_eq_true rfl, Nat.le_of_ble_eq_true rfl⟩ rfl rfl rfl (fun H locs hP1 hz hfr hS => ?_)
    have hD := z_D_adr hD (show (zW Y Z Z2 y 1 t c q b bc n ar fi rn T).map Prod.fst = _ from rfl)
    have hP := hP1
    exact zM_i hx hb hr hlocks hS dX5_count_31 rfl hP
  · exact absurd (zb_t c1) (by rw [hw]; decide)
set_option maxHeartbeats 1000000 in
set_option maxRecDepth 100000 in
theorem c_X5_hinders (l : Launch) (D : va_G) (y : Nat → ClassId) (Y Z Z2 : Nat → Nat) (th : Int32) (t : Nat → Int32) (c : Nat) (q b : Fld) (bc n : Nat) (ar fi rn : Int32) (T : Nst) (x : Int32) (hw : inB 1 x 20 = true) (hc : c ≤ 6) (sz : Nat) : zMN l yX5_hinders wsX5_hinders { frames := 2, cells := 0, slots := 0, locals := 43 } D y [.ref (Y 0), .int x] (zW Y Z Z2 y th t c q b bc n ar fi rn T) sz (some (.int (wayN q c x))) (zW Y Z Z2 y 0 t c q b bc n ar fi rn T) 0 0 := by
  refine zMN.of (cc := cX5_hinders) (maxL := 4) (ret := (some .int)) (own := RX5) (by decide) rfl (Nat.le_of_ble_eq_true rfl) rfl ?_
  intro p e s m args below meth cd ls A H locs hx hb hr hml hown hts hlocks hP hK hD hA hS hN hl hin
  have hS0 := hS
  have hl : lv_has ls 4 [(0, .ref (Y 0)), (1, .int x)] := hl
  have hf31 : (Cond.fieldLink RX5 31 "StakeWeirsModel" "thrown" "I").before args s = true := hts _ (by decide +kernel)
  have hinX5 : ∀ w ∈ wsX50, w ∈ wsX5_hinders := by decide +kernel
  have hf35 : (Cond.fieldLink RX5 35 "StakeWeirsModel" "weirs" "I").before args s = true := hts _ (by decide +kernel)
  have hf24 : (Cond.fieldLink RX5 24 "StakeWeirsModel" "s" "LStakeWeirsModel$State;").before args s = true := hts _ (by decide +kernel)
  refine lv_aload_n hx hb dX5_hinders_0 rfl (lv_at hl 0 rfl) ?_
  refine lv_iconst (v := 0) hx hb dX5_hinders_1 (by decide) ?_
  refine va_put (D := D) (ci := 5) (v := .int 0) (ty := .int) (C := RX5) (T := TX5) (N := 7) hx hb hts hinX5 tyX5 tyX5_ok nmX5 hown hK hP hD hS (0) rfl rfl 0 (by decide) hf31 (fun _ h9 => h9) rfl (by decide +kernel) rfl rfl (Nat.le_of_ble_eq_true rfl) dX5_hinders_2 (fun H locs hP hD hS => ?_)
  have hP : va_P D vwCl (zW Y Z Z2 y 0 t c q b bc n ar fi rn T) H := hP
  have hD : va_D A (zW Y Z Z2 y 0 t c q b bc n ar fi rn T) := hD
  refine lv_iload_n hx hb dX5_hinders_5 rfl (lv_at hl 1 rfl) ?_
  refine lv_iconst (v := 1) hx hb dX5_hinders_6 (by decide) ?_
  refine lv_bipush (v := 20) hx hb dX5_hinders_7 (by decide) ?_
  refine zcRS (As := [.int x, .int 1, .int 20]) (rest := []) (st1 := [.int (zb (inB 1 x 20))]) ⟨hx, hb, hml, hown, hts⟩ (c_X5_isIn l D y x 1 20) (cwS 3 hts gX5_hinders_X5_isIn rfl rfl rfl (by decide +kernel) ⟨Nat.le_of_ble_eq_true rfl, Nat.le_of_ble_eq_true rfl⟩) hK va_P_nil rfl hl.1 rfl (lv_room (Nat.le_of_ble_eq_true rfl)) dX5_hinders_9 ⟨Nat.le_of_ble_eq_true rfl, Nat.le_of_ble_eq_true rfl⟩ rfl ?_
  refine lv_if_ne (tgt := 21) hx hb dX5_hinders_12 (by decide) (fun c1 => ?_) (fun c1 => ?_)
  · have c1 := c1
    refine lv_iconst (v := 0) hx hb dX5_hinders_21 (by decide) ?_
    refine lv_istore_n (lv' := [(2, .int 0), (0, .ref (Y 0)), (1, .int x)]) hx hb dX5_hinders_22 rfl hl (by decide) rfl (fun ls hl => ?_)
    refine lv_iconst (v := 0) hx hb dX5_hinders_23 (by decide) ?_
    refine lv_istore_n (lv' := [(3, .int 0), (2, .int 0), (0, .ref (Y 0)), (1, .int x)]) hx hb dX5_hinders_24 rfl hl (by decide) rfl (fun ls hl => ?_)
    have loop2 : ∀ k, k ≤ c → ∀ (H : Heap) (locs : List Loc) (ls : Array Slot), va_P D vwCl (zW Y Z Z2 y 0 t c q b bc n ar fi rn T) H → va_D A (zW Y Z Z2 y 0 t c q b bc n ar fi rn T) → va_S A s.heap H locs → lv_has ls 4 [(3, .int (nI k)), (2, .int (wayN q k x)), (0, .ref (Y 0)), (1, .int x)] → W p l e ({ frames := 2, cells := 0, slots := 0, locals := 43 } : Room) s m args below meth cd H locs 0 0 (MQ below (zMQ (some (.int (wayN q c x))) D (zW Y Z Z2 y 0 t c q b bc n ar fi rn T) A) args s 0 0 A) (F0 m 25 ls []) := by
      refine down ?_ ?_
      · intro H locs ls hP hD hS hl
        refine lv_iload_n hx hb dX5_hinders_25 rfl (lv_at hl 0 rfl) ?_
        refine lv_aload_n hx hb dX5_hinders_26 rfl (lv_at hl 2 rfl) ?_
        refine va_get (D := D) (ci := 5) (v := .int (nI c)) (C := RX5) (T := TX5) (N := 7) hx hb hts hinX5 hown hK hP (0) rfl rfl 2 (by decide) hf35 (fun _ h9 => h9) rfl dX5_hinders_27 ?_
        refine lv_icmp_ge (tgt := 59) hx hb dX5_hinders_30 (by decide) (fun c3 => ?_) (fun c3 => ?_)
        · have d3 := Int32.not_lt.mpr c3
          refine lv_iload_n hx hb dX5_hinders_59 rfl (lv_at hl 1 rfl) ?_
          exact zM_i hx hb hr hlocks hS dX5_hinders_60 rfl hP
        · exact absurd (nI_le (a := c) (b := c) (by omega) (by omega)) c3
      · intro k hkk ihk H locs ls hP hD hS hl
        refine lv_iload_n hx hb dX5_hinders_25 rfl (lv_at hl 0 rfl) ?_
        refine lv_aload_n hx hb dX5_hinders_26 rfl (lv_at hl 2 rfl) ?_
        refine va_get (D := D) (ci := 5) (v := .int (nI c)) (C := RX5) (T := TX5) (N := 7) hx hb hts hinX5 hown hK hP (0) rfl rfl 2 (by decide) hf35 (fun _ h9 => h9) rfl dX5_hinders_27 ?_
        refine lv_icmp_ge (tgt := 59) hx hb dX5_hinders_30 (by decide) (fun c4 => ?_) (fun c4 => ?_)
        · exact absurd c4 (nI_ge (a := k) (b := c) (by omega) (by omega))
        · have d4 := Int32.not_le.mp c4
          refine lv_iload_n hx hb dX5_hinders_33 rfl (lv_at hl 1 rfl) ?_
          refine lv_aload_n hx hb dX5_hinders_34 rfl (lv_at hl 2 rfl) ?_
          refine va_get (D := D) (ci := 5) (v := .ref (Z 0)) (C := RX5) (T := TX5) (N := 7) hx hb hts hinX5 hown hK hP (0) rfl rfl 5 (by decide) hf24 (fun _ h9 => h9) rfl dX5_hinders_35 ?_
          refine lv_iload_n hx hb dX5_hinders_38 rfl (lv_at hl 0 rfl) ?_
          refine lv_iload_n hx hb dX5_hinders_39 rfl (lv_at hl 3 rfl) ?_
          refine zcRV (As := [.int (nI k), .int x]) (rest := [.int (wayN q k x)]) (st1 := [.int (zb (wayB q k x)), .int (wayN q k x)]) ⟨hx, hb, hml, hown, hts⟩ (c_X4_isInWay l D y Y Z (Z 0) (Z2 0) 0 t c q b bc n ar fi rn k x (by omega)) (cwV 2 hts gX5_hinders_X4_isInWay rfl rfl rfl (by decide +kernel) ⟨Nat.le_of_ble_eq_true rfl, Nat.le_of_ble_eq_true rfl⟩) hK (zz_sP hP) (ci := 4) (q0 := 4) rfl rfl rfl rfl hl.1 rfl (lv_room (Nat.le_of_ble_eq_true rfl)) dX5_hinders_40 ⟨Nat.le_of_ble_eq_true rfl, Nat.le_of_ble_eq_true rfl⟩ rfl ?_
          refine lv_if_eq (tgt := 50) hx hb dX5_hinders_43 (by decide) (fun c5 => ?_) (fun c5 => ?_)
          · have c5 : wayB q k x = false := zb_f c5
            refine lv_iconst (v := 0) hx hb dX5_hinders_50 (by decide) ?_
            refine lv_iadd hx hb dX5_hinders_51 ?_
            refine lv_istore_n (lv' := [(2, .int ((wayN q k x + 0))), (3, .int (nI k)), (0, .ref (Y 0)), (1, .int x)]) hx hb dX5_hinders_52 rfl hl (by decide) rfl (fun ls hl => ?_)
            refine lv_iinc (v := nI (k + 1)) (lv' := [(3, .int (nI (k + 1))), (2, .int ((wayN q k x + 0))), (0, .ref (Y 0)), (1, .int x)]) hx hb dX5_hinders_53 hl (k := 1) rfl (nI_1 _) (by decide) rfl (fun ls hl => ?_)
            refine lv_goto (tgt := 25) hx hb dX5_hinders_56 (by decide) ?_
            have e6 : wayN q (k + 1) x = (wayN q k x + 0) := by simp [wayN_s, c5]
            refine ihk H locs ls ?_ ?_ hS ?_
            · first | exact hP | (simp only [e6]; exact hP)
            · first | exact hD | (simp only [e6]; exact hD)
            · first | exact lv_sub hl [0, 1, 2, 3] rfl | (simp only [e6]; exact lv_sub hl [0, 1, 2, 3] rfl)
          · have c5 : wayB q k x = true := zb_t c5
            refine lv_iconst (v := 1) hx hb dX5_hinders_46 (by decide) ?_
            refine lv_goto (tgt := 51) hx hb dX5_hinders_47 (by decide) ?_
            refine lv_iadd hx hb dX5_hinders_51 ?_
            refine lv_istore_n (lv' := [(2, .int ((wayN q k x + 1))), (3, .int (nI k)), (0, .ref (Y 0)), (1, .int x)]) hx hb dX5_hinders_52 rfl hl (by decide) rfl (fun ls hl => ?_)
            refine lv_iinc (v := nI (k + 1)) (lv' := [(3, .int (nI (k + 1))), (2, .int ((wayN q k x + 1))), (0, .ref (Y 0)), (1, .int x)]) hx hb dX5_hinders_53 hl (k := 1) rfl (nI_1 _) (by decide) rfl (fun ls hl => ?_)
            refine lv_goto (tgt := 25) hx hb dX5_hinders_56 (by decide) ?_
            have e7 : wayN q (k + 1) x = (wayN q k x + 1) := by simp [wayN_s, c5]
            refine ihk H locs ls ?_ ?_ hS ?_
            · first | exact hP | (simp only [e7]; exact hP)
            · first | exact hD | (simp only [e7]; exact hD)
            · first | exact lv_sub hl [0, 1, 2, 3] rfl | (simp only [e7]; exact lv_sub hl [0, 1, 2, 3] rfl)
    exact loop2 0 (Nat.zero_le _) H locs ls hP hD hS (lv_sub hl [0, 1, 2, 3] rfl)
  · exact absurd (zb_f c1) (by rw [hw]; decide)
set_option maxHeartbeats 1000000 in
set_option maxRecDepth 100000 in
theorem c_X5_hinders_N1 (l : Launch) (D : va_G) (y : Nat → ClassId) (Y Z Z2 : Nat → Nat) (th : Int32) (t : Nat → Int32) (c : Nat) (q b : Fld) (bc n : Nat) (ar fi rn : Int32) (T : Nst) (x : Int32) (hw : inB 1 x 20 = false) (sz : Nat) : zMN l yX5_hinders wsX5_hinders { frames := 1, cells := 0, slots := 0, locals := 22 } D y [.ref (Y 0), .int x] (zW Y Z Z2 y th t c q b bc n ar fi rn T) sz (some (.int 0)) (zW Y Z Z2 y 1 t c q b bc n ar fi rn T) 0 0 := by
  refine zMN.of (cc := cX5_hinders) (maxL := 4) (ret := (some .int)) (own := RX5) (by decide) rfl (Nat.le_of_ble_eq_true rfl) rfl ?_
  intro p e s m args below meth cd ls A H locs hx hb hr hml hown hts hlocks hP hK hD hA hS hN hl hin
  have hS0 := hS
  have hl : lv_has ls 4 [(0, .ref (Y 0)), (1, .int x)] := hl
  have hf31 : (Cond.fieldLink RX5 31 "StakeWeirsModel" "thrown" "I").before args s = true := hts _ (by decide +kernel)
  have hinX5 : ∀ w ∈ wsX50, w ∈ wsX5_hinders := by decide +kernel
  refine lv_aload_n hx hb dX5_hinders_0 rfl (lv_at hl 0 rfl) ?_
  refine lv_iconst (v := 0) hx hb dX5_hinders_1 (by decide) ?_
  refine va_put (D := D) (ci := 5) (v := .int 0) (ty := .int) (C := RX5) (T := TX5) (N := 7) hx hb hts hinX5 tyX5 tyX5_ok nmX5 hown hK hP hD hS (0) rfl rfl 0 (by decide) hf31 (fun _ h9 => h9) rfl (by decide +kernel) rfl rfl (Nat.le_of_ble_eq_true rfl) dX5_hinders_2 (fun H locs hP hD hS => ?_)
  have hP : va_P D vwCl (zW Y Z Z2 y 0 t c q b bc n ar fi rn T) H := hP
  have hD : va_D A (zW Y Z Z2 y 0 t c q b bc n ar fi rn T) := hD
  refine lv_iload_n hx hb dX5_hinders_5 rfl (lv_at hl 1 rfl) ?_
  refine lv_iconst (v := 1) hx hb dX5_hinders_6 (by decide) ?_
  refine lv_bipush (v := 20) hx hb dX5_hinders_7 (by decide) ?_
  refine zcRS (As := [.int x, .int 1, .int 20]) (rest := []) (st1 := [.int (zb (inB 1 x 20))]) ⟨hx, hb, hml, hown, hts⟩ (c_X5_isIn l D y x 1 20) (cwS 3 hts gX5_hinders_X5_isIn rfl rfl rfl (by decide +kernel) ⟨Nat.le_of_ble_eq_true rfl, Nat.le_of_ble_eq_true rfl⟩) hK va_P_nil rfl hl.1 rfl (lv_room (Nat.le_of_ble_eq_true rfl)) dX5_hinders_9 ⟨Nat.le_of_ble_eq_true rfl, Nat.le_of_ble_eq_true rfl⟩ rfl ?_
  refine lv_if_ne (tgt := 21) hx hb dX5_hinders_12 (by decide) (fun c1 => ?_) (fun c1 => ?_)
  · exact absurd (zb_t c1) (by rw [hw]; decide)
  · have c1 := c1
    refine lv_aload_n hx hb dX5_hinders_15 rfl (lv_at hl 0 rfl) ?_
    refine lv_iconst (v := 1) hx hb dX5_hinders_16 (by decide) ?_
    refine zcMV (As := [.int 1]) (rest := []) (st1 := [.int 0]) (cells1 := 0) (slots1 := 0) ⟨hx, hb, hml, hown, hts⟩ (c_X5_no l D y Y Z Z2 0 t c q b bc n ar fi rn T 1 _) (cwV 1 hts gX5_hinders_X5_no rfl rfl rfl (by decide +kernel) ⟨Nat.le_of_ble_eq_true rfl, Nat.le_of_ble_eq_true rfl⟩) hK hP (z_D_T hD) (ci := 5) (q0 := 0) rfl rfl rfl rfl hl.1 rfl (lv_room (Nat.le_of_ble_eq_true rfl)) dX5_hinders_17 hS (z_sub_F hD hS hA z_in_r) ⟨Nat.le_of_ble_eq_true rfl, Nat.le_of_ble_eq_true rfl⟩ rfl rfl rfl (fun H locs hP1 hz hfr hS => ?_)
    have hD := z_D_adr hD (show (zW Y Z Z2 y 1 t c q b bc n ar fi rn T).map Prod.fst = _ from rfl)
    have hP := hP1
    exact zM_i hx hb hr hlocks hS dX5_hinders_20 rfl hP
set_option maxHeartbeats 1000000 in
set_option maxRecDepth 100000 in
theorem c_X5_richest (l : Launch) (D : va_G) (y : Nat → ClassId) (Y Z Z2 : Nat → Nat) (th : Int32) (t : Nat → Int32) (c : Nat) (q b : Fld) (bc n : Nat) (ar fi rn : Int32) (T : Nst) (hc : c ≤ 6) (sz : Nat) : zMN l yX5_richest wsX5_richest { frames := 1, cells := 0, slots := 0, locals := 21 } D y [.ref (Y 0)] (zW Y Z Z2 y th t c q b bc n ar fi rn T) sz (some (.int (richE q c).1)) (zW Y Z Z2 y 0 t c q b bc n ar fi rn T) 0 0 := by
  refine zMN.of (cc := cX5_richest) (maxL := 3) (ret := (some .int)) (own := RX5) (by decide) rfl (Nat.le_of_ble_eq_true rfl) rfl ?_
  intro p e s m args below meth cd ls A H locs hx hb hr hml hown hts hlocks hP hK hD hA hS hN hl hin
  have hS0 := hS
  have hl : lv_has ls 3 [(0, .ref (Y 0))] := hl
  have hf31 : (Cond.fieldLink RX5 31 "StakeWeirsModel" "thrown" "I").before args s = true := hts _ (by decide +kernel)
  have hinX5 : ∀ w ∈ wsX50, w ∈ wsX5_richest := by decide +kernel
  have hf35 : (Cond.fieldLink RX5 35 "StakeWeirsModel" "weirs" "I").before args s = true := hts _ (by decide +kernel)
  have hf24 : (Cond.fieldLink RX5 24 "StakeWeirsModel" "s" "LStakeWeirsModel$State;").before args s = true := hts _ (by decide +kernel)
  have hf55 : (Cond.fieldLinkNest "StakeWeirsModel" 55 "StakeWeirsModel$State" "coins" "[I" "StakeWeirsModel").before args s = true := va_Nw.use rfl (hN ("StakeWeirsModel", 55, "StakeWeirsModel$State", "coins", "[I", "StakeWeirsModel") (by decide +kernel))
  have hinX4 : ∀ w ∈ wsX40, w ∈ wsX5_richest := by decide +kernel
  refine lv_aload_n hx hb dX5_richest_0 rfl (lv_at hl 0 rfl) ?_
  refine lv_iconst (v := 0) hx hb dX5_richest_1 (by decide) ?_
  refine va_put (D := D) (ci := 5) (v := .int 0) (ty := .int) (C := RX5) (T := TX5) (N := 7) hx hb hts hinX5 tyX5 tyX5_ok nmX5 hown hK hP hD hS (0) rfl rfl 0 (by decide) hf31 (fun _ h9 => h9) rfl (by decide +kernel) rfl rfl (Nat.le_of_ble_eq_true rfl) dX5_richest_2 (fun H locs hP hD hS => ?_)
  have hP : va_P D vwCl (zW Y Z Z2 y 0 t c q b bc n ar fi rn T) H := hP
  have hD : va_D A (zW Y Z Z2 y 0 t c q b bc n ar fi rn T) := hD
  refine lv_iconst (v := (-1)) hx hb dX5_richest_5 (by decide) ?_
  refine lv_istore_n (lv' := [(1, .int (-1)), (0, .ref (Y 0))]) hx hb dX5_richest_6 rfl hl (by decide) rfl (fun ls hl => ?_)
  refine lv_iconst (v := 0) hx hb dX5_richest_7 (by decide) ?_
  refine lv_istore_n (lv' := [(2, .int 0), (1, .int (-1)), (0, .ref (Y 0))]) hx hb dX5_richest_8 rfl hl (by decide) rfl (fun ls hl => ?_)
  have loop1 : ∀ k, k ≤ c → ∀ (H : Heap) (locs : List Loc) (ls : Array Slot), va_P D vwCl (zW Y Z Z2 y 0 t c q b bc n ar fi rn T) H → va_D A (zW Y Z Z2 y 0 t c q b bc n ar fi rn T) → va_S A s.heap H locs → lv_has ls 3 [(2, .int (nI k)), (1, .int ((richE q k).1)), (0, .ref (Y 0))] → W p l e ({ frames := 1, cells := 0, slots := 0, locals := 21 } : Room) s m args below meth cd H locs 0 0 (MQ below (zMQ (some (.int (richE q c).1)) D (zW Y Z Z2 y 0 t c q b bc n ar fi rn T) A) args s 0 0 A) (F0 m 9 ls []) := by
    refine down ?_ ?_
    · intro H locs ls hP hD hS hl
      refine lv_iload_n hx hb dX5_richest_9 rfl (lv_at hl 0 rfl) ?_
      refine lv_aload_n hx hb dX5_richest_10 rfl (lv_at hl 2 rfl) ?_
      refine va_get (D := D) (ci := 5) (v := .int (nI c)) (C := RX5) (T := TX5) (N := 7) hx hb hts hinX5 hown hK hP (0) rfl rfl 2 (by decide) hf35 (fun _ h9 => h9) rfl dX5_richest_11 ?_
      refine lv_icmp_ge (tgt := 62) hx hb dX5_richest_14 (by decide) (fun c2 => ?_) (fun c2 => ?_)
      · have d2 := Int32.not_lt.mpr c2
        refine lv_iload_n hx hb dX5_richest_62 rfl (lv_at hl 1 rfl) ?_
        exact zM_i hx hb hr hlocks hS dX5_richest_63 rfl hP
      · exact absurd (nI_le (a := c) (b := c) (by omega) (by omega)) c2
    · intro k hkk ihk H locs ls hP hD hS hl
      refine lv_iload_n hx hb dX5_richest_9 rfl (lv_at hl 0 rfl) ?_
      refine lv_aload_n hx hb dX5_richest_10 rfl (lv_at hl 2 rfl) ?_
      refine va_get (D := D) (ci := 5) (v := .int (nI c)) (C := RX5) (T := TX5) (N := 7) hx hb hts hinX5 hown hK hP (0) rfl rfl 2 (by decide) hf35 (fun _ h9 => h9) rfl dX5_richest_11 ?_
      refine lv_icmp_ge (tgt := 62) hx hb dX5_richest_14 (by decide) (fun c3 => ?_) (fun c3 => ?_)
      · exact absurd c3 (nI_ge (a := k) (b := c) (by omega) (by omega))
      · have d3 := Int32.not_le.mp c3
        refine lv_aload_n hx hb dX5_richest_17 rfl (lv_at hl 2 rfl) ?_
        refine va_get (D := D) (ci := 5) (v := .ref (Z 0)) (C := RX5) (T := TX5) (N := 7) hx hb hts hinX5 hown hK hP (0) rfl rfl 5 (by decide) hf24 (fun _ h9 => h9) rfl dX5_richest_18 ?_
        refine lv_iload_n hx hb dX5_richest_21 rfl (lv_at hl 0 rfl) ?_
        refine zcRV (As := [.int (nI k)]) (rest := []) (st1 := [.int (zb (heldB q k))]) ⟨hx, hb, hml, hown, hts⟩ (c_X4_isHeld l D y Y Z (Z 0) (Z2 0) 0 t c q b bc n ar fi rn k (by omega)) (cwV 1 hts gX5_richest_X4_isHeld rfl rfl rfl (by decide +kernel) ⟨Nat.le_of_ble_eq_true rfl, Nat.le_of_ble_eq_true rfl⟩) hK (zz_sP hP) (ci := 4) (q0 := 4) rfl rfl rfl rfl hl.1 rfl (lv_room (Nat.le_of_ble_eq_true rfl)) dX5_richest_22 ⟨Nat.le_of_ble_eq_true rfl, Nat.le_of_ble_eq_true rfl⟩ rfl ?_
        refine lv_if_eq (tgt := 56) hx hb dX5_richest_25 (by decide) (fun c4 => ?_) (fun c4 => ?_)
        · have c4 : heldB q k = false := zb_f c4
          refine lv_iinc (v := nI (k + 1)) (lv' := [(2, .int (nI (k + 1))), (1, .int ((richE q k).1)), (0, .ref (Y 0))]) hx hb dX5_richest_56 hl (k := 0) rfl (nI_1 _) (by decide) rfl (fun ls hl => ?_)
          refine lv_goto (tgt := 9) hx hb dX5_richest_59 (by decide) ?_
          have e5 : (richE q (k + 1)).1 = (richE q k).1 := by simp [richE_s, richS, c4]
          refine ihk H locs ls ?_ ?_ hS ?_
          · first | exact hP | (simp only [e5]; exact hP)
          · first | exact hD | (simp only [e5]; exact hD)
          · first | exact lv_sub hl [0, 1, 2] rfl | (simp only [e5]; exact lv_sub hl [0, 1, 2] rfl)
        · have c4 : heldB q k = true := zb_t c4
          refine lv_iload_n hx hb dX5_richest_28 rfl (lv_at hl 1 rfl) ?_
          rcases richE_c q k with hn | ⟨i6, hi, hn, hn2⟩
          · skip
            refine zt_i (x' := (-1)) hn ?_
            refine lv_iconst (v := (-1)) hx hb dX5_richest_29 (by decide) ?_
            refine lv_icmp_eq (tgt := 54) hx hb dX5_richest_30 (by decide) (fun c7 => ?_) (fun c7 => ?_)
            · have d7 := c7
              refine lv_iload_n hx hb dX5_richest_54 rfl (lv_at hl 0 rfl) ?_
              refine lv_istore_n (lv' := [(1, .int (nI k)), (2, .int (nI k)), (0, .ref (Y 0))]) hx hb dX5_richest_55 rfl hl (by decide) rfl (fun ls hl => ?_)
              refine lv_iinc (v := nI (k + 1)) (lv' := [(2, .int (nI (k + 1))), (1, .int (nI k)), (0, .ref (Y 0))]) hx hb dX5_richest_56 hl (k := 1) rfl (nI_1 _) (by decide) rfl (fun ls hl => ?_)
              refine lv_goto (tgt := 9) hx hb dX5_richest_59 (by decide) ?_
              have e8 : (richE q (k + 1)).1 = nI k := by simp [richE_s, richS, c4, hn]
              refine ihk H locs ls ?_ ?_ hS ?_
              · first | exact hP | (simp only [e8]; exact hP)
              · first | exact hD | (simp only [e8]; exact hD)
              · first | exact lv_sub hl [0, 1, 2] rfl | (simp only [e8]; exact lv_sub hl [0, 1, 2] rfl)
            · exact absurd (by decide) c7
          · skip
            have hne : ¬ nI i6 = -1 := nI_nm1 (by omega)
            refine zt_i (x' := nI i6) hn ?_
            refine lv_iconst (v := (-1)) hx hb dX5_richest_29 (by decide) ?_
            refine lv_icmp_eq (tgt := 54) hx hb dX5_richest_30 (by decide) (fun c9 => ?_) (fun c9 => ?_)
            · exact absurd c9 hne
            · have d9 := c9
              refine lv_aload_n hx hb dX5_richest_33 rfl (lv_at hl 2 rfl) ?_
              refine va_get (D := D) (ci := 5) (v := .ref (Z 0)) (C := RX5) (T := TX5) (N := 7) hx hb hts hinX5 hown hK hP (0) rfl rfl 5 (by decide) hf24 (fun _ h9 => h9) rfl dX5_richest_34 ?_
              refine va_getN (D := D) (ci := 4) (v := .ref (Z 3)) (C := RX4) (T := TX4) (N := 16) hx hb hts hinX4 hown hK hP (4) rfl rfl 3 (by decide) hf55 (fun _ h9 => h9) rfl dX5_richest_37 ?_
              refine lv_iload_n hx hb dX5_richest_40 rfl (lv_at hl 0 rfl) ?_
              refine z_ald hx hb hK hP 7 (f := q 4) rfl k rfl (by omega) (by decide) dX5_richest_41 ?_
              refine lv_aload_n hx hb dX5_richest_42 rfl (lv_at hl 2 rfl) ?_
              refine va_get (D := D) (ci := 5) (v := .ref (Z 0)) (C := RX5) (T := TX5) (N := 7) hx hb hts hinX5 hown hK hP (0) rfl rfl 5 (by decide) hf24 (fun _ h9 => h9) rfl dX5_richest_43 ?_
              refine va_getN (D := D) (ci := 4) (v := .ref (Z 3)) (C := RX4) (T := TX4) (N := 16) hx hb hts hinX4 hown hK hP (4) rfl rfl 3 (by decide) hf55 (fun _ h9 => h9) rfl dX5_richest_46 ?_
              refine lv_iload_n hx hb dX5_richest_49 rfl (lv_at hl 1 rfl) ?_
              refine zt_i (x' := nI i6) hn ?_
              refine z_ald hx hb hK hP 7 (f := q 4) rfl i6 rfl (by omega) (by decide) dX5_richest_50 ?_
              refine lv_icmp_le (tgt := 56) hx hb dX5_richest_51 (by decide) (fun c10 => ?_) (fun c10 => ?_)
              · have d10 := Int32.not_lt.mpr c10
                refine lv_iinc (v := nI (k + 1)) (lv' := [(2, .int (nI (k + 1))), (1, .int ((richE q k).1)), (0, .ref (Y 0))]) hx hb dX5_richest_56 hl (k := 0) rfl (nI_1 _) (by decide) rfl (fun ls hl => ?_)
                refine lv_goto (tgt := 9) hx hb dX5_richest_59 (by decide) ?_
                have e11 : (richE q (k + 1)).1 = (richE q k).1 := by simp [richE_s, richS, c4, hn, hn2, hne, c10, d10]
                refine ihk H locs ls ?_ ?_ hS ?_
                · first | exact hP | (simp only [e11]; exact hP)
                · first | exact hD | (simp only [e11]; exact hD)
                · first | exact lv_sub hl [0, 1, 2] rfl | (simp only [e11]; exact lv_sub hl [0, 1, 2] rfl)
              · have d10 := Int32.not_le.mp c10
                refine lv_iload_n hx hb dX5_richest_54 rfl (lv_at hl 0 rfl) ?_
                refine lv_istore_n (lv' := [(1, .int (nI k)), (2, .int (nI k)), (0, .ref (Y 0))]) hx hb dX5_richest_55 rfl hl (by decide) rfl (fun ls hl => ?_)
                refine lv_iinc (v := nI (k + 1)) (lv' := [(2, .int (nI (k + 1))), (1, .int (nI k)), (0, .ref (Y 0))]) hx hb dX5_richest_56 hl (k := 1) rfl (nI_1 _) (by decide) rfl (fun ls hl => ?_)
                refine lv_goto (tgt := 9) hx hb dX5_richest_59 (by decide) ?_
                have e12 : (richE q (k + 1)).1 = nI k := by simp [richE_s, richS, c4, hn, hn2, hne, c10, d10]
                refine ihk H locs ls ?_ ?_ hS ?_
                · first | exact hP | (simp only [e12]; exact hP)
                · first | exact hD | (simp only [e12]; exact hD)
                · first | exact lv_sub hl [0, 1, 2] rfl | (simp only [e12]; exact lv_sub hl [0, 1, 2] rfl)
  exact loop1 0 (Nat.zero_le _) H locs ls hP hD hS (lv_sub hl [0, 1, 2] rfl)
