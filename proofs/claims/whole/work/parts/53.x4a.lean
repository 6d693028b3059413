/-! the model's object and a State of it, in numbers: the same columns; places and rents stand in the object -/
def oW (Y : Nat → Nat) (r1 r2 : Nat) (y : Nat → ClassId) (th : Int32) (t : Nat → Int32) (c : Nat) (pl rt : Nat → Int32) : va_W :=
  [(Y 0, .inr (5, [.int th, .ref (Y 1), .int (nI c), .ref (Y 2), .ref (Y 3), .ref r1, .ref r2])),
   (Y 1, .inl (y 0, 7, .inl t)), (Y 2, .inl (y 0, 6, .inl pl)), (Y 3, .inl (y 0, 6, .inl rt))]
def stW (Z : Nat → Nat) (Y0 : Nat) (y : Nat → ClassId) (q b : Fld) (bc n : Nat) (ar fi rn : Int32) : va_W :=
  [(Z 0, .inr (4, [.int (nI n), .ref (Z 1), .ref (Z 2), .ref (Z 3), .ref (Z 4), .ref (Z 5), .ref (Z 6), .int (nI bc), .ref (Z 7), .ref (Z 8), .ref (Z 9), .ref (Z 10), .int ar, .int fi, .int rn, .ref Y0])),
   (Z 1, .inl (y 0, 6, .inl (q 1))), (Z 2, .inl (y 0, 6, .inl (q 2))), (Z 3, .inl (y 0, 6, .inl (q 4))), (Z 4, .inl (y 0, 6, .inl (q 5))), (Z 5, .inl (y 0, 6, .inl (q 6))), (Z 6, .inl (y 0, 6, .inl (q 7))),
   (Z 7, .inl (y 0, 5, .inl (b 1))), (Z 8, .inl (y 0, 5, .inl (b 2))), (Z 9, .inl (y 0, 5, .inl (b 3))), (Z 10, .inl (y 0, 5, .inl (b 0)))]
def mW (Y Z : Nat → Nat) (r1 r2 : Nat) (y : Nat → ClassId) (th : Int32) (t : Nat → Int32) (c : Nat) (q b : Fld) (bc n : Nat) (ar fi rn : Int32) : va_W :=
  oW Y r1 r2 y th t c (q 0) (q 3) ++ stW Z (Y 0) y q b bc n ar fi rn
theorem mW_q1 {Y Z : Nat → Nat} {r1 r2 : Nat} {th : Int32} {t : Nat → Int32} {c : Nat} {q b : Fld} {bc n : Nat} {ar fi rn : Int32} {y : Nat → ClassId} {k : Nat} {x : Int32} : (mW Y Z r1 r2 y th t c q b bc n ar fi rn).set 5 (Z 1, .inl (y 0, 6, .inl (upd (q 1) k x))) = mW Y Z r1 r2 y th t c (up2 q 1 k x) b bc n ar fi rn := rfl
theorem mW_q2 {Y Z : Nat → Nat} {r1 r2 : Nat} {th : Int32} {t : Nat → Int32} {c : Nat} {q b : Fld} {bc n : Nat} {ar fi rn : Int32} {y : Nat → ClassId} {k : Nat} {x : Int32} : (mW Y Z r1 r2 y th t c q b bc n ar fi rn).set 6 (Z 2, .inl (y 0, 6, .inl (upd (q 2) k x))) = mW Y Z r1 r2 y th t c (up2 q 2 k x) b bc n ar fi rn := rfl
theorem mW_q4 {Y Z : Nat → Nat} {r1 r2 : Nat} {th : Int32} {t : Nat → Int32} {c : Nat} {q b : Fld} {bc n : Nat} {ar fi rn : Int32} {y : Nat → ClassId} {k : Nat} {x : Int32} : (mW Y Z r1 r2 y th t c q b bc n ar fi rn).set 7 (Z 3, .inl (y 0, 6, .inl (upd (q 4) k x))) = mW Y Z r1 r2 y th t c (up2 q 4 k x) b bc n ar fi rn := rfl
theorem mW_q5 {Y Z : Nat → Nat} {r1 r2 : Nat} {th : Int32} {t : Nat → Int32} {c : Nat} {q b : Fld} {bc n : Nat} {ar fi rn : Int32} {y : Nat → ClassId} {k : Nat} {x : Int32} : (mW Y Z r1 r2 y th t c q b bc n ar fi rn).set 8 (Z 4, .inl (y 0, 6, .inl (upd (q 5) k x))) = mW Y Z r1 r2 y th t c (up2 q 5 k x) b bc n ar fi rn := rfl
theorem mW_q6 {Y Z : Nat → Nat} {r1 r2 : Nat} {th : Int32} {t : Nat → Int32} {c : Nat} {q b : Fld} {bc n : Nat} {ar fi rn : Int32} {y : Nat → ClassId} {k : Nat} {x : Int32} : (mW Y Z r1 r2 y th t c q b bc n ar fi rn).set 9 (Z 5, .inl (y 0, 6, .inl (upd (q 6) k x))) = mW Y Z r1 r2 y th t c (up2 q 6 k x) b bc n ar fi rn := rfl
theorem mW_q7 {Y Z : Nat → Nat} {r1 r2 : Nat} {th : Int32} {t : Nat → Int32} {c : Nat} {q b : Fld} {bc n : Nat} {ar fi rn : Int32} {y : Nat → ClassId} {k : Nat} {x : Int32} : (mW Y Z r1 r2 y th t c q b bc n ar fi rn).set 10 (Z 6, .inl (y 0, 6, .inl (upd (q 7) k x))) = mW Y Z r1 r2 y th t c (up2 q 7 k x) b bc n ar fi rn := rfl
theorem mW_b1 {Y Z : Nat → Nat} {r1 r2 : Nat} {th : Int32} {t : Nat → Int32} {c : Nat} {q b : Fld} {bc n : Nat} {ar fi rn : Int32} {y : Nat → ClassId} {k : Nat} {x : Int32} : (mW Y Z r1 r2 y th t c q b bc n ar fi rn).set 11 (Z 7, .inl (y 0, 5, .inl (upd (b 1) k x))) = mW Y Z r1 r2 y th t c q (up2 b 1 k x) bc n ar fi rn := rfl
theorem mW_b2 {Y Z : Nat → Nat} {r1 r2 : Nat} {th : Int32} {t : Nat → Int32} {c : Nat} {q b : Fld} {bc n : Nat} {ar fi rn : Int32} {y : Nat → ClassId} {k : Nat} {x : Int32} : (mW Y Z r1 r2 y th t c q b bc n ar fi rn).set 12 (Z 8, .inl (y 0, 5, .inl (upd (b 2) k x))) = mW Y Z r1 r2 y th t c q (up2 b 2 k x) bc n ar fi rn := rfl
theorem mW_b3 {Y Z : Nat → Nat} {r1 r2 : Nat} {th : Int32} {t : Nat → Int32} {c : Nat} {q b : Fld} {bc n : Nat} {ar fi rn : Int32} {y : Nat → ClassId} {k : Nat} {x : Int32} : (mW Y Z r1 r2 y th t c q b bc n ar fi rn).set 13 (Z 9, .inl (y 0, 5, .inl (upd (b 3) k x))) = mW Y Z r1 r2 y th t c q (up2 b 3 k x) bc n ar fi rn := rfl
theorem mW_b0 {Y Z : Nat → Nat} {r1 r2 : Nat} {th : Int32} {t : Nat → Int32} {c : Nat} {q b : Fld} {bc n : Nat} {ar fi rn : Int32} {y : Nat → ClassId} {k : Nat} {x : Int32} : (mW Y Z r1 r2 y th t c q b bc n ar fi rn).set 14 (Z 10, .inl (y 0, 5, .inl (upd (b 0) k x))) = mW Y Z r1 r2 y th t c q (up2 b 0 k x) bc n ar fi rn := rfl
def runM (t : Nat → Int32) (n : Nat) : Int32 := t (n % 7) * (3 - moonI n)
abbrev Dst : Type := Fld × Int32 × Int32
def dnS (p ask : Int32) (k : Nat) (a : Dst) : Dst := if a.1 0 k = p then (if heldB a.1 k = true then (if a.1 6 k = 1 then a else (catchW a.1 k a.2.1, a.2.1 - caughtI a.1 k a.2.1, a.2.2 + (if nI k = ask then caughtI a.1 k a.2.1 else 0))) else a) else a
theorem wayB_h (q : Fld) (k : Nat) (w : Int32) : wayB q k w = (heldB q k && decide (q 6 k = 0) && decide ((30 - w) < q 1 k)) := rfl
def dnI (p ask : Int32) (k : Nat) (a : Dst) : Dst := itN (dnS p ask) k a
theorem dnI_s (p ask : Int32) (k : Nat) (a : Dst) : dnI p ask (k + 1) a = dnS p ask k (dnI p ask k a) := rfl
/-- the places from m - 1 down to 0 -/
def dnO (ask : Int32) (c : Nat) : Nat → Dst → Dst
  | 0, a => a
  | m + 1, a => dnO ask c m (dnI (nI m) ask c a)
theorem dnO_s (ask : Int32) (c m : Nat) (a : Dst) : dnO ask c (m + 1) a = dnO ask c m (dnI (nI m) ask c a) := rfl
def pI : Nat → Int32
  | 0 => -1
  | m + 1 => nI m
theorem pI_m : ∀ m : Nat, nI m + (-1) = pI m
  | 0 => by decide
  | m + 1 => pk_m1 m
/-- breaking: weirs, fines, how many this one broke, whether it broke one -/
abbrev Bst : Type := Fld × Int32 × Int32 × Int32
def breakM (q : Fld) (k : Nat) (wide : Int32) : Fld := up2 (up2 (up2 q 1 k (30 - wide)) 2 k (maxI 0 (q 2 k - 20))) 4 k (q 4 k - fineI q k)
def bkS (bp bw : Int32) (k : Nat) (a : Bst) : Bst := if a.1 0 k = bp then (if wayB a.1 k bw = true then (breakM a.1 k bw, a.2.1 + fineI a.1 k, a.2.2.1 + 1, 1) else a) else a
def bkE (q : Fld) (c : Nat) (bp bw fi br : Int32) : Bst := itN (bkS bp bw) c (q, fi, br, 0)
theorem bkE_s (q : Fld) (k : Nat) (bp bw fi br : Int32) : bkE q (k + 1) bp bw fi br = bkS bp bw k (bkE q k bp bw fi br) := rfl
theorem bkE_01 (q : Fld) (k : Nat) (bp bw fi br : Int32) : (bkE q k bp bw fi br).2.2.2 = 0 ∨ (bkE q k bp bw fi br).2.2.2 = 1 := by
  induction k with
  | zero => exact Or.inl rfl
  | succ k ih =>
    rw [bkE_s]; unfold bkS
    split
    · split
      · exact Or.inr rfl
      · exact ih
    · exact ih
abbrev Gst : Type := Fld × Fld × Int32
/-- one place farther, and what it breaks there -/
def guB (c j : Nat) (a : Gst) : Bst := bkE a.1 c (a.2.1 2 j + 1) (a.2.1 1 j) a.2.2 (a.2.1 3 j)
def guS (c j : Nat) (a : Gst) : Gst := ((guB c j a).1, up2 (up2 a.2.1 2 j (a.2.1 2 j + 1)) 3 j (guB c j a).2.2.1, (guB c j a).2.1)
def guE (c j : Nat) : Nat → Gst → Gst
  | 0, a => a
  | m + 1, a => if a.2.1 2 j < 39 then (if (guB c j a).2.2.2 = 0 then guE c j m (guS c j a) else guS c j a) else a
theorem guE_s (c j m : Nat) (a : Gst) : guE c j (m + 1) a = (if a.2.1 2 j < 39 then (if (guB c j a).2.2.2 = 0 then guE c j m (guS c j a) else guS c j a) else a) := rfl
def upM (c m : Nat) (a : Gst) : Gst := itN (fun j => guE c j 5) m a
theorem upM_s (c m : Nat) (a : Gst) : upM c (m + 1) a = guE c m 5 (upM c m a) := rfl
/-- leaving: barges, how many stay, how many arrived -/
abbrev Lst : Type := Fld × Nat × Int32
def cpM (b : Fld) (m i : Nat) : Fld := up2 (up2 (up2 (up2 b 1 m (b 1 i)) 2 m (b 2 i)) 3 m (b 3 i)) 0 m (b 0 i)
def lvMS (i : Nat) (a : Lst) : Lst := if a.1 2 i = 39 then (a.1, a.2.1, a.2.2 + 1) else (cpM a.1 a.2.1 i, a.2.1 + 1, a.2.2)
def lvM (b : Fld) (m : Nat) (ar : Int32) : Lst := itN lvMS m (b, 0, ar)
theorem lvM_s (b : Fld) (m : Nat) (ar : Int32) : lvM b (m + 1) ar = lvMS m (lvM b m ar) := rfl
theorem lvM_le (b : Fld) (m : Nat) (ar : Int32) : (lvM b m ar).2.1 ≤ m := by
  induction m with
  | zero => exact Nat.le_refl _
  | succ m ih =>
    rw [lvM_s]; unfold lvMS
    split
    · exact Nat.le_succ_of_le ih
    · exact Nat.succ_le_succ ih
def payM (q : Fld) (k : Nat) : Fld := if q 4 k < q 3 k then (if q 7 k + 1 = 3 then up2 (up2 q 7 k (q 7 k + 1)) 5 k 0 else up2 q 7 k (q 7 k + 1)) else up2 (up2 q 4 k (q 4 k - q 3 k)) 7 k 0
def rotM (q : Fld) (c n : Nat) : Fld := itN (fun k a => if heldB a k = true then up2 a 2 k (maxI 0 (a 2 k - rotI n)) else a) c q
theorem rotM_s (q : Fld) (k n : Nat) : rotM q (k + 1) n = (if heldB (rotM q k n) k = true then up2 (rotM q k n) 2 k (maxI 0 ((rotM q k n) 2 k - rotI n)) else rotM q k n) := rfl
def rentMS (k : Nat) (a : Fld × Int32) : Fld × Int32 := if heldB a.1 k = true then (payM a.1 k, a.2 + paidI a.1 k) else a
def rentM (q : Fld) (c : Nat) (rn : Int32) : Fld × Int32 := itN rentMS c (q, rn)
theorem rentM_s (q : Fld) (k : Nat) (rn : Int32) : rentM q (k + 1) rn = rentMS k (rentM q k rn) := rfl
def nightM (t : Nat → Int32) (c : Nat) (a : Nst) : Nst :=
  let q1 := (dnO (-1) c 40 (a.1, runM t a.2.2.2.1, 0)).1
  let g := upM c a.2.2.1 (q1, a.2.1, a.2.2.2.2.2.1)
  let lv := lvM g.2.1 a.2.2.1 a.2.2.2.2.1
  let q3 := rotM g.1 c a.2.2.2.1
  let r := if a.2.2.2.1 % 14 = 13 then rentM q3 c a.2.2.2.2.2.2 else (q3, a.2.2.2.2.2.2)
  (r.1, lv.1, lv.2.1, a.2.2.2.1 + 1, lv.2.2, g.2.2, r.2)
def nightsM (t : Nat → Int32) (c k : Nat) (a : Nst) : Nst := itN (fun _ => nightM t c) k a
theorem nightsM_s (t : Nat → Int32) (c k : Nat) (a : Nst) : nightsM t c (k + 1) a = nightM t c (nightsM t c k a) := rfl
theorem nightsM_n (t : Nat → Int32) (c k : Nat) (a : Nst) : (nightsM t c k a).2.2.2.1 = a.2.2.2.1 + k := by
  induction k with
  | zero => rfl
  | succ k ih => rw [nightsM_s]; show (nightsM t c k a).2.2.2.1 + 1 = _; rw [ih]; omega
theorem nightsM_b (t : Nat → Int32) (c k : Nat) (a : Nst) : (nightsM t c k a).2.2.1 ≤ a.2.2.1 := by
  induction k with
  | zero => exact Nat.le_refl _
  | succ k ih => rw [nightsM_s]; exact Nat.le_trans (lvM_le _ _ _) ih
set_option maxHeartbeats 4000000 in
set_option maxRecDepth 100000 in
theorem c_X4_isHeld (l : Launch) (D : va_G) (y : Nat → ClassId) (Y Z : Nat → Nat) (r1 r2 : Nat) (th : Int32) (t : Nat → Int32) (c : Nat) (q b : Fld) (bc n : Nat) (ar fi rn : Int32) (k : Nat) (hk : k < 6) : zR l yX4_isHeld wsX4_isHeld { frames := 0, cells := 0, slots := 0, locals := 0 } D y [.ref (Z 0), .int (nI k)] (mW Y Z r1 r2 y th t c q b bc n ar fi rn) (some (.int (zb (heldB q k)))) := by
  refine zR.of (cc := cX4_isHeld) (maxL := 2) (ret := (some .boolean)) (own := RX4) (by decide) rfl (Nat.le_of_ble_eq_true rfl) rfl ?_
  intro p e s m args below meth cd ls hx hb hr hml hown hts hlocks hP hK hl
  have hl : lv_has ls 2 [(0, .ref (Z 0)), (1, .int (nI k))] := hl
  have hf31 : (Cond.fieldLink RX4 31 "StakeWeirsModel$State" "owes" "[I").before args s = true := hts _ (by decide +kernel)
  have hinX4 : ∀ w ∈ wsX40, w ∈ wsX4_isHeld := by decide +kernel
  refine lv_aload_n hx hb dX4_isHeld_0 rfl (lv_at hl 0 rfl) ?_
  refine va_get (D := D) (ci := 4) (v := .ref (Z 6)) (C := RX4) (T := TX4) (N := 16) hx hb hts hinX4 hown hK hP (4) rfl rfl 6 (by decide) hf31 (fun _ h9 => h9) rfl dX4_isHeld_1 ?_
  refine lv_iload_n hx hb dX4_isHeld_4 rfl (lv_at hl 1 rfl) ?_
  refine z_ald hx hb hK hP 10 (f := q 7) rfl k rfl (by omega) (by decide) dX4_isHeld_5 ?_
  refine lv_iconst (v := 3) hx hb dX4_isHeld_6 (by decide) ?_
  refine lv_icmp_ge (tgt := 14) hx hb dX4_isHeld_7 (by decide) (fun c1 => ?_) (fun c1 => ?_)
  · have d1 := Int32.not_lt.mpr c1
    refine lv_iconst (v := 0) hx hb dX4_isHeld_14 (by decide) ?_
    exact zR_z hx hb hr hlocks dX4_isHeld_15 (Or.inl rfl) (by simp [zb, heldB, c1, d1])
  · have d1 := Int32.not_le.mp c1
    refine lv_iconst (v := 1) hx hb dX4_isHeld_10 (by decide) ?_
    refine lv_goto (tgt := 15) hx hb dX4_isHeld_11 (by decide) ?_
    exact zR_z hx hb hr hlocks dX4_isHeld_15 (Or.inr rfl) (by simp [zb, heldB, c1, d1])
set_option maxHeartbeats 4000000 in
set_option maxRecDepth 100000 in
theorem c_X4_moon (l : Launch) (D : va_G) (y : Nat → ClassId) (Y Z : Nat → Nat) (r1 r2 : Nat) (th : Int32) (t : Nat → Int32) (c : Nat) (q b : Fld) (bc n : Nat) (ar fi rn : Int32) (hn : n < 2147483648) : zR l yX4_moon wsX4_moon { frames := 0, cells := 0, slots := 0, locals := 0 } D y [.ref (Z 0)] (mW Y Z r1 r2 y th t c q b bc n ar fi rn) (some (.int (moonI n))) := by
  refine zR.of (cc := cX4_moon) (maxL := 2) (ret := (some .int)) (own := RX4) (by decide) rfl (Nat.le_of_ble_eq_true rfl) rfl ?_
  intro p e s m args below meth cd ls hx hb hr hml hown hts hlocks hP hK hl
  have hl : lv_has ls 2 [(0, .ref (Z 0))] := hl
  have hf52 : (Cond.fieldLink RX4 52 "StakeWeirsModel$State" "night" "I").before args s = true := hts _ (by decide +kernel)
  have hinX4 : ∀ w ∈ wsX40, w ∈ wsX4_moon := by decide +kernel
  refine lv_aload_n hx hb dX4_moon_0 rfl (lv_at hl 0 rfl) ?_
  refine va_get (D := D) (ci := 4) (v := .int (nI n)) (C := RX4) (T := TX4) (N := 16) hx hb hts hinX4 hown hK hP (4) rfl rfl 0 (by decide) hf52 (fun _ h9 => h9) rfl dX4_moon_1 ?_
  refine lv_bipush (v := 28) hx hb dX4_moon_4 (by decide) ?_
  refine lv_irem hx hb dX4_moon_6 (by decide) ?_
  refine zt_i (x' := nI (n % 28)) (pk_rem (by omega) (by decide) (by decide)) ?_
  refine lv_istore_n (lv' := [(1, .int (nI (n % 28))), (0, .ref (Z 0))]) hx hb dX4_moon_7 rfl hl (by decide) rfl (fun ls hl => ?_)
  refine lv_iload_n hx hb dX4_moon_8 rfl (lv_at hl 0 rfl) ?_
  refine lv_iconst (v := 3) hx hb dX4_moon_9 (by decide) ?_
  refine lv_icmp_le (tgt := 19) hx hb dX4_moon_10 (by decide) (fun c1 => ?_) (fun c1 => ?_)
  · have d1 := Int32.not_lt.mpr c1
    refine lv_iconst (v := 0) hx hb dX4_moon_19 (by decide) ?_
    refine lv_goto (tgt := 40) hx hb dX4_moon_20 (by decide) ?_
    exact zR_i hx hb hr hlocks dX4_moon_40 (by simp [moonI, moonD, c1, d1])
  · have d1 := Int32.not_le.mp c1
    refine lv_iload_n hx hb dX4_moon_13 rfl (lv_at hl 0 rfl) ?_
    refine lv_bipush (v := 25) hx hb dX4_moon_14 (by decide) ?_
    refine lv_icmp_lt (tgt := 23) hx hb dX4_moon_16 (by decide) (fun c2 => ?_) (fun c2 => ?_)
    · have d2 := Int32.not_le.mpr c2
      refine lv_iload_n hx hb dX4_moon_23 rfl (lv_at hl 0 rfl) ?_
      refine lv_bipush (v := 9) hx hb dX4_moon_24 (by decide) ?_
      refine lv_icmp_le (tgt := 35) hx hb dX4_moon_26 (by decide) (fun c3 => ?_) (fun c3 => ?_)
      · have d3 := Int32.not_lt.mpr c3
        refine lv_iconst (v := 1) hx hb dX4_moon_35 (by decide) ?_
        refine lv_goto (tgt := 40) hx hb dX4_moon_36 (by decide) ?_
        exact zR_i hx hb hr hlocks dX4_moon_40 (by simp [moonI, moonD, c1, d1, c2, d2, c3, d3])
      · have d3 := Int32.not_le.mp c3
        refine lv_iload_n hx hb dX4_moon_29 rfl (lv_at hl 0 rfl) ?_
        refine lv_bipush (v := 19) hx hb dX4_moon_30 (by decide) ?_
        refine lv_icmp_lt (tgt := 39) hx hb dX4_moon_32 (by decide) (fun c4 => ?_) (fun c4 => ?_)
        · have d4 := Int32.not_le.mpr c4
          refine lv_iconst (v := 2) hx hb dX4_moon_39 (by decide) ?_
          exact zR_i hx hb hr hlocks dX4_moon_40 (by simp [moonI, moonD, c1, d1, c2, d2, c3, d3, c4, d4])
        · have d4 := Int32.not_lt.mp c4
          refine lv_iconst (v := 1) hx hb dX4_moon_35 (by decide) ?_
          refine lv_goto (tgt := 40) hx hb dX4_moon_36 (by decide) ?_
          exact zR_i hx hb hr hlocks dX4_moon_40 (by simp [moonI, moonD, c1, d1, c2, d2, c3, d3, c4, d4])
    · have d2 := Int32.not_lt.mp c2
      refine lv_iconst (v := 0) hx hb dX4_moon_19 (by decide) ?_
      refine lv_goto (tgt := 40) hx hb dX4_moon_20 (by decide) ?_
      exact zR_i hx hb hr hlocks dX4_moon_40 (by simp [moonI, moonD, c1, d1, c2, d2])
set_option maxHeartbeats 4000000 in
set_option maxRecDepth 100000 in
theorem c_X4_run (l : Launch) (D : va_G) (y : Nat → ClassId) (Y Z : Nat → Nat) (r1 r2 : Nat) (th : Int32) (t : Nat → Int32) (c : Nat) (q b : Fld) (bc n : Nat) (ar fi rn : Int32) (hn : n < 2147483648) : zRN l yX4_run wsX4_run { frames := 1, cells := 0, slots := 0, locals := 21 } D y [.ref (Z 0)] (mW Y Z r1 r2 y th t c q b bc n ar fi rn) (some (.int (runM t n))) := by
  refine zRN.of (cc := cX4_run) (maxL := 1) (ret := (some .int)) (own := RX4) (by decide) rfl (Nat.le_of_ble_eq_true rfl) rfl ?_
  intro p e s m args below meth cd ls hx hb hr hml hown hts hlocks hP hK hN hl
  have hl : lv_has ls 1 [(0, .ref (Z 0))] := hl
  have hf3 : (Cond.fieldLink RX4 3 "StakeWeirsModel$State" "this$0" "LStakeWeirsModel;").before args s = true := hts _ (by decide +kernel)
  have hinX4 : ∀ w ∈ wsX40, w ∈ wsX4_run := by decide +kernel
  have hf72 : (Cond.fieldLinkNest "StakeWeirsModel$State" 72 "StakeWeirsModel" "table" "[I" "StakeWeirsModel").before args s = true := va_Nw.use rfl (hN ("StakeWeirsModel$State", 72, "StakeWeirsModel", "table", "[I", "StakeWeirsModel") (by decide +kernel))
  have hinX5 : ∀ w ∈ wsX50, w ∈ wsX4_run := by decide +kernel
  have hf52 : (Cond.fieldLink RX4 52 "StakeWeirsModel$State" "night" "I").before args s = true := hts _ (by decide +kernel)
  refine lv_aload_n hx hb dX4_run_0 rfl (lv_at hl 0 rfl) ?_
  refine va_get (D := D) (ci := 4) (v := .ref (Y 0)) (C := RX4) (T := TX4) (N := 16) hx hb hts hinX4 hown hK hP (4) rfl rfl 15 (by decide) hf3 (fun _ h9 => h9) rfl dX4_run_1 ?_
  refine va_getN (D := D) (ci := 5) (v := .ref (Y 1)) (C := RX5) (T := TX5) (N := 7) hx hb hts hinX5 hown hK hP (0) rfl rfl 1 (by decide) hf72 (fun _ h9 => h9) rfl dX4_run_4 ?_
  refine lv_aload_n hx hb dX4_run_7 rfl (lv_at hl 0 rfl) ?_
  refine va_get (D := D) (ci := 4) (v := .int (nI n)) (C := RX4) (T := TX4) (N := 16) hx hb hts hinX4 hown hK hP (4) rfl rfl 0 (by decide) hf52 (fun _ h9 => h9) rfl dX4_run_8 ?_
  refine lv_bipush (v := 7) hx hb dX4_run_11 (by decide) ?_
  refine lv_irem hx hb dX4_run_13 (by decide) ?_
  refine zt_i (x' := nI (n % 7)) (pk_rem (by omega) (by decide) (by decide)) ?_
  refine z_ald hx hb hK hP 1 (f := t) rfl (n % 7) rfl (by omega) (by decide) dX4_run_14 ?_
  refine lv_iconst (v := 3) hx hb dX4_run_15 (by decide) ?_
  refine lv_aload_n hx hb dX4_run_16 rfl (lv_at hl 0 rfl) ?_
  refine zcRV (As := []) (rest := [.int 3, .int ((t (n % 7)))]) (st1 := [.int ((moonI n)), .int 3, .int ((t (n % 7)))]) ⟨hx, hb, hml, hown, hts⟩ (c_X4_moon l D y Y Z r1 r2 th t c q b bc n ar fi rn  (by omega)) (cwV 0 hts gX4_run_X4_moon rfl rfl rfl (by decide +kernel) ⟨Nat.le_of_ble_eq_true rfl, Nat.le_of_ble_eq_true rfl⟩) hK hP (ci := 4) (q0 := 4) rfl rfl rfl rfl hl.1 rfl (lv_room (Nat.le_of_ble_eq_true rfl)) dX4_run_17 ⟨Nat.le_of_ble_eq_true rfl, Nat.le_of_ble_eq_true rfl⟩ rfl ?_
  refine lv_isub hx hb dX4_run_20 ?_
  refine lv_imul hx hb dX4_run_21 ?_
  exact zR_i hx hb hr hlocks dX4_run_22 rfl
set_option maxHeartbeats 4000000 in
set_option maxRecDepth 100000 in
theorem c_X4_isInWay (l : Launch) (D : va_G) (y : Nat → ClassId) (Y Z : Nat → Nat) (r1 r2 : Nat) (th : Int32) (t : Nat → Int32) (c : Nat) (q b : Fld) (bc n : Nat) (ar fi rn : Int32) (k : Nat) (wd : Int32) (hk : k < 6) : zR l yX4_isInWay wsX4_isInWay { frames := 1, cells := 0, slots := 0, locals := 21 } D y [.ref (Z 0), .int (nI k), .int wd] (mW Y Z r1 r2 y th t c q b bc n ar fi rn) (some (.int (zb (wayB q k wd)))) := by
  refine zR.of (cc := cX4_isInWay) (maxL := 3) (ret := (some .boolean)) (own := RX4) (by decide) rfl (Nat.le_of_ble_eq_true rfl) rfl ?_
  intro p e s m args below meth cd ls hx hb hr hml hown hts hlocks hP hK hl
  have hl : lv_has ls 3 [(0, .ref (Z 0)), (1, .int (nI k)), (2, .int wd)] := hl
  have hf28 : (Cond.fieldLink RX4 28 "StakeWeirsModel$State" "open" "[I").before args s = true := hts _ (by decide +kernel)
  have hinX4 : ∀ w ∈ wsX40, w ∈ wsX4_isInWay := by decide +kernel
  have hf15 : (Cond.fieldLink RX4 15 "StakeWeirsModel$State" "stakes" "[I").before args s = true := hts _ (by decide +kernel)
  refine lv_aload_n hx hb dX4_isInWay_0 rfl (lv_at hl 0 rfl) ?_
  refine lv_iload_n hx hb dX4_isInWay_1 rfl (lv_at hl 1 rfl) ?_
  refine zcRV (As := [.int (nI k)]) (rest := []) (st1 := [.int (zb (heldB q k))]) ⟨hx, hb, hml, hown, hts⟩ (c_X4_isHeld l D y Y Z r1 r2 th t c q b bc n ar fi rn k (by omega)) (cwV 1 hts gX4_isInWay_X4_isHeld rfl rfl rfl (by decide +kernel) ⟨Nat.le_of_ble_eq_true rfl, Nat.le_of_ble_eq_true rfl⟩) hK hP (ci := 4) (q0 := 4) rfl rfl rfl rfl hl.1 rfl (lv_room (Nat.le_of_ble_eq_true rfl)) dX4_isInWay_2 ⟨Nat.le_of_ble_eq_true rfl, Nat.le_of_ble_eq_true rfl⟩ rfl ?_
  refine lv_if_eq (tgt := 34) hx hb dX4_isInWay_5 (by decide) (fun c1 => ?_) (fun c1 => ?_)
  · have c1 : heldB q k = false := zb_f c1
    refine lv_iconst (v := 0) hx hb dX4_isInWay_34 (by decide) ?_
    exact zR_z hx hb hr hlocks dX4_isInWay_35 (Or.inl rfl) (by simp [zb, wayB_h, c1])
  · have c1 : heldB q k = true := zb_t c1
    refine lv_aload_n hx hb dX4_isInWay_8 rfl (lv_at hl 0 rfl) ?_
    refine va_get (D := D) (ci := 4) (v := .ref (Z 5)) (C := RX4) (T := TX4) (N := 16) hx hb hts hinX4 hown hK hP (4) rfl rfl 5 (by decide) hf28 (fun _ h9 => h9) rfl dX4_isInWay_9 ?_
    refine lv_iload_n hx hb dX4_isInWay_12 rfl (lv_at hl 1 rfl) ?_
    refine z_ald hx hb hK hP 9 (f := q 6) rfl k rfl (by omega) (by decide) dX4_isInWay_13 ?_
    refine lv_if_ne (tgt := 34) hx hb dX4_isInWay_14 (by decide) (fun c2 => ?_) (fun c2 => ?_)
    · have d2 := c2
      refine lv_iconst (v := 0) hx hb dX4_isInWay_34 (by decide) ?_
      exact zR_z hx hb hr hlocks dX4_isInWay_35 (Or.inl rfl) (by simp [zb, wayB_h, c1, c2, d2])
    · have d2 := c2
      refine lv_aload_n hx hb dX4_isInWay_17 rfl (lv_at hl 0 rfl) ?_
      refine va_get (D := D) (ci := 4) (v := .ref (Z 1)) (C := RX4) (T := TX4) (N := 16) hx hb hts hinX4 hown hK hP (4) rfl rfl 1 (by decide) hf15 (fun _ h9 => h9) rfl dX4_isInWay_18 ?_
      refine lv_iload_n hx hb dX4_isInWay_21 rfl (lv_at hl 1 rfl) ?_
      refine z_ald hx hb hK hP 5 (f := q 1) rfl k rfl (by omega) (by decide) dX4_isInWay_22 ?_
      refine lv_bipush (v := 30) hx hb dX4_isInWay_23 (by decide) ?_
      refine lv_iload_n hx hb dX4_isInWay_25 rfl (lv_at hl 2 rfl) ?_
      refine lv_isub hx hb dX4_isInWay_26 ?_
      refine lv_icmp_le (tgt := 34) hx hb dX4_isInWay_27 (by decide) (fun c3 => ?_) (fun c3 => ?_)
      · have d3 := Int32.not_lt.mpr c3
        refine lv_iconst (v := 0) hx hb dX4_isInWay_34 (by decide) ?_
        exact zR_z hx hb hr hlocks dX4_isInWay_35 (Or.inl rfl) (by simp [zb, wayB_h, c1, c2, d2, c3, d3])
      · have d3 := Int32.not_le.mp c3
        refine lv_iconst (v := 1) hx hb dX4_isInWay_30 (by decide) ?_
        refine lv_goto (tgt := 35) hx hb dX4_isInWay_31 (by decide) ?_
        exact zR_z hx hb hr hlocks dX4_isInWay_35 (Or.inr rfl) (by simp [zb, wayB_h, c1, c2, d2, c3, d3])
set_option maxHeartbeats 4000000 in
set_option maxRecDepth 100000 in
theorem c_X4_held (l : Launch) (D : va_G) (y : Nat → ClassId) (Y Z : Nat → Nat) (r1 r2 : Nat) (th : Int32) (t : Nat → Int32) (c : Nat) (q b : Fld) (bc n : Nat) (ar fi rn : Int32) (hc : c ≤ 6) : zRN l yX4_held wsX4_held { frames := 1, cells := 0, slots := 0, locals := 21 } D y [.ref (Z 0)] (mW Y Z r1 r2 y th t c q b bc n ar fi rn) (some (.int (heldN q c))) := by
  refine zRN.of (cc := cX4_held) (maxL := 3) (ret := (some .int)) (own := RX4) (by decide) rfl (Nat.le_of_ble_eq_true rfl) rfl ?_
  intro p e s m args below meth cd ls hx hb hr hml hown hts hlocks hP hK hN hl
  have hl : lv_has ls 3 [(0, .ref (Z 0))] := hl
  have hf3 : (Cond.fieldLink RX4 3 "StakeWeirsModel$State" "this$0" "LStakeWeirsModel;").before args s = true := hts _ (by decide +kernel)
  have hinX4 : ∀ w ∈ wsX40, w ∈ wsX4_held := by decide +kernel
  have hf86 : (Cond.fieldLinkNest "StakeWeirsModel$State" 86 "StakeWeirsModel" "weirs" "I" "StakeWeirsModel").before args s = true := va_Nw.use rfl (hN ("StakeWeirsModel$State", 86, "StakeWeirsModel", "weirs", "I", "StakeWeirsModel") (by decide +kernel))
  have hinX5 : ∀ w ∈ wsX50, w ∈ wsX4_held := by decide +kernel
  refine lv_iconst (v := 0) hx hb dX4_held_0 (by decide) ?_
  refine lv_istore_n (lv' := [(1, .int 0), (0, .ref (Z 0))]) hx hb dX4_held_1 rfl hl (by decide) rfl (fun ls hl => ?_)
  refine lv_iconst (v := 0) hx hb dX4_held_2 (by decide) ?_
  refine lv_istore_n (lv' := [(2, .int 0), (1, .int 0), (0, .ref (Z 0))]) hx hb dX4_held_3 rfl hl (by decide) rfl (fun ls hl => ?_)
  have loop1 : ∀ k, k ≤ c → ∀ (ls : Array Slot), lv_has ls 3 [(2, .int (nI k)), (1, .int (heldN q k)), (0, .ref (Z 0))] → W p l e ({ frames := 1, cells := 0, slots := 0, locals := 21 } : Room) s m args below meth cd s.heap [] 0 0 (MQ below (zRQ (some (.int (heldN q c)))) args s 0 0 (fun _ => False)) (F0 m 4 ls []) := by
    refine down ?_ ?_
    · intro ls hl
      refine lv_iload_n hx hb dX4_held_4 rfl (lv_at hl 0 rfl) ?_
      refine lv_aload_n hx hb dX4_held_5 rfl (lv_at hl 2 rfl) ?_
      refine va_get (D := D) (ci := 4) (v := .ref (Y 0)) (C := RX4) (T := TX4) (N := 16) hx hb hts hinX4 hown hK hP (4) rfl rfl 15 (by decide) hf3 (fun _ h9 => h9) rfl dX4_held_6 ?_
      refine va_getN (D := D) (ci := 5) (v := .int (nI c)) (C := RX5) (T := TX5) (N := 7) hx hb hts hinX5 hown hK hP (0) rfl rfl 2 (by decide) hf86 (fun _ h9 => h9) rfl dX4_held_9 ?_
      refine lv_icmp_ge (tgt := 37) hx hb dX4_held_12 (by decide) (fun c2 => ?_) (fun c2 => ?_)
      · have d2 := Int32.not_lt.mpr c2
        refine lv_iload_n hx hb dX4_held_37 rfl (lv_at hl 1 rfl) ?_
        exact zR_i hx hb hr hlocks dX4_held_38 rfl
      · exact absurd (nI_le (a := c) (b := c) (by omega) (by omega)) c2
    · intro k hkk ihk ls hl
      refine lv_iload_n hx hb dX4_held_4 rfl (lv_at hl 0 rfl) ?_
      refine lv_aload_n hx hb dX4_held_5 rfl (lv_at hl 2 rfl) ?_
      refine va_get (D := D) (ci := 4) (v := .ref (Y 0)) (C := RX4) (T := TX4) (N := 16) hx hb hts hinX4 hown hK hP (4) rfl rfl 15 (by decide) hf3 (fun _ h9 => h9) rfl dX4_held_6 ?_
      refine va_getN (D := D) (ci := 5) (v := .int (nI c)) (C := RX5) (T := TX5) (N := 7) hx hb hts hinX5 hown hK hP (0) rfl rfl 2 (by decide) hf86 (fun _ h9 => h9) rfl dX4_held_9 ?_
      refine lv_icmp_ge (tgt := 37) hx hb dX4_held_12 (by decide) (fun c3 => ?_) (fun c3 => ?_)
      · exact absurd c3 (nI_ge (a := k) (b := c) (by omega) (by omega))
      · have d3 := Int32.not_le.mp c3
        refine lv_iload_n hx hb dX4_held_15 rfl (lv_at hl 1 rfl) ?_
        refine lv_aload_n hx hb dX4_held_16 rfl (lv_at hl 2 rfl) ?_
        refine lv_iload_n hx hb dX4_held_17 rfl (lv_at hl 0 rfl) ?_
        refine zcRV (As := [.int (nI k)]) (rest := [.int (heldN q k)]) (st1 := [.int (zb (heldB q k)), .int (heldN q k)]) ⟨hx, hb, hml, hown, hts⟩ (c_X4_isHeld l D y Y Z r1 r2 th t c q b bc n ar fi rn k (by omega)) (cwV 1 hts gX4_held_X4_isHeld rfl rfl rfl (by decide +kernel) ⟨Nat.le_of_ble_eq_true rfl, Nat.le_of_ble_eq_true rfl⟩) hK hP (ci := 4) (q0 := 4) rfl rfl rfl rfl hl.1 rfl (lv_room (Nat.le_of_ble_eq_true rfl)) dX4_held_18 ⟨Nat.le_of_ble_eq_true rfl, Nat.le_of_ble_eq_true rfl⟩ rfl ?_
        refine lv_if_eq (tgt := 28) hx hb dX4_held_21 (by decide) (fun c4 => ?_) (fun c4 => ?_)
        · have c4 : heldB q k = false := zb_f c4
          refine lv_iconst (v := 0) hx hb dX4_held_28 (by decide) ?_
          refine lv_iadd hx hb dX4_held_29 ?_
          refine lv_istore_n (lv' := [(1, .int ((heldN q k + 0))), (2, .int (nI k)), (0, .ref (Z 0))]) hx hb dX4_held_30 rfl hl (by decide) rfl (fun ls hl => ?_)
          refine lv_iinc (v := nI (k + 1)) (lv' := [(2, .int (nI (k + 1))), (1, .int ((heldN q k + 0))), (0, .ref (Z 0))]) hx hb dX4_held_31 hl (k := 1) rfl (nI_1 _) (by decide) rfl (fun ls hl => ?_)
          refine lv_goto (tgt := 4) hx hb dX4_held_34 (by decide) ?_
          have e5 : heldN q (k + 1) = (heldN q k + 0) := by simp [heldN_s, c4]
          refine ihk ls ?_
          simp only [e5]
          exact lv_sub hl [0, 1, 2] rfl
        · have c4 : heldB q k = true := zb_t c4
          refine lv_iconst (v := 1) hx hb dX4_held_24 (by decide) ?_
          refine lv_goto (tgt := 29) hx hb dX4_held_25 (by decide) ?_
          refine lv_iadd hx hb dX4_held_29 ?_
          refine lv_istore_n (lv' := [(1, .int ((heldN q k + 1))), (2, .int (nI k)), (0, .ref (Z 0))]) hx hb dX4_held_30 rfl hl (by decide) rfl (fun ls hl => ?_)
          refine lv_iinc (v := nI (k + 1)) (lv' := [(2, .int (nI (k + 1))), (1, .int ((heldN q k + 1))), (0, .ref (Z 0))]) hx hb dX4_held_31 hl (k := 1) rfl (nI_1 _) (by decide) rfl (fun ls hl => ?_)
          refine lv_goto (tgt := 4) hx hb dX4_held_34 (by decide) ?_
          have e6 : heldN q (k + 1) = (heldN q k + 1) := by simp [heldN_s, c4]
          refine ihk ls ?_
          simp only [e6]
          exact lv_sub hl [0, 1, 2] rfl
  exact loop1 0 (Nat.zero_le _) ls (lv_sub hl [0, 1, 2] rfl)
set_option maxHeartbeats 4000000 in
set_option maxRecDepth 100000 in
theorem c_X4_allEels (l : Launch) (D : va_G) (y : Nat → ClassId) (Y Z : Nat → Nat) (r1 r2 : Nat) (th : Int32) (t : Nat → Int32) (c : Nat) (q b : Fld) (bc n : Nat) (ar fi rn : Int32) (hc : c ≤ 6) : zRN l yX4_allEels wsX4_allEels { frames := 0, cells := 0, slots := 0, locals := 0 } D y [.ref (Z 0)] (mW Y Z r1 r2 y th t c q b bc n ar fi rn) (some (.int (eelsN q c))) := by
  refine zRN.of (cc := cX4_allEels) (maxL := 3) (ret := (some .int)) (own := RX4) (by decide) rfl (Nat.le_of_ble_eq_true rfl) rfl ?_
  intro p e s m args below meth cd ls hx hb hr hml hown hts hlocks hP hK hN hl
  have hl : lv_has ls 3 [(0, .ref (Z 0))] := hl
  have hf3 : (Cond.fieldLink RX4 3 "StakeWeirsModel$State" "this$0" "LStakeWeirsModel;").before args s = true := hts _ (by decide +kernel)
  have hinX4 : ∀ w ∈ wsX40, w ∈ wsX4_allEels := by decide +kernel
  have hf86 : (Cond.fieldLinkNest "StakeWeirsModel$State" 86 "StakeWeirsModel" "weirs" "I" "StakeWeirsModel").before args s = true := va_Nw.use rfl (hN ("StakeWeirsModel$State", 86, "StakeWeirsModel", "weirs", "I", "StakeWeirsModel") (by decide +kernel))
  have hinX5 : ∀ w ∈ wsX50, w ∈ wsX4_allEels := by decide +kernel
  have hf25 : (Cond.fieldLink RX4 25 "StakeWeirsModel$State" "eels" "[I").before args s = true := hts _ (by decide +kernel)
  refine lv_iconst (v := 0) hx hb dX4_allEels_0 (by decide) ?_
  refine lv_istore_n (lv' := [(1, .int 0), (0, .ref (Z 0))]) hx hb dX4_allEels_1 rfl hl (by decide) rfl (fun ls hl => ?_)
  refine lv_iconst (v := 0) hx hb dX4_allEels_2 (by decide) ?_
  refine lv_istore_n (lv' := [(2, .int 0), (1, .int 0), (0, .ref (Z 0))]) hx hb dX4_allEels_3 rfl hl (by decide) rfl (fun ls hl => ?_)
  have loop1 : ∀ k, k ≤ c → ∀ (ls : Array Slot), lv_has ls 3 [(2, .int (nI k)), (1, .int (eelsN q k)), (0, .ref (Z 0))] → W p l e ({ frames := 0, cells := 0, slots := 0, locals := 0 } : Room) s m args below meth cd s.heap [] 0 0 (MQ below (zRQ (some (.int (eelsN q c)))) args s 0 0 (fun _ => False)) (F0 m 4 ls []) := by
    refine down ?_ ?_
    · intro ls hl
      refine lv_iload_n hx hb dX4_allEels_4 rfl (lv_at hl 0 rfl) ?_
      refine lv_aload_n hx hb dX4_allEels_5 rfl (lv_at hl 2 rfl) ?_
      refine va_get (D := D) (ci := 4) (v := .ref (Y 0)) (C := RX4) (T := TX4) (N := 16) hx hb hts hinX4 hown hK hP (4) rfl rfl 15 (by decide) hf3 (fun _ h9 => h9) rfl dX4_allEels_6 ?_
      refine va_getN (D := D) (ci := 5) (v := .int (nI c)) (C := RX5) (T := TX5) (N := 7) hx hb hts hinX5 hown hK hP (0) rfl rfl 2 (by decide) hf86 (fun _ h9 => h9) rfl dX4_allEels_9 ?_
      refine lv_icmp_ge (tgt := 30) hx hb dX4_allEels_12 (by decide) (fun c2 => ?_) (fun c2 => ?_)
      · have d2 := Int32.not_lt.mpr c2
        refine lv_iload_n hx hb dX4_allEels_30 rfl (lv_at hl 1 rfl) ?_
        exact zR_i hx hb hr hlocks dX4_allEels_31 rfl
      · exact absurd (nI_le (a := c) (b := c) (by omega) (by omega)) c2
    · intro k hkk ihk ls hl
      refine lv_iload_n hx hb dX4_allEels_4 rfl (lv_at hl 0 rfl) ?_
      refine lv_aload_n hx hb dX4_allEels_5 rfl (lv_at hl 2 rfl) ?_
      refine va_get (D := D) (ci := 4) (v := .ref (Y 0)) (C := RX4) (T := TX4) (N := 16) hx hb hts hinX4 hown hK hP (4) rfl rfl 15 (by decide) hf3 (fun _ h9 => h9) rfl dX4_allEels_6 ?_
      refine va_getN (D := D) (ci := 5) (v := .int (nI c)) (C := RX5) (T := TX5) (N := 7) hx hb hts hinX5 hown hK hP (0) rfl rfl 2 (by decide) hf86 (fun _ h9 => h9) rfl dX4_allEels_9 ?_
      refine lv_icmp_ge (tgt := 30) hx hb dX4_allEels_12 (by decide) (fun c3 => ?_) (fun c3 => ?_)
      · exact absurd c3 (nI_ge (a := k) (b := c) (by omega) (by omega))
      · have d3 := Int32.not_le.mp c3
        refine lv_iload_n hx hb dX4_allEels_15 rfl (lv_at hl 1 rfl) ?_
        refine lv_aload_n hx hb dX4_allEels_16 rfl (lv_at hl 2 rfl) ?_
        refine va_get (D := D) (ci := 4) (v := .ref (Z 4)) (C := RX4) (T := TX4) (N := 16) hx hb hts hinX4 hown hK hP (4) rfl rfl 4 (by decide) hf25 (fun _ h9 => h9) rfl dX4_allEels_17 ?_
        refine lv_iload_n hx hb dX4_allEels_20 rfl (lv_at hl 0 rfl) ?_
        refine z_ald hx hb hK hP 8 (f := q 5) rfl k rfl (by omega) (by decide) dX4_allEels_21 ?_
        refine lv_iadd hx hb dX4_allEels_22 ?_
        refine lv_istore_n (lv' := [(1, .int ((eelsN q k + (q 5 k)))), (2, .int (nI k)), (0, .ref (Z 0))]) hx hb dX4_allEels_23 rfl hl (by decide) rfl (fun ls hl => ?_)
        refine lv_iinc (v := nI (k + 1)) (lv' := [(2, .int (nI (k + 1))), (1, .int ((eelsN q k + (q 5 k)))), (0, .ref (Z 0))]) hx hb dX4_allEels_24 hl (k := 1) rfl (nI_1 _) (by decide) rfl (fun ls hl => ?_)
        refine lv_goto (tgt := 4) hx hb dX4_allEels_27 (by decide) ?_
        have e4 : eelsN q (k + 1) = (eelsN q k + (q 5 k)) := by simp [eelsN_s]
        refine ihk ls ?_
        simp only [e4]
        exact lv_sub hl [0, 1, 2] rfl
  exact loop1 0 (Nat.zero_le _) ls (lv_sub hl [0, 1, 2] rfl)
set_option maxHeartbeats 4000000 in
set_option maxRecDepth 100000 in
theorem c_X4_payRent (l : Launch) (D : va_G) (y : Nat → ClassId) (Y Z : Nat → Nat) (r1 r2 : Nat) (th : Int32) (t : Nat → Int32) (c : Nat) (q b : Fld) (bc n : Nat) (ar fi rn : Int32) (k : Nat) (hk : k < 6) (sz : Nat) : zMN l yX4_payRent wsX4_payRent { frames := 0, cells := 0, slots := 0, locals := 0 } D y [.ref (Z 0), .int (nI k)] (mW Y Z r1 r2 y th t c q b bc n ar fi rn) sz (none) (mW Y Z r1 r2 y th t c (payM q k) b bc n ar fi (rn + paidI q k)) 0 0 := by
  refine zMN.of (cc := cX4_payRent) (maxL := 2) (ret := none) (own := RX4) (by decide) rfl (Nat.le_of_ble_eq_true rfl) rfl ?_
  intro p e s m args below meth cd ls A H locs hx hb hr hml hown hts hlocks hP hK hD hA hS hN hl hin
  have hS0 := hS
  have hl : lv_has ls 2 [(0, .ref (Z 0)), (1, .int (nI k))] := hl
  have hf22 : (Cond.fieldLink RX4 22 "StakeWeirsModel$State" "coins" "[I").before args s = true := hts _ (by decide +kernel)
  have hinX4 : ∀ w ∈ wsX40, w ∈ wsX4_payRent := by decide +kernel
  have hf3 : (Cond.fieldLink RX4 3 "StakeWeirsModel$State" "this$0" "LStakeWeirsModel;").before args s = true := hts _ (by decide +kernel)
  have hf108 : (Cond.fieldLinkNest "StakeWeirsModel$State" 108 "StakeWeirsModel" "rent" "[I" "StakeWeirsModel").before args s = true := va_Nw.use rfl (hN ("StakeWeirsModel$State", 108, "StakeWeirsModel", "rent", "[I", "StakeWeirsModel") (by decide +kernel))
  have hinX5 : ∀ w ∈ wsX50, w ∈ wsX4_payRent := by decide +kernel
  have hf31 : (Cond.fieldLink RX4 31 "StakeWeirsModel$State" "owes" "[I").before args s = true := hts _ (by decide +kernel)
  have hf25 : (Cond.fieldLink RX4 25 "StakeWeirsModel$State" "eels" "[I").before args s = true := hts _ (by decide +kernel)
  have hf65 : (Cond.fieldLink RX4 65 "StakeWeirsModel$State" "rents" "I").before args s = true := hts _ (by decide +kernel)
  refine lv_aload_n hx hb dX4_payRent_0 rfl (lv_at hl 0 rfl) ?_
  refine va_get (D := D) (ci := 4) (v := .ref (Z 3)) (C := RX4) (T := TX4) (N := 16) hx hb hts hinX4 hown hK hP (4) rfl rfl 3 (by decide) hf22 (fun _ h9 => h9) rfl dX4_payRent_1 ?_
  refine lv_iload_n hx hb dX4_payRent_4 rfl (lv_at hl 1 rfl) ?_
  refine z_ald hx hb hK hP 7 (f := q 4) rfl k rfl (by omega) (by decide) dX4_payRent_5 ?_
  refine lv_aload_n hx hb dX4_payRent_6 rfl (lv_at hl 0 rfl) ?_
  refine va_get (D := D) (ci := 4) (v := .ref (Y 0)) (C := RX4) (T := TX4) (N := 16) hx hb hts hinX4 hown hK hP (4) rfl rfl 15 (by decide) hf3 (fun _ h9 => h9) rfl dX4_payRent_7 ?_
  refine va_getN (D := D) (ci := 5) (v := .ref (Y 3)) (C := RX5) (T := TX5) (N := 7) hx hb hts hinX5 hown hK hP (0) rfl rfl 4 (by decide) hf108 (fun _ h9 => h9) rfl dX4_payRent_10 ?_
  refine lv_iload_n hx hb dX4_payRent_13 rfl (lv_at hl 1 rfl) ?_
  refine z_ald hx hb hK hP 3 (f := q 3) rfl k rfl (by omega) (by decide) dX4_payRent_14 ?_
  refine lv_icmp_lt (tgt := 62) hx hb dX4_payRent_15 (by decide) (fun c1 => ?_) (fun c1 => ?_)
  · have d1 := Int32.not_le.mpr c1
    refine lv_aload_n hx hb dX4_payRent_62 rfl (lv_at hl 0 rfl) ?_
    refine va_get (D := D) (ci := 4) (v := .ref (Z 6)) (C := RX4) (T := TX4) (N := 16) hx hb hts hinX4 hown hK hP (4) rfl rfl 6 (by decide) hf31 (fun _ h9 => h9) rfl dX4_payRent_63 ?_
    refine lv_iload_n hx hb dX4_payRent_66 rfl (lv_at hl 1 rfl) ?_
    refine lv_dup2_11 hx hb dX4_payRent_67 rfl rfl ?_
    refine z_ald hx hb hK hP 10 (f := q 7) rfl k rfl (by omega) (by decide) dX4_payRent_68 ?_
    refine lv_iconst (v := 1) hx hb dX4_payRent_69 (by decide) ?_
    refine lv_iadd hx hb dX4_payRent_70 ?_
    refine z_ast hx hb hK hP hD hS 10 (f := q 7) rfl k rfl (by omega) (by decide) (mW_q7 (k := k)) dX4_payRent_71 (fun H locs hP hD hS => ?_)
    have hP : va_P D vwCl (mW Y Z r1 r2 y th t c (up2 q 7 k ((q 7 k) + 1)) b bc n ar fi rn) H := hP
    have hD : va_D A (mW Y Z r1 r2 y th t c (up2 q 7 k ((q 7 k) + 1)) b bc n ar fi rn) := hD
    refine lv_aload_n hx hb dX4_payRent_72 rfl (lv_at hl 0 rfl) ?_
    refine va_get (D := D) (ci := 4) (v := .ref (Z 6)) (C := RX4) (T := TX4) (N := 16) hx hb hts hinX4 hown hK hP (4) rfl rfl 6 (by decide) hf31 (fun _ h9 => h9) rfl dX4_payRent_73 ?_
    refine lv_iload_n hx hb dX4_payRent_76 rfl (lv_at hl 1 rfl) ?_
    refine z_ald hx hb hK hP 10 (f := (up2 q 7 k ((q 7 k) + 1)) 7) rfl k rfl (by omega) (by decide) dX4_payRent_77 ?_
    refine zt_i (x' := ((q 7 k) + 1)) (up2_s _ _ _ _) ?_
    refine lv_iconst (v := 3) hx hb dX4_payRent_78 (by decide) ?_
    refine lv_icmp_ne (tgt := 89) hx hb dX4_payRent_79 (by decide) (fun c2 => ?_) (fun c2 => ?_)
    · have d2 := c2
      exact zM_v hx hb hr hlocks hS dX4_payRent_89 rfl (by rw [show payM q k = (up2 q 7 k ((q 7 k) + 1)) from by simp [payM, c1, d1, c2, d2], show rn + paidI q k = rn from by simp [paidI, c1, d1, c2, d2]]; exact hP)
    · have d2 := c2
      refine lv_aload_n hx hb dX4_payRent_82 rfl (lv_at hl 0 rfl) ?_
      refine va_get (D := D) (ci := 4) (v := .ref (Z 4)) (C := RX4) (T := TX4) (N := 16) hx hb hts hinX4 hown hK hP (4) rfl rfl 4 (by decide) hf25 (fun _ h9 => h9) rfl dX4_payRent_83 ?_
      refine lv_iload_n hx hb dX4_payRent_86 rfl (lv_at hl 1 rfl) ?_
      refine lv_iconst (v := 0) hx hb dX4_payRent_87 (by decide) ?_
      refine z_ast hx hb hK hP hD hS 8 (f := (up2 q 7 k ((q 7 k) + 1)) 5) rfl k rfl (by omega) (by decide) (mW_q5 (k := k)) dX4_payRent_88 (fun H locs hP hD hS => ?_)
      have hP : va_P D vwCl (mW Y Z r1 r2 y th t c (up2 (up2 q 7 k ((q 7 k) + 1)) 5 k 0) b bc n ar fi rn) H := hP
      have hD : va_D A (mW Y Z r1 r2 y th t c (up2 (up2 q 7 k ((q 7 k) + 1)) 5 k 0) b bc n ar fi rn) := hD
      exact zM_v hx hb hr hlocks hS dX4_payRent_89 rfl (by rw [show payM q k = (up2 (up2 q 7 k ((q 7 k) + 1)) 5 k 0) from by simp [payM, c1, d1, c2, d2], show rn + paidI q k = rn from by simp [paidI, c1, d1, c2, d2]]; exact hP)
  · have d1 := Int32.not_lt.mp c1
    refine lv_aload_n hx hb dX4_payRent_18 rfl (lv_at hl 0 rfl) ?_
    refine va_get (D := D) (ci := 4) (v := .ref (Z 3)) (C := RX4) (T := TX4) (N := 16) hx hb hts hinX4 hown hK hP (4) rfl rfl 3 (by decide) hf22 (fun _ h9 => h9) rfl dX4_payRent_19 ?_
    refine lv_iload_n hx hb dX4_payRent_22 rfl (lv_at hl 1 rfl) ?_
    refine lv_dup2_11 hx hb dX4_payRent_23 rfl rfl ?_
    refine z_ald hx hb hK hP 7 (f := q 4) rfl k rfl (by omega) (by decide) dX4_payRent_24 ?_
    refine lv_aload_n hx hb dX4_payRent_25 rfl (lv_at hl 0 rfl) ?_
    refine va_get (D := D) (ci := 4) (v := .ref (Y 0)) (C := RX4) (T := TX4) (N := 16) hx hb hts hinX4 hown hK hP (4) rfl rfl 15 (by decide) hf3 (fun _ h9 => h9) rfl dX4_payRent_26 ?_
    refine va_getN (D := D) (ci := 5) (v := .ref (Y 3)) (C := RX5) (T := TX5) (N := 7) hx hb hts hinX5 hown hK hP (0) rfl rfl 4 (by decide) hf108 (fun _ h9 => h9) rfl dX4_payRent_29 ?_
    refine lv_iload_n hx hb dX4_payRent_32 rfl (lv_at hl 1 rfl) ?_
    refine z_ald hx hb hK hP 3 (f := q 3) rfl k rfl (by omega) (by decide) dX4_payRent_33 ?_
    refine lv_isub hx hb dX4_payRent_34 ?_
    refine z_ast hx hb hK hP hD hS 7 (f := q 4) rfl k rfl (by omega) (by decide) (mW_q4 (k := k)) dX4_payRent_35 (fun H locs hP hD hS => ?_)
    have hP : va_P D vwCl (mW Y Z r1 r2 y th t c (up2 q 4 k ((q 4 k) - (q 3 k))) b bc n ar fi rn) H := hP
    have hD : va_D A (mW Y Z r1 r2 y th t c (up2 q 4 k ((q 4 k) - (q 3 k))) b bc n ar fi rn) := hD
    refine lv_aload_n hx hb dX4_payRent_36 rfl (lv_at hl 0 rfl) ?_
    refine lv_dup hx hb dX4_payRent_37 rfl ?_
    refine va_get (D := D) (ci := 4) (v := .int rn) (C := RX4) (T := TX4) (N := 16) hx hb hts hinX4 hown hK hP (4) rfl rfl 14 (by decide) hf65 (fun _ h9 => h9) rfl dX4_payRent_38 ?_
    refine lv_aload_n hx hb dX4_payRent_41 rfl (lv_at hl 0 rfl) ?_
    refine va_get (D := D) (ci := 4) (v := .ref (Y 0)) (C := RX4) (T := TX4) (N := 16) hx hb hts hinX4 hown hK hP (4) rfl rfl 15 (by decide) hf3 (fun _ h9 => h9) rfl dX4_payRent_42 ?_
    refine va_getN (D := D) (ci := 5) (v := .ref (Y 3)) (C := RX5) (T := TX5) (N := 7) hx hb hts hinX5 hown hK hP (0) rfl rfl 4 (by decide) hf108 (fun _ h9 => h9) rfl dX4_payRent_45 ?_
    refine lv_iload_n hx hb dX4_payRent_48 rfl (lv_at hl 1 rfl) ?_
    refine z_ald hx hb hK hP 3 (f := q 3) rfl k rfl (by omega) (by decide) dX4_payRent_49 ?_
    refine lv_iadd hx hb dX4_payRent_50 ?_
    refine va_put (D := D) (ci := 4) (v := .int ((rn + (q 3 k)))) (ty := .int) (C := RX4) (T := TX4) (N := 16) hx hb hts hinX4 tyX4 tyX4_ok nmX4 hown hK hP hD hS (4) rfl rfl 14 (by decide) hf65 (fun _ h9 => h9) rfl (by decide +kernel) rfl rfl (Nat.le_of_ble_eq_true rfl) dX4_payRent_51 (fun H locs hP hD hS => ?_)
    have hP : va_P D vwCl (mW Y Z r1 r2 y th t c (up2 q 4 k ((q 4 k) - (q 3 k))) b bc n ar fi (rn + (q 3 k))) H := hP
    have hD : va_D A (mW Y Z r1 r2 y th t c (up2 q 4 k ((q 4 k) - (q 3 k))) b bc n ar fi (rn + (q 3 k))) := hD
    refine lv_aload_n hx hb dX4_payRent_54 rfl (lv_at hl 0 rfl) ?_
    refine va_get (D := D) (ci := 4) (v := .ref (Z 6)) (C := RX4) (T := TX4) (N := 16) hx hb hts hinX4 hown hK hP (4) rfl rfl 6 (by decide) hf31 (fun _ h9 => h9) rfl dX4_payRent_55 ?_
    refine lv_iload_n hx hb dX4_payRent_58 rfl (lv_at hl 1 rfl) ?_
    refine lv_iconst (v := 0) hx hb dX4_payRent_59 (by decide) ?_
    refine z_ast hx hb hK hP hD hS 10 (f := (up2 q 4 k ((q 4 k) - (q 3 k))) 7) rfl k rfl (by omega) (by decide) (mW_q7 (k := k)) dX4_payRent_60 (fun H locs hP hD hS => ?_)
    have hP : va_P D vwCl (mW Y Z r1 r2 y th t c (up2 (up2 q 4 k ((q 4 k) - (q 3 k))) 7 k 0) b bc n ar fi (rn + (q 3 k))) H := hP
    have hD : va_D A (mW Y Z r1 r2 y th t c (up2 (up2 q 4 k ((q 4 k) - (q 3 k))) 7 k 0) b bc n ar fi (rn + (q 3 k))) := hD
    exact zM_v hx hb hr hlocks hS dX4_payRent_61 rfl (by rw [show payM q k = (up2 (up2 q 4 k ((q 4 k) - (q 3 k))) 7 k 0) from by simp [payM, c1, d1], show rn + paidI q k = (rn + (q 3 k)) from by simp [paidI, c1, d1]]; exact hP)
set_option maxHeartbeats 4000000 in
set_option maxRecDepth 100000 in
theorem c_X4_breaks (l : Launch) (D : va_G) (y : Nat → ClassId) (Y Z : Nat → Nat) (r1 r2 : Nat) (th : Int32) (t : Nat → Int32) (c : Nat) (q b : Fld) (bc n : Nat) (ar fi rn : Int32) (j : Nat) (hj : j < 5) (hc : c ≤ 6) (sz : Nat) : zMN l yX4_breaks wsX4_breaks { frames := 2, cells := 0, slots := 0, locals := 43 } D y [.ref (Z 0), .int (nI j)] (mW Y Z r1 r2 y th t c q b bc n ar fi rn) sz (some (.int (bkE q c (b 2 j) (b 1 j) fi (b 3 j)).2.2.2)) (mW Y Z r1 r2 y th t c ((bkE q c (b 2 j) (b 1 j) fi (b 3 j)).1) (up2 b 3 j (bkE q c (b 2 j) (b 1 j) fi (b 3 j)).2.2.1) bc n ar ((bkE q c (b 2 j) (b 1 j) fi (b 3 j)).2.1) rn) 0 0 := by
  refine zMN.of (cc := cX4_breaks) (maxL := 5) (ret := (some .boolean)) (own := RX4) (by decide) rfl (Nat.le_of_ble_eq_true rfl) rfl ?_
  intro p e s m args below meth cd ls A H locs hx hb hr hml hown hts hlocks hP hK hD hA hS hN hl hin
  have hS0 := hS
  have hl : lv_has ls 5 [(0, .ref (Z 0)), (1, .int (nI j))] := hl
  have hf3 : (Cond.fieldLink RX4 3 "StakeWeirsModel$State" "this$0" "LStakeWeirsModel;").before args s = true := hts _ (by decide +kernel)
  have hinX4 : ∀ w ∈ wsX40, w ∈ wsX4_breaks := by decide +kernel
  have hf86 : (Cond.fieldLinkNest "StakeWeirsModel$State" 86 "StakeWeirsModel" "weirs" "I" "StakeWeirsModel").before args s = true := va_Nw.use rfl (hN ("StakeWeirsModel$State", 86, "StakeWeirsModel", "weirs", "I", "StakeWeirsModel") (by decide +kernel))
  have hinX5 : ∀ w ∈ wsX50, w ∈ wsX4_breaks := by decide +kernel
  have hf89 : (Cond.fieldLinkNest "StakeWeirsModel$State" 89 "StakeWeirsModel" "place" "[I" "StakeWeirsModel").before args s = true := va_Nw.use rfl (hN ("StakeWeirsModel$State", 89, "StakeWeirsModel", "place", "[I", "StakeWeirsModel") (by decide +kernel))
  have hf37 : (Cond.fieldLink RX4 37 "StakeWeirsModel$State" "at" "[I").before args s = true := hts _ (by decide +kernel)
  have hf34 : (Cond.fieldLink RX4 34 "StakeWeirsModel$State" "wide" "[I").before args s = true := hts _ (by decide +kernel)
  have hf15 : (Cond.fieldLink RX4 15 "StakeWeirsModel$State" "stakes" "[I").before args s = true := hts _ (by decide +kernel)
  have hf19 : (Cond.fieldLink RX4 19 "StakeWeirsModel$State" "wattle" "[I").before args s = true := hts _ (by decide +kernel)
  have hlmax102 : (Cond.methodLink RX4 102 Lib.Math.max.name).before args s = true := hts _ (by decide +kernel)
  have hstmax : (Cond.static Lib.Math.max.name).before args s = true := hts _ (by decide +kernel)
  have hiM : (Cond.initialized "java/lang/Math").before args s = true := hts _ (by decide +kernel)
  have hcmax : (Cond.code Lib.Math.max.name Lib.Math.max.code 2 (some .int)).before args s = true := hts _ (by decide +kernel)
  have hf22 : (Cond.fieldLink RX4 22 "StakeWeirsModel$State" "coins" "[I").before args s = true := hts _ (by decide +kernel)
  have hlmin92 : (Cond.methodLink RX4 92 Lib.Math.min.name).before args s = true := hts _ (by decide +kernel)
  have hstmin : (Cond.static Lib.Math.min.name).before args s = true := hts _ (by decide +kernel)
  have hcmin : (Cond.code Lib.Math.min.name Lib.Math.min.code 2 (some .int)).before args s = true := hts _ (by decide +kernel)
  have hf62 : (Cond.fieldLink RX4 62 "StakeWeirsModel$State" "fines" "I").before args s = true := hts _ (by decide +kernel)
  have hf40 : (Cond.fieldLink RX4 40 "StakeWeirsModel$State" "broken" "[I").before args s = true := hts _ (by decide +kernel)
  refine lv_iconst (v := 0) hx hb dX4_breaks_0 (by decide) ?_
  refine lv_istore_n (lv' := [(2, .int 0), (0, .ref (Z 0)), (1, .int (nI j))]) hx hb dX4_breaks_1 rfl hl (by decide) rfl (fun ls hl => ?_)
  refine lv_iconst (v := 0) hx hb dX4_breaks_2 (by decide) ?_
  refine lv_istore_n (lv' := [(3, .int 0), (2, .int 0), (0, .ref (Z 0)), (1, .int (nI j))]) hx hb dX4_breaks_3 rfl hl (by decide) rfl (fun ls hl => ?_)
  have hP : va_P D vwCl (mW Y Z r1 r2 y th t c q (up2 b 3 j (b 3 j)) bc n ar fi rn) H := by rw [up2_id]; exact hP
  have hD : va_D A (mW Y Z r1 r2 y th t c q (up2 b 3 j (b 3 j)) bc n ar fi rn) := by rw [up2_id]; exact hD
  have loop1 : ∀ k, k ≤ c → ∀ (H : Heap) (locs : List Loc) (ls : Array Slot), va_P D vwCl (mW Y Z r1 r2 y th t c ((bkE q k (b 2 j) (b 1 j) fi (b 3 j)).1) (up2 b 3 j (bkE q k (b 2 j) (b 1 j) fi (b 3 j)).2.2.1) bc n ar ((bkE q k (b 2 j) (b 1 j) fi (b 3 j)).2.1) rn) H → va_D A (mW Y Z r1 r2 y th t c ((bkE q k (b 2 j) (b 1 j) fi (b 3 j)).1) (up2 b 3 j (bkE q k (b 2 j) (b 1 j) fi (b 3 j)).2.2.1) bc n ar ((bkE q k (b 2 j) (b 1 j) fi (b 3 j)).2.1) rn) → va_S A s.heap H locs → lv_has ls 5 [(3, .int (nI k)), (2, .int ((bkE q k (b 2 j) (b 1 j) fi (b 3 j)).2.2.2)), (0, .ref (Z 0)), (1, .int (nI j))] → W p l e ({ frames := 2, cells := 0, slots := 0, locals := 43 } : Room) s m args below meth cd H locs 0 0 (MQ below (zMQ (some (.int (bkE q c (b 2 j) (b 1 j) fi (b 3 j)).2.2.2)) D (mW Y Z r1 r2 y th t c ((bkE q c (b 2 j) (b 1 j) fi (b 3 j)).1) (up2 b 3 j (bkE q c (b 2 j) (b 1 j) fi (b 3 j)).2.2.1) bc n ar ((bkE q c (b 2 j) (b 1 j) fi (b 3 j)).2.1) rn) A) args s 0 0 A) (F0 m 4 ls []) := by
    refine down ?_ ?_
    · intro H locs ls hP hD hS hl
      refine lv_iload_n hx hb dX4_breaks_4 rfl (lv_at hl 0 rfl) ?_
      refine lv_aload_n hx hb dX4_breaks_5 rfl (lv_at hl 2 rfl) ?_
      refine va_get (D := D) (ci := 4) (v := .ref (Y 0)) (C := RX4) (T := TX4) (N := 16) hx hb hts hinX4 hown hK hP (4) rfl rfl 15 (by decide) hf3 (fun _ h9 => h9) rfl dX4_breaks_6 ?_
      refine va_getN (D := D) (ci := 5) (v := .int (nI c)) (C := RX5) (T := TX5) (N := 7) hx hb hts hinX5 hown hK hP (0) rfl rfl 2 (by decide) hf86 (fun _ h9 => h9) rfl dX4_breaks_9 ?_
      refine lv_icmp_ge (tgt := 136) hx hb dX4_breaks_12 (by decide) (fun c2 => ?_) (fun c2 => ?_)
      · have d2 := Int32.not_lt.mpr c2
        refine lv_iload_n hx hb dX4_breaks_136 rfl (lv_at hl 1 rfl) ?_
        exact zM_z hx hb hr hlocks hS dX4_breaks_137 (bkE_01 _ _ _ _ _ _) rfl hP
      · exact absurd (nI_le (a := c) (b := c) (by omega) (by omega)) c2
    · intro k hkk ihk H locs ls hP hD hS hl
      refine lv_iload_n hx hb dX4_breaks_4 rfl (lv_at hl 0 rfl) ?_
      refine lv_aload_n hx hb dX4_breaks_5 rfl (lv_at hl 2 rfl) ?_
      refine va_get (D := D) (ci := 4) (v := .ref (Y 0)) (C := RX4) (T := TX4) (N := 16) hx hb hts hinX4 hown hK hP (4) rfl rfl 15 (by decide) hf3 (fun _ h9 => h9) rfl dX4_breaks_6 ?_
      refine va_getN (D := D) (ci := 5) (v := .int (nI c)) (C := RX5) (T := TX5) (N := 7) hx hb hts hinX5 hown hK hP (0) rfl rfl 2 (by decide) hf86 (fun _ h9 => h9) rfl dX4_breaks_9 ?_
      refine lv_icmp_ge (tgt := 136) hx hb dX4_breaks_12 (by decide) (fun c3 => ?_) (fun c3 => ?_)
      · exact absurd c3 (nI_ge (a := k) (b := c) (by omega) (by omega))
      · have d3 := Int32.not_le.mp c3
        refine lv_aload_n hx hb dX4_breaks_15 rfl (lv_at hl 2 rfl) ?_
        refine va_get (D := D) (ci := 4) (v := .ref (Y 0)) (C := RX4) (T := TX4) (N := 16) hx hb hts hinX4 hown hK hP (4) rfl rfl 15 (by decide) hf3 (fun _ h9 => h9) rfl dX4_breaks_16 ?_
        refine va_getN (D := D) (ci := 5) (v := .ref (Y 2)) (C := RX5) (T := TX5) (N := 7) hx hb hts hinX5 hown hK hP (0) rfl rfl 3 (by decide) hf89 (fun _ h9 => h9) rfl dX4_breaks_19 ?_
        refine lv_iload_n hx hb dX4_breaks_22 rfl (lv_at hl 0 rfl) ?_
        refine z_ald hx hb hK hP 2 (f := ((bkE q k (b 2 j) (b 1 j) fi (b 3 j)).1) 0) rfl k rfl (by omega) (by decide) dX4_breaks_23 ?_
        refine lv_aload_n hx hb dX4_breaks_24 rfl (lv_at hl 2 rfl) ?_
        refine va_get (D := D) (ci := 4) (v := .ref (Z 8)) (C := RX4) (T := TX4) (N := 16) hx hb hts hinX4 hown hK hP (4) rfl rfl 9 (by decide) hf37 (fun _ h9 => h9) rfl dX4_breaks_25 ?_
        refine lv_iload_n hx hb dX4_breaks_28 rfl (lv_at hl 3 rfl) ?_
        refine z_ald hx hb hK hP 12 (f := b 2) rfl j rfl (by omega) (by decide) dX4_breaks_29 ?_
        refine lv_icmp_ne (tgt := 130) hx hb dX4_breaks_30 (by decide) (fun c4 => ?_) (fun c4 => ?_)
        · have d4 := c4
          refine lv_iinc (v := nI (k + 1)) (lv' := [(3, .int (nI (k + 1))), (2, .int ((bkE q k (b 2 j) (b 1 j) fi (b 3 j)).2.2.2)), (0, .ref (Z 0)), (1, .int (nI j))]) hx hb dX4_breaks_130 hl (k := 0) rfl (nI_1 _) (by decide) rfl (fun ls hl => ?_)
          refine lv_goto (tgt := 4) hx hb dX4_breaks_133 (by decide) ?_
          have e5 : (bkE q (k + 1) (b 2 j) (b 1 j) fi (b 3 j)).2.2.2 = (bkE q k (b 2 j) (b 1 j) fi (b 3 j)).2.2.2 := by simp [bkE_s, bkS, breakM, fineI, c4, d4]
          have e6 : (bkE q (k + 1) (b 2 j) (b 1 j) fi (b 3 j)).1 = (bkE q k (b 2 j) (b 1 j) fi (b 3 j)).1 := by simp [bkE_s, bkS, breakM, fineI, c4, d4]
          have e7 : (bkE q (k + 1) (b 2 j) (b 1 j) fi (b 3 j)).2.1 = (bkE q k (b 2 j) (b 1 j) fi (b 3 j)).2.1 := by simp [bkE_s, bkS, breakM, fineI, c4, d4]
          have e8 : (up2 b 3 j (bkE q (k + 1) (b 2 j) (b 1 j) fi (b 3 j)).2.2.1) = (up2 b 3 j (bkE q k (b 2 j) (b 1 j) fi (b 3 j)).2.2.1) := by simp [bkE_s, bkS, breakM, fineI, c4, d4]
          refine ihk H locs ls ?_ ?_ hS ?_
          · first | exact hP | (simp only [e5, e6, e7, e8]; exact hP)
          · first | exact hD | (simp only [e5, e6, e7, e8]; exact hD)
          · first | exact lv_sub hl [0, 1, 2, 3] rfl | (simp only [e5, e6, e7, e8]; exact lv_sub hl [0, 1, 2, 3] rfl)
        · have d4 := c4
          refine lv_aload_n hx hb dX4_breaks_33 rfl (lv_at hl 2 rfl) ?_
          refine lv_iload_n hx hb dX4_breaks_34 rfl (lv_at hl 0 rfl) ?_
          refine lv_aload_n hx hb dX4_breaks_35 rfl (lv_at hl 2 rfl) ?_
          refine va_get (D := D) (ci := 4) (v := .ref (Z 7)) (C := RX4) (T := TX4) (N := 16) hx hb hts hinX4 hown hK hP (4) rfl rfl 8 (by decide) hf34 (fun _ h9 => h9) rfl dX4_breaks_36 ?_
          refine lv_iload_n hx hb dX4_breaks_39 rfl (lv_at hl 3 rfl) ?_
          refine z_ald hx hb hK hP 11 (f := b 1) rfl j rfl (by omega) (by decide) dX4_breaks_40 ?_
          refine zcRV (As := [.int (nI k), .int ((b 1 j))]) (rest := []) (st1 := [.int (zb (wayB ((bkE q k (b 2 j) (b 1 j) fi (b 3 j)).1) k (b 1 j)))]) ⟨hx, hb, hml, hown, hts⟩ (c_X4_isInWay l D y Y Z r1 r2 th t c ((bkE q k (b 2 j) (b 1 j) fi (b 3 j)).1) (up2 b 3 j (bkE q k (b 2 j) (b 1 j) fi (b 3 j)).2.2.1) bc n ar ((bkE q k (b 2 j) (b 1 j) fi (b 3 j)).2.1) rn k (b 1 j) (by omega)) (cwV 2 hts gX4_breaks_X4_isInWay rfl rfl rfl (by decide +kernel) ⟨Nat.le_of_ble_eq_true rfl, Nat.le_of_ble_eq_true rfl⟩) hK hP (ci := 4) (q0 := 4) rfl rfl rfl rfl hl.1 rfl (lv_room (Nat.le_of_ble_eq_true rfl)) dX4_breaks_41 ⟨Nat.le_of_ble_eq_true rfl, Nat.le_of_ble_eq_true rfl⟩ rfl ?_
          refine lv_if_ne (tgt := 50) hx hb dX4_breaks_44 (by decide) (fun c9 => ?_) (fun c9 => ?_)
          · have c9 : wayB ((bkE q k (b 2 j) (b 1 j) fi (b 3 j)).1) k (b 1 j) = true := zb_t c9
            refine lv_iconst (v := 1) hx hb dX4_breaks_50 (by decide) ?_
            refine lv_istore_n (lv' := [(2, .int 1), (3, .int (nI k)), (0, .ref (Z 0)), (1, .int (nI j))]) hx hb dX4_breaks_51 rfl hl (by decide) rfl (fun ls hl => ?_)
            refine lv_aload_n hx hb dX4_breaks_52 rfl (lv_at hl 2 rfl) ?_
            refine va_get (D := D) (ci := 4) (v := .ref (Z 1)) (C := RX4) (T := TX4) (N := 16) hx hb hts hinX4 hown hK hP (4) rfl rfl 1 (by decide) hf15 (fun _ h9 => h9) rfl dX4_breaks_53 ?_
            refine lv_iload_n hx hb dX4_breaks_56 rfl (lv_at hl 1 rfl) ?_
            refine lv_bipush (v := 30) hx hb dX4_breaks_57 (by decide) ?_
            refine lv_aload_n hx hb dX4_breaks_59 rfl (lv_at hl 2 rfl) ?_
            refine va_get (D := D) (ci := 4) (v := .ref (Z 7)) (C := RX4) (T := TX4) (N := 16) hx hb hts hinX4 hown hK hP (4) rfl rfl 8 (by decide) hf34 (fun _ h9 => h9) rfl dX4_breaks_60 ?_
            refine lv_iload_n hx hb dX4_breaks_63 rfl (lv_at hl 3 rfl) ?_
            refine z_ald hx hb hK hP 11 (f := b 1) rfl j rfl (by omega) (by decide) dX4_breaks_64 ?_
            refine lv_isub hx hb dX4_breaks_65 ?_
            refine z_ast hx hb hK hP hD hS 5 (f := ((bkE q k (b 2 j) (b 1 j) fi (b 3 j)).1) 1) rfl k rfl (by omega) (by decide) (mW_q1 (k := k)) dX4_breaks_66 (fun H locs hP hD hS => ?_)
            have hP : va_P D vwCl (mW Y Z r1 r2 y th t c (up2 ((bkE q k (b 2 j) (b 1 j) fi (b 3 j)).1) 1 k (30 - (b 1 j))) (up2 b 3 j (bkE q k (b 2 j) (b 1 j) fi (b 3 j)).2.2.1) bc n ar ((bkE q k (b 2 j) (b 1 j) fi (b 3 j)).2.1) rn) H := hP
            have hD : va_D A (mW Y Z r1 r2 y th t c (up2 ((bkE q k (b 2 j) (b 1 j) fi (b 3 j)).1) 1 k (30 - (b 1 j))) (up2 b 3 j (bkE q k (b 2 j) (b 1 j) fi (b 3 j)).2.2.1) bc n ar ((bkE q k (b 2 j) (b 1 j) fi (b 3 j)).2.1) rn) := hD
            refine lv_aload_n hx hb dX4_breaks_67 rfl (lv_at hl 2 rfl) ?_
            refine va_get (D := D) (ci := 4) (v := .ref (Z 2)) (C := RX4) (T := TX4) (N := 16) hx hb hts hinX4 hown hK hP (4) rfl rfl 2 (by decide) hf19 (fun _ h9 => h9) rfl dX4_breaks_68 ?_
            refine lv_iload_n hx hb dX4_breaks_71 rfl (lv_at hl 1 rfl) ?_
            refine lv_iconst (v := 0) hx hb dX4_breaks_72 (by decide) ?_
            refine lv_aload_n hx hb dX4_breaks_73 rfl (lv_at hl 2 rfl) ?_
            refine va_get (D := D) (ci := 4) (v := .ref (Z 2)) (C := RX4) (T := TX4) (N := 16) hx hb hts hinX4 hown hK hP (4) rfl rfl 2 (by decide) hf19 (fun _ h9 => h9) rfl dX4_breaks_74 ?_
            refine lv_iload_n hx hb dX4_breaks_77 rfl (lv_at hl 1 rfl) ?_
            refine z_ald hx hb hK hP 6 (f := ((bkE q k (b 2 j) (b 1 j) fi (b 3 j)).1) 2) rfl k rfl (by omega) (by decide) dX4_breaks_78 ?_
            refine lv_bipush (v := 20) hx hb dX4_breaks_79 (by decide) ?_
            refine lv_isub hx hb dX4_breaks_81 ?_
            refine va_mmax hx hb (hml.trans hl.1.symm) hown hlmax102 hstmax hiM hcmax (Nat.le_of_ble_eq_true rfl) (Nat.le_of_ble_eq_true rfl) (Nat.le_of_ble_eq_true rfl) (Nat.le_of_ble_eq_true rfl) dX4_breaks_82 ?_
            refine z_ast hx hb hK hP hD hS 6 (f := (up2 ((bkE q k (b 2 j) (b 1 j) fi (b 3 j)).1) 1 k (30 - (b 1 j))) 2) rfl k rfl (by omega) (by decide) (mW_q2 (k := k)) dX4_breaks_85 (fun H locs hP hD hS => ?_)
            have hP : va_P D vwCl (mW Y Z r1 r2 y th t c (up2 (up2 ((bkE q k (b 2 j) (b 1 j) fi (b 3 j)).1) 1 k (30 - (b 1 j))) 2 k (maxI 0 (((((bkE q k (b 2 j) (b 1 j) fi (b 3 j)).1) 2 k) - 20)))) (up2 b 3 j (bkE q k (b 2 j) (b 1 j) fi (b 3 j)).2.2.1) bc n ar ((bkE q k (b 2 j) (b 1 j) fi (b 3 j)).2.1) rn) H := hP
            have hD : va_D A (mW Y Z r1 r2 y th t c (up2 (up2 ((bkE q k (b 2 j) (b 1 j) fi (b 3 j)).1) 1 k (30 - (b 1 j))) 2 k (maxI 0 (((((bkE q k (b 2 j) (b 1 j) fi (b 3 j)).1) 2 k) - 20)))) (up2 b 3 j (bkE q k (b 2 j) (b 1 j) fi (b 3 j)).2.2.1) bc n ar ((bkE q k (b 2 j) (b 1 j) fi (b 3 j)).2.1) rn) := hD
            refine lv_iconst (v := 3) hx hb dX4_breaks_86 (by decide) ?_
            refine lv_aload_n hx hb dX4_breaks_87 rfl (lv_at hl 2 rfl) ?_
            refine va_get (D := D) (ci := 4) (v := .ref (Z 3)) (C := RX4) (T := TX4) (N := 16) hx hb hts hinX4 hown hK hP (4) rfl rfl 3 (by decide) hf22 (fun _ h9 => h9) rfl dX4_breaks_88 ?_
            refine lv_iload_n hx hb dX4_breaks_91 rfl (lv_at hl 1 rfl) ?_
            refine z_ald hx hb hK hP 7 (f := ((bkE q k (b 2 j) (b 1 j) fi (b 3 j)).1) 4) rfl k rfl (by omega) (by decide) dX4_breaks_92 ?_
            refine va_mmin hx hb (hml.trans hl.1.symm) hown hlmin92 hstmin hiM hcmin (Nat.le_of_ble_eq_true rfl) (Nat.le_of_ble_eq_true rfl) (Nat.le_of_ble_eq_true rfl) (Nat.le_of_ble_eq_true rfl) dX4_breaks_93 ?_
            refine lv_istore (lv' := [(4, .int ((minI 3 ((((bkE q k (b 2 j) (b 1 j) fi (b 3 j)).1) 4 k))))), (2, .int 1), (3, .int (nI k)), (0, .ref (Z 0)), (1, .int (nI j))]) hx hb dX4_breaks_96 hl (by decide) rfl (fun ls hl => ?_)
            refine lv_aload_n hx hb dX4_breaks_98 rfl (lv_at hl 3 rfl) ?_
            refine va_get (D := D) (ci := 4) (v := .ref (Z 3)) (C := RX4) (T := TX4) (N := 16) hx hb hts hinX4 hown hK hP (4) rfl rfl 3 (by decide) hf22 (fun _ h9 => h9) rfl dX4_breaks_99 ?_
            refine lv_iload_n hx hb dX4_breaks_102 rfl (lv_at hl 2 rfl) ?_
            refine lv_dup2_11 hx hb dX4_breaks_103 rfl rfl ?_
            refine z_ald hx hb hK hP 7 (f := ((bkE q k (b 2 j) (b 1 j) fi (b 3 j)).1) 4) rfl k rfl (by omega) (by decide) dX4_breaks_104 ?_
            refine lv_iload hx hb dX4_breaks_105 (lv_at hl 0 rfl) ?_
            refine lv_isub hx hb dX4_breaks_107 ?_
            refine z_ast hx hb hK hP hD hS 7 (f := (up2 (up2 ((bkE q k (b 2 j) (b 1 j) fi (b 3 j)).1) 1 k (30 - (b 1 j))) 2 k (maxI 0 (((((bkE q k (b 2 j) (b 1 j) fi (b 3 j)).1) 2 k) - 20)))) 4) rfl k rfl (by omega) (by decide) (mW_q4 (k := k)) dX4_breaks_108 (fun H locs hP hD hS => ?_)
            have hP : va_P D vwCl (mW Y Z r1 r2 y th t c (up2 (up2 (up2 ((bkE q k (b 2 j) (b 1 j) fi (b 3 j)).1) 1 k (30 - (b 1 j))) 2 k (maxI 0 (((((bkE q k (b 2 j) (b 1 j) fi (b 3 j)).1) 2 k) - 20)))) 4 k ((((bkE q k (b 2 j) (b 1 j) fi (b 3 j)).1) 4 k) - (minI 3 ((((bkE q k (b 2 j) (b 1 j) fi (b 3 j)).1) 4 k))))) (up2 b 3 j (bkE q k (b 2 j) (b 1 j) fi (b 3 j)).2.2.1) bc n ar ((bkE q k (b 2 j) (b 1 j) fi (b 3 j)).2.1) rn) H := hP
            have hD : va_D A (mW Y Z r1 r2 y th t c (up2 (up2 (up2 ((bkE q k (b 2 j) (b 1 j) fi (b 3 j)).1) 1 k (30 - (b 1 j))) 2 k (maxI 0 (((((bkE q k (b 2 j) (b 1 j) fi (b 3 j)).1) 2 k) - 20)))) 4 k ((((bkE q k (b 2 j) (b 1 j) fi (b 3 j)).1) 4 k) - (minI 3 ((((bkE q k (b 2 j) (b 1 j) fi (b 3 j)).1) 4 k))))) (up2 b 3 j (bkE q k (b 2 j) (b 1 j) fi (b 3 j)).2.2.1) bc n ar ((bkE q k (b 2 j) (b 1 j) fi (b 3 j)).2.1) rn) := hD
            refine lv_aload_n hx hb dX4_breaks_109 rfl (lv_at hl 3 rfl) ?_
            refine lv_dup hx hb dX4_breaks_110 rfl ?_
            refine va_get (D := D) (ci := 4) (v := .int ((bkE q k (b 2 j) (b 1 j) fi (b 3 j)).2.1)) (C := RX4) (T := TX4) (N := 16) hx hb hts hinX4 hown hK hP (4) rfl rfl 13 (by decide) hf62 (fun _ h9 => h9) rfl dX4_breaks_111 ?_
            refine lv_iload hx hb dX4_breaks_114 (lv_at hl 0 rfl) ?_
            refine lv_iadd hx hb dX4_breaks_116 ?_
            refine va_put (D := D) (ci := 4) (v := .int (((bkE q k (b 2 j) (b 1 j) fi (b 3 j)).2.1 + (minI 3 ((((bkE q k (b 2 j) (b 1 j) fi (b 3 j)).1) 4 k)))))) (ty := .int) (C := RX4) (T := TX4) (N := 16) hx hb hts hinX4 tyX4 tyX4_ok nmX4 hown hK hP hD hS (4) rfl rfl 13 (by decide) hf62 (fun _ h9 => h9) rfl (by decide +kernel) rfl rfl (Nat.le_of_ble_eq_true rfl) dX4_breaks_117 (fun H locs hP hD hS => ?_)
            have hP : va_P D vwCl (mW Y Z r1 r2 y th t c (up2 (up2 (up2 ((bkE q k (b 2 j) (b 1 j) fi (b 3 j)).1) 1 k (30 - (b 1 j))) 2 k (maxI 0 (((((bkE q k (b 2 j) (b 1 j) fi (b 3 j)).1) 2 k) - 20)))) 4 k ((((bkE q k (b 2 j) (b 1 j) fi (b 3 j)).1) 4 k) - (minI 3 ((((bkE q k (b 2 j) (b 1 j) fi (b 3 j)).1) 4 k))))) (up2 b 3 j (bkE q k (b 2 j) (b 1 j) fi (b 3 j)).2.2.1) bc n ar ((bkE q k (b 2 j) (b 1 j) fi (b 3 j)).2.1 + (minI 3 ((((bkE q k (b 2 j) (b 1 j) fi (b 3 j)).1) 4 k)))) rn) H := hP
            have hD : va_D A (mW Y Z r1 r2 y th t c (up2 (up2 (up2 ((bkE q k (b 2 j) (b 1 j) fi (b 3 j)).1) 1 k (30 - (b 1 j))) 2 k (maxI 0 (((((bkE q k (b 2 j) (b 1 j) fi (b 3 j)).1) 2 k) - 20)))) 4 k ((((bkE q k (b 2 j) (b 1 j) fi (b 3 j)).1) 4 k) - (minI 3 ((((bkE q k (b 2 j) (b 1 j) fi (b 3 j)).1) 4 k))))) (up2 b 3 j (bkE q k (b 2 j) (b 1 j) fi (b 3 j)).2.2.1) bc n ar ((bkE q k (b 2 j) (b 1 j) fi (b 3 j)).2.1 + (minI 3 ((((bkE q k (b 2 j) (b 1 j) fi (b 3 j)).1) 4 k)))) rn) := hD
            refine lv_aload_n hx hb dX4_breaks_120 rfl (lv_at hl 3 rfl) ?_
            refine va_get (D := D) (ci := 4) (v := .ref (Z 9)) (C := RX4) (T := TX4) (N := 16) hx hb hts hinX4 hown hK hP (4) rfl rfl 10 (by decide) hf40 (fun _ h9 => h9) rfl dX4_breaks_121 ?_
            refine lv_iload_n hx hb dX4_breaks_124 rfl (lv_at hl 4 rfl) ?_
            refine lv_dup2_11 hx hb dX4_breaks_125 rfl rfl ?_
            refine z_ald hx hb hK hP 13 (f := (up2 b 3 j (bkE q k (b 2 j) (b 1 j) fi (b 3 j)).2.2.1) 3) rfl j rfl (by omega) (by decide) dX4_breaks_126 ?_
            refine zt_i (x' := (bkE q k (b 2 j) (b 1 j) fi (b 3 j)).2.2.1) (up2_s _ _ _ _) ?_
            refine lv_iconst (v := 1) hx hb dX4_breaks_127 (by decide) ?_
            refine lv_iadd hx hb dX4_breaks_128 ?_
            refine z_ast hx hb hK hP hD hS 13 (f := (up2 b 3 j (bkE q k (b 2 j) (b 1 j) fi (b 3 j)).2.2.1) 3) rfl j rfl (by omega) (by decide) (mW_b3 (k := j)) dX4_breaks_129 (fun H locs hP hD hS => ?_)
            rw [up2_2] at hP hD
            have hP : va_P D vwCl (mW Y Z r1 r2 y th t c (up2 (up2 (up2 ((bkE q k (b 2 j) (b 1 j) fi (b 3 j)).1) 1 k (30 - (b 1 j))) 2 k (maxI 0 (((((bkE q k (b 2 j) (b 1 j) fi (b 3 j)).1) 2 k) - 20)))) 4 k ((((bkE q k (b 2 j) (b 1 j) fi (b 3 j)).1) 4 k) - (minI 3 ((((bkE q k (b 2 j) (b 1 j) fi (b 3 j)).1) 4 k))))) (up2 b 3 j ((bkE q k (b 2 j) (b 1 j) fi (b 3 j)).2.2.1 + 1)) bc n ar ((bkE q k (b 2 j) (b 1 j) fi (b 3 j)).2.1 + (minI 3 ((((bkE q k (b 2 j) (b 1 j) fi (b 3 j)).1) 4 k)))) rn) H := hP
            have hD : va_D A (mW Y Z r1 r2 y th t c (up2 (up2 (up2 ((bkE q k (b 2 j) (b 1 j) fi (b 3 j)).1) 1 k (30 - (b 1 j))) 2 k (maxI 0 (((((bkE q k (b 2 j) (b 1 j) fi (b 3 j)).1) 2 k) - 20)))) 4 k ((((bkE q k (b 2 j) (b 1 j) fi (b 3 j)).1) 4 k) - (minI 3 ((((bkE q k (b 2 j) (b 1 j) fi (b 3 j)).1) 4 k))))) (up2 b 3 j ((bkE q k (b 2 j) (b 1 j) fi (b 3 j)).2.2.1 + 1)) bc n ar ((bkE q k (b 2 j) (b 1 j) fi (b 3 j)).2.1 + (minI 3 ((((bkE q k (b 2 j) (b 1 j) fi (b 3 j)).1) 4 k)))) rn) := hD
            refine lv_iinc (v := nI (k + 1)) (lv' := [(3, .int (nI (k + 1))), (4, .int ((minI 3 ((((bkE q k (b 2 j) (b 1 j) fi (b 3 j)).1) 4 k))))), (2, .int 1), (0, .ref (Z 0)), (1, .int (nI j))]) hx hb dX4_breaks_130 hl (k := 2) rfl (nI_1 _) (by decide) rfl (fun ls hl => ?_)
            refine lv_goto (tgt := 4) hx hb dX4_breaks_133 (by decide) ?_
            have e10 : (bkE q (k + 1) (b 2 j) (b 1 j) fi (b 3 j)).2.2.2 = 1 := by simp [bkE_s, bkS, breakM, fineI, c4, d4, c9]
            have e11 : (bkE q (k + 1) (b 2 j) (b 1 j) fi (b 3 j)).1 = (up2 (up2 (up2 ((bkE q k (b 2 j) (b 1 j) fi (b 3 j)).1) 1 k (30 - (b 1 j))) 2 k (maxI 0 (((((bkE q k (b 2 j) (b 1 j) fi (b 3 j)).1) 2 k) - 20)))) 4 k ((((bkE q k (b 2 j) (b 1 j) fi (b 3 j)).1) 4 k) - (minI 3 ((((bkE q k (b 2 j) (b 1 j) fi (b 3 j)).1) 4 k))))) := by simp [bkE_s, bkS, breakM, fineI, c4, d4, c9]
            have e12 : (bkE q (k + 1) (b 2 j) (b 1 j) fi (b 3 j)).2.1 = ((bkE q k (b 2 j) (b 1 j) fi (b 3 j)).2.1 + (minI 3 ((((bkE q k (b 2 j) (b 1 j) fi (b 3 j)).1) 4 k)))) := by simp [bkE_s, bkS, breakM, fineI, c4, d4, c9]
            have e13 : (up2 b 3 j (bkE q (k + 1) (b 2 j) (b 1 j) fi (b 3 j)).2.2.1) = (up2 b 3 j ((bkE q k (b 2 j) (b 1 j) fi (b 3 j)).2.2.1 + 1)) := by simp [bkE_s, bkS, breakM, fineI, c4, d4, c9]
            refine ihk H locs ls ?_ ?_ hS ?_
            · first | exact hP | (simp only [e10, e11, e12, e13]; exact hP)
            · first | exact hD | (simp only [e10, e11, e12, e13]; exact hD)
            · first | exact lv_sub hl [0, 2, 3, 4] rfl | (simp only [e10, e11, e12, e13]; exact lv_sub hl [0, 2, 3, 4] rfl)
          · have c9 : wayB ((bkE q k (b 2 j) (b 1 j) fi (b 3 j)).1) k (b 1 j) = false := zb_f c9
            refine lv_goto (tgt := 130) hx hb dX4_breaks_47 (by decide) ?_
            refine lv_iinc (v := nI (k + 1)) (lv' := [(3, .int (nI (k + 1))), (2, .int ((bkE q k (b 2 j) (b 1 j) fi (b 3 j)).2.2.2)), (0, .ref (Z 0)), (1, .int (nI j))]) hx hb dX4_breaks_130 hl (k := 0) rfl (nI_1 _) (by decide) rfl (fun ls hl => ?_)
            refine lv_goto (tgt := 4) hx hb dX4_breaks_133 (by decide) ?_
            have e14 : (bkE q (k + 1) (b 2 j) (b 1 j) fi (b 3 j)).2.2.2 = (bkE q k (b 2 j) (b 1 j) fi (b 3 j)).2.2.2 := by simp [bkE_s, bkS, breakM, fineI, c4, d4, c9]
            have e15 : (bkE q (k + 1) (b 2 j) (b 1 j) fi (b 3 j)).1 = (bkE q k (b 2 j) (b 1 j) fi (b 3 j)).1 := by simp [bkE_s, bkS, breakM, fineI, c4, d4, c9]
            have e16 : (bkE q (k + 1) (b 2 j) (b 1 j) fi (b 3 j)).2.1 = (bkE q k (b 2 j) (b 1 j) fi (b 3 j)).2.1 := by simp [bkE_s, bkS, breakM, fineI, c4, d4, c9]
            have e17 : (up2 b 3 j (bkE q (k + 1) (b 2 j) (b 1 j) fi (b 3 j)).2.2.1) = (up2 b 3 j (bkE q k (b 2 j) (b 1 j) fi (b 3 j)).2.2.1) := by simp [bkE_s, bkS, breakM, fineI, c4, d4, c9]
            refine ihk H locs ls ?_ ?_ hS ?_
            · first | exact hP | (simp only [e14, e15, e16, e17]; exact hP)
            · first | exact hD | (simp only [e14, e15, e16, e17]; exact hD)
            · first | exact lv_sub hl [0, 1, 2, 3] rfl | (simp only [e14, e15, e16, e17]; exact lv_sub hl [0, 1, 2, 3] rfl)
  exact loop1 0 (Nat.zero_le _) H locs ls hP hD hS (lv_sub hl [0, 1, 2, 3] rfl)
