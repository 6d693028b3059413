abbrev TS : Type := (Nat → Int32) × (Nat → Nat) × Fld × Fld × Nat × Nat × Nat × Int32 × Int32 × Int32
/-- the world of a StakeWeirs: 33 cells -/
def sW (X0 : Nat) (E E2 : Nat → Nat) (y : Nat → ClassId) (t : Nat → Int32) (o : Nat → Nat) (q b : Fld) (c bc n : Nat) (ar fi re : Int32) (T : TS) : va_W :=
  [(X0, .inr (3, [.ref (E 0), .ref (E2 0)]))] ++ (eW E y t o q b c bc n ar fi re ++ eW E2 y T.1 T.2.1 T.2.2.1 T.2.2.2.1 T.2.2.2.2.1 T.2.2.2.2.2.1 T.2.2.2.2.2.2.1 T.2.2.2.2.2.2.2.1 T.2.2.2.2.2.2.2.2.1 T.2.2.2.2.2.2.2.2.2)
def copyT (N T : TS) : TS := (cpN 7 N.1 T.1, cpN 6 N.2.1 T.2.1, cp2 N.2.2.2.2.1 N.2.2.1 T.2.2.1, cp2 N.2.2.2.2.2.1 N.2.2.2.1 T.2.2.2.1, N.2.2.2.2.1, N.2.2.2.2.2.1, N.2.2.2.2.2.2.1, N.2.2.2.2.2.2.2.1, N.2.2.2.2.2.2.2.2.1, N.2.2.2.2.2.2.2.2.2)
def nsT (T : TS) : Nst := (T.2.2.1, T.2.2.2.1, T.2.2.2.2.2.1, T.2.2.2.2.2.2.1, T.2.2.2.2.2.2.2.1, T.2.2.2.2.2.2.2.2.1, T.2.2.2.2.2.2.2.2.2)
def ofT (T : TS) (r : Nst) : TS := (T.1, T.2.1, r.1, r.2.1, T.2.2.2.2.1, r.2.2.1, r.2.2.2.1, r.2.2.2.2.1, r.2.2.2.2.2.1, r.2.2.2.2.2.2)
def nightsT (m : Nat) (T : TS) : TS := ofT T (nightsE T.1 T.2.1 T.2.2.2.2.1 m (nsT T))
def stakeT (T : TS) (k : Nat) (x : Int32) : TS := (T.1, T.2.1, up2 T.2.2.1 1 k x, T.2.2.2)
def catchT (T : TS) : TS := (T.1, T.2.1, catchE T.2.1 T.2.2.1 T.2.2.2.2.1 (runI T.1 T.2.2.2.2.2.2.1), T.2.2.2)
def inB (lo x hi : Int32) : Bool := decide (lo ≤ x) && decide (x ≤ hi)
theorem sW_putN {X0 : Nat} {E E2 : Nat → Nat} {y : Nat → ClassId} {t : Nat → Int32} {o : Nat → Nat} {q q' b : Fld} {c bc n : Nat} {ar fi re : Int32} {T : TS} {k : Nat} (hk : k < 6) (h : ∀ j i, i ≠ k → q' j i = q j i) : (sW X0 E E2 y t o q b c bc n ar fi re T).set (1 + (5 + k)) (E (5 + k), .inr (2, qF q' k)) = sW X0 E E2 y t o q' b c bc n ar fi re T := by
  unfold sW
  rw [← eW_setw (q := q) (q' := q') hk h, Nat.add_comm 1 (5 + k), List.singleton_append, List.singleton_append, List.set_cons_succ]
  rw [List.set_append_left _ _ (by show 5 + k < 16; omega)]
theorem sW_putT {X0 : Nat} {E E2 : Nat → Nat} {y : Nat → ClassId} {t : Nat → Int32} {o : Nat → Nat} {q b : Fld} {c bc n : Nat} {ar fi re : Int32} {T : TS} {k j : Nat} {x : Int32} (hk : k < 6) : (sW X0 E E2 y t o q b c bc n ar fi re T).set (1 + (16 + (5 + k))) (E2 (5 + k), .inr (2, qF (up2 T.2.2.1 j k x) k)) = sW X0 E E2 y t o q b c bc n ar fi re (T.1, T.2.1, up2 T.2.2.1 j k x, T.2.2.2) := by
  unfold sW
  dsimp only
  rw [← eW_setw (q := T.2.2.1) (q' := up2 T.2.2.1 j k x) hk (fun a i h => up2_k _ _ _ _ _ _ h), Nat.add_comm 1 (16 + (5 + k)), List.singleton_append, List.singleton_append, List.set_cons_succ]
  rw [List.set_append_right _ _ (by show 16 ≤ 16 + (5 + k); omega), show 16 + (5 + k) - (eW E y t o q b c bc n ar fi re).length = 5 + k from by show 16 + (5 + k) - 16 = 5 + k; omega]
theorem z_D_e {A : Nat → Prop} {l1 l2 w : va_W} (h : va_D A (l1 ++ (l2 ++ w))) : va_D (fun _ => True) w := by
  have h2 : va_D A ((l1 ++ l2) ++ (w ++ [])) := by rw [List.append_nil, List.append_assoc]; exact h
  exact z_D_m h2
theorem z_segE {D : va_G} {A0 : Nat → Prop} {ws ws1 l1 l2 w w1 : va_W} {H H1 : Heap} (hP : va_P D vwCl ws H) (hD : va_D A0 ws) (e0 : ws = l1 ++ (l2 ++ w)) (e1 : l1 ++ (l2 ++ w1) = ws1) (had : w1.map Prod.fst = w.map Prod.fst) (hP1 : va_P D vwCl w1 H1) (hfr : ∀ q : Nat, q < H.size → ¬ va_A w H.size q → H1[q]? = H[q]?) : va_P D vwCl ws1 H1 ∧ va_D A0 ws1 :=
  z_seg (l1 := l1 ++ l2) (l2 := []) hP hD (by rw [e0, List.append_nil, List.append_assoc]) (by rw [← e1, List.append_nil, List.append_assoc]) had hP1 hfr
theorem zgoodS_27 : (vx_atS RX3 27 "java/lang/IllegalArgumentException" zXn).all vx_ot = true := by decide +kernel
theorem zbad_27 : ∀ x ∈ (vx_atS RX3 27 "java/lang/IllegalArgumentException" zXn).filter (fun w => !goodWord w), x ∈ zB := by decide +kernel
theorem zgoodO_27 (ik : Nat) : ∀ x ∈ Cond.classLink RX3 ik "java/lang/IllegalArgumentException" :: Cond.initialized "java/lang/IllegalArgumentException" :: vx_atS RX3 27 "java/lang/IllegalArgumentException" zXn, vx_ot x = true := by
  intro x hx
  rcases List.mem_cons.mp hx with rfl | hx
  · rfl
  · rcases List.mem_cons.mp hx with rfl | hx
    · rfl
    · exact List.all_eq_true.mp zgoodS_27 x hx
theorem zgoodS_38 : (vx_atS RX3 38 "java/lang/IllegalStateException" zXn).all vx_ot = true := by decide +kernel
theorem zbad_38 : ∀ x ∈ (vx_atS RX3 38 "java/lang/IllegalStateException" zXn).filter (fun w => !goodWord w), x ∈ zB := by decide +kernel
theorem zgoodO_38 (ik : Nat) : ∀ x ∈ Cond.classLink RX3 ik "java/lang/IllegalStateException" :: Cond.initialized "java/lang/IllegalStateException" :: vx_atS RX3 38 "java/lang/IllegalStateException" zXn, vx_ot x = true := by
  intro x hx
  rcases List.mem_cons.mp hx with rfl | hx
  · rfl
  · rcases List.mem_cons.mp hx with rfl | hx
    · rfl
    · exact List.all_eq_true.mp zgoodS_38 x hx
theorem zgoodS_51 : (vx_atS RX3 51 "java/lang/IndexOutOfBoundsException" zXn).all vx_ot = true := by decide +kernel
theorem zbad_51 : ∀ x ∈ (vx_atS RX3 51 "java/lang/IndexOutOfBoundsException" zXn).filter (fun w => !goodWord w), x ∈ zB := by decide +kernel
theorem zgoodO_51 (ik : Nat) : ∀ x ∈ Cond.classLink RX3 ik "java/lang/IndexOutOfBoundsException" :: Cond.initialized "java/lang/IndexOutOfBoundsException" :: vx_atS RX3 51 "java/lang/IndexOutOfBoundsException" zXn, vx_ot x = true := by
  intro x hx
  rcases List.mem_cons.mp hx with rfl | hx
  · rfl
  · rcases List.mem_cons.mp hx with rfl | hx
    · rfl
    · exact List.all_eq_true.mp zgoodS_51 x hx
set_option maxHeartbeats 4000000 in
set_option maxRecDepth 100000 in
theorem c_X3_isWithin (l : Launch) (D : va_G) (y : Nat → ClassId) (x lo hi : Int32)  : zR l yX3_isWithin wsX3_isWithin { frames := 0, cells := 0, slots := 0, locals := 0 } D y [.int x, .int lo, .int hi] ([]) (some (.int (zb (inB lo x hi)))) := by
  refine zR.of (cc := cX3_isWithin) (maxL := 3) (ret := (some .boolean)) (own := RX3) (by decide) rfl (Nat.le_of_ble_eq_true rfl) rfl ?_
  intro p e s m args below meth cd ls hx hb hr hml hown hts hlocks hP hK hl
  have hl : lv_has ls 3 [(0, .int x), (1, .int lo), (2, .int hi)] := hl
  refine lv_iload_n hx hb dX3_isWithin_0 rfl (lv_at hl 1 rfl) ?_
  refine lv_iload_n hx hb dX3_isWithin_1 rfl (lv_at hl 0 rfl) ?_
  refine lv_icmp_gt (tgt := 14) hx hb dX3_isWithin_2 (by decide) (fun c1 => ?_) (fun c1 => ?_)
  · have d1 := Int32.not_le.mpr c1
    refine lv_iconst (v := 0) hx hb dX3_isWithin_14 (by decide) ?_
    exact zR_z hx hb hr hlocks dX3_isWithin_15 (Or.inl rfl) (by simp [zb, inB, c1, d1])
  · have d1 := Int32.not_lt.mp c1
    refine lv_iload_n hx hb dX3_isWithin_5 rfl (lv_at hl 0 rfl) ?_
    refine lv_iload_n hx hb dX3_isWithin_6 rfl (lv_at hl 2 rfl) ?_
    refine lv_icmp_gt (tgt := 14) hx hb dX3_isWithin_7 (by decide) (fun c2 => ?_) (fun c2 => ?_)
    · have d2 := Int32.not_le.mpr c2
      refine lv_iconst (v := 0) hx hb dX3_isWithin_14 (by decide) ?_
      exact zR_z hx hb hr hlocks dX3_isWithin_15 (Or.inl rfl) (by simp [zb, inB, c1, d1, c2, d2])
    · have d2 := Int32.not_lt.mp c2
      refine lv_iconst (v := 1) hx hb dX3_isWithin_10 (by decide) ?_
      refine lv_goto (tgt := 15) hx hb dX3_isWithin_11 (by decide) ?_
      exact zR_z hx hb hr hlocks dX3_isWithin_15 (Or.inr rfl) (by simp [zb, inB, c1, d1, c2, d2])
def priceI (x z : Int32) : Int32 := if z = 0 then x / 2 else if z = 1 then x else x + x / 2
set_option maxHeartbeats 4000000 in
set_option maxRecDepth 100000 in
theorem c_X3_priceOfEels (l : Launch) (D : va_G) (y : Nat → ClassId) (x z : Int32)  : zR l yX3_priceOfEels wsX3_priceOfEels { frames := 0, cells := 0, slots := 0, locals := 0 } D y [.int x, .int z] ([]) (some (.int (priceI x z))) := by
  refine zR.of (cc := cX3_priceOfEels) (maxL := 2) (ret := (some .int)) (own := RX3) (by decide) rfl (Nat.le_of_ble_eq_true rfl) rfl ?_
  intro p e s m args below meth cd ls hx hb hr hml hown hts hlocks hP hK hl
  have hl : lv_has ls 2 [(0, .int x), (1, .int z)] := hl
  refine lv_iload_n hx hb dX3_priceOfEels_0 rfl (lv_at hl 1 rfl) ?_
  refine lv_if_ne (tgt := 8) hx hb dX3_priceOfEels_1 (by decide) (fun c1 => ?_) (fun c1 => ?_)
  · have d1 := c1
    refine lv_iload_n hx hb dX3_priceOfEels_8 rfl (lv_at hl 1 rfl) ?_
    refine lv_iconst (v := 1) hx hb dX3_priceOfEels_9 (by decide) ?_
    refine lv_icmp_ne (tgt := 17) hx hb dX3_priceOfEels_10 (by decide) (fun c2 => ?_) (fun c2 => ?_)
    · have d2 := c2
      refine lv_iload_n hx hb dX3_priceOfEels_17 rfl (lv_at hl 0 rfl) ?_
      refine lv_iload_n hx hb dX3_priceOfEels_18 rfl (lv_at hl 0 rfl) ?_
      refine lv_iconst (v := 2) hx hb dX3_priceOfEels_19 (by decide) ?_
      refine lv_idiv hx hb dX3_priceOfEels_20 (by decide) ?_
      refine lv_iadd hx hb dX3_priceOfEels_21 ?_
      exact zR_i hx hb hr hlocks dX3_priceOfEels_22 (by simp [priceI, c1, d1, c2, d2])
    · have d2 := c2
      refine lv_iload_n hx hb dX3_priceOfEels_13 rfl (lv_at hl 0 rfl) ?_
      refine lv_goto (tgt := 22) hx hb dX3_priceOfEels_14 (by decide) ?_
      exact zR_i hx hb hr hlocks dX3_priceOfEels_22 (by simp [priceI, c1, d1, c2, d2])
  · have d1 := c1
    refine lv_iload_n hx hb dX3_priceOfEels_4 rfl (lv_at hl 0 rfl) ?_
    refine lv_iconst (v := 2) hx hb dX3_priceOfEels_5 (by decide) ?_
    refine lv_idiv hx hb dX3_priceOfEels_6 (by decide) ?_
    exact zR_i hx hb hr hlocks dX3_priceOfEels_7 (by simp [priceI, c1, d1])
