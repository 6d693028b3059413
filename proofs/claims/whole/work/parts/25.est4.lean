def insE (q : Fld) (p : Int32) (num : Nat) : Nat → (Nat → Nat) → (Nat → Nat)
  | 0, o => va_up o 0 num
  | a + 1, o => if q 0 (o a) < p then insE q p num a (va_up o (a + 1) (o a)) else va_up o (a + 1) num
theorem insE_s (q : Fld) (p : Int32) (num a : Nat) (o : Nat → Nat) : insE q p num (a + 1) o = (if q 0 (o a) < p then insE q p num a (va_up o (a + 1) (o a)) else va_up o (a + 1) num) := rfl
theorem z_apl {l1 l2 : va_W} {k : Nat} {x : Nat × va_E} (h : l1[k]? = some x) : (l1 ++ l2)[k]? = some x := by
  rw [List.getElem?_append_left (List.getElem?_eq_some_iff.mp h).1]; exact h
theorem z_apr {l1 l2 : va_W} {k n : Nat} {x : Nat × va_E} (hl : l1.length = n) (h : l2[k]? = some x) : (l1 ++ l2)[n + k]? = some x := by
  rw [← hl, List.getElem?_append_right (Nat.le_add_right _ _), Nat.add_sub_cancel_left]; exact h
theorem z_setl {l1 l2 l3 : va_W} {k : Nat} {x : Nat × va_E} (hk : k < l1.length) (h : l1.set k x = l3) : (l1 ++ l2).set k x = l3 ++ l2 := by
  rw [List.set_append_left _ _ hk, h]
theorem va_up_cp {α : Type} (m : Nat) (f g : Nat → α) : va_up (cpN m f g) m (f m) = cpN (m + 1) f g := cpN_u m f g
set_option maxHeartbeats 4000000 in
set_option maxRecDepth 100000 in
theorem c_X1_putInOrder (l : Launch) (D : va_G) (y : Nat → ClassId) (E : Nat → Nat) (t : Nat → Int32) (o : Nat → Nat) (q b : Fld) (c bc n : Nat) (ar fi re : Int32) (x : Int32) (hc : c < 6) (ho : ∀ i, i < c → o i < c) (sz : Nat) : zM l yX1_putInOrder wsX1_putInOrder { frames := 2, cells := 0, slots := 0, locals := 45 } D y [.ref (E 0), .int (nI c), .int x] (eW E y t o q b c bc n ar fi re) sz (none) (eW E y t (insE q x c c o) q b c bc n ar fi re) 0 0 := by
  refine zM.ofH (cc := cX1_putInOrder) (maxL := 4) (ret := none) (own := RX1) (by decide) rfl (Nat.le_of_ble_eq_true rfl) rfl ?_
  intro p e s m args below meth cd ls A H locs hx hb hr hml hown hts hlocks hP hK hD hA hS hl hin
  have hS0 := hS
  have hl : lv_has ls 4 [(0, .ref (E 0)), (1, .int (nI c)), (2, .int x)] := hl
  have hf15 : (Cond.fieldLink RX1 15 "StakeWeirs$Estuary" "order" "[I").before args s = true := hts _ (by decide +kernel)
  have hinX1 : ∀ w ∈ wsX10, w ∈ wsX1_putInOrder := by decide +kernel
  refine lv_iload_n hx hb dX1_putInOrder_0 rfl (lv_at hl 1 rfl) ?_
  refine lv_istore_n (lv' := [(3, .int (nI c)), (0, .ref (E 0)), (1, .int (nI c)), (2, .int x)]) hx hb dX1_putInOrder_1 rfl hl (by decide) rfl (fun ls hl => ?_)
  have loop : ∀ a, a ≤ c → ∀ (o1 : Nat → Nat) (H : Heap) (locs : List Loc) (ls : Array Slot), insE q x c a o1 = insE q x c c o → (∀ i, i < c → o1 i < c) → va_P D vwCl (eW E y t o1 q b c bc n ar fi re) H → va_D A (eW E y t o1 q b c bc n ar fi re) → va_S A s.heap H locs → lv_has ls 4 [(3, .int (nI a)), (0, .ref (E 0)), (1, .int (nI c)), (2, .int x)] → W p l e ({ frames := 2, cells := 0, slots := 0, locals := 45 } : Room) s m args below meth cd H locs 0 0 (MQ below (zMQ (none) D (eW E y t (insE q x c c o) q b c bc n ar fi re) A) args s 0 0 A) (F0 m 2 ls []) := by
    intro a
    induction a with
    | zero =>
      intro ha o1 H locs ls hE ho1 hP hD hS hl
      refine lv_iload_n hx hb dX1_putInOrder_2 rfl (lv_at hl 0 rfl) ?_
      refine lv_if_le (tgt := 51) hx hb dX1_putInOrder_3 (by decide) (fun c1 => ?_) (fun c1 => ?_)
      · have d1 := Int32.not_lt.mpr c1
        refine lv_iload_n hx hb dX1_putInOrder_51 rfl (lv_at hl 0 rfl) ?_
        refine lv_if_lt (tgt := 71) hx hb dX1_putInOrder_52 (by decide) (fun c2 => ?_) (fun c2 => ?_)
        · exact absurd c2 (nI_nlt (a := 0) (b := 0) (by omega) (by omega))
        · have d2 := Int32.not_lt.mp c2
          refine lv_iload_n hx hb dX1_putInOrder_55 rfl (lv_at hl 0 rfl) ?_
          refine lv_aload_n hx hb dX1_putInOrder_56 rfl (lv_at hl 1 rfl) ?_
          refine va_get (D := D) (ci := 1) (v := .ref (E 3)) (C := RX1) (T := TX1) (N := 10) hx hb hts hinX1 hown hK hP (0) rfl rfl 2 (by decide) hf15 (fun _ h9 => h9) rfl dX1_putInOrder_57 ?_
          refine va_alen hx hb hK hP 3 0 (v := nI 6) rfl rfl rfl dX1_putInOrder_60 ?_
          refine lv_icmp_ge (tgt := 71) hx hb dX1_putInOrder_61 (by decide) (fun c3 => ?_) (fun c3 => ?_)
          · exact absurd c3 (nI_ge (a := 0) (b := 6) (by omega) (by omega))
          · have d3 := Int32.not_le.mp c3
            refine lv_aload_n hx hb dX1_putInOrder_64 rfl (lv_at hl 1 rfl) ?_
            refine va_get (D := D) (ci := 1) (v := .ref (E 3)) (C := RX1) (T := TX1) (N := 10) hx hb hts hinX1 hown hK hP (0) rfl rfl 2 (by decide) hf15 (fun _ h9 => h9) rfl dX1_putInOrder_65 ?_
            refine lv_iload_n hx hb dX1_putInOrder_68 rfl (lv_at hl 0 rfl) ?_
            refine lv_iload_n hx hb dX1_putInOrder_69 rfl (lv_at hl 2 rfl) ?_
            refine z_ast (x := nI c) hx hb hK hP hD hS 3 (f := fun i => nI (o1 i)) rfl 0 rfl (by omega) (by decide) (by rw [z_updO]) dX1_putInOrder_70 (fun H locs hP hD hS => ?_)
            have hP : va_P D vwCl (eW E y t (va_up o1 0 c) q b c bc n ar fi re) H := hP
            have hD : va_D A (eW E y t (va_up o1 0 c) q b c bc n ar fi re) := hD
            exact zM_v hx hb hr hlocks hS dX1_putInOrder_71 rfl (by rw [← hE]; exact hP)
      · exact absurd (nI_le (a := 0) (b := 0) (by omega) (by omega)) c1
    | succ a ih =>
      intro ha o1 H locs ls hE ho1 hP hD hS hl
      have hoa := ho1 a (by omega)
      refine lv_iload_n hx hb dX1_putInOrder_2 rfl (lv_at hl 0 rfl) ?_
      refine lv_if_le (tgt := 51) hx hb dX1_putInOrder_3 (by decide) (fun c4 => ?_) (fun c4 => ?_)
      · exact absurd c4 (nI_ge (a := 0) (b := (a + 1)) (by omega) (by omega))
      · have d4 := Int32.not_le.mp c4
        refine lv_iload_n hx hb dX1_putInOrder_6 rfl (lv_at hl 0 rfl) ?_
        refine lv_aload_n hx hb dX1_putInOrder_7 rfl (lv_at hl 1 rfl) ?_
        refine va_get (D := D) (ci := 1) (v := .ref (E 3)) (C := RX1) (T := TX1) (N := 10) hx hb hts hinX1 hown hK hP (0) rfl rfl 2 (by decide) hf15 (fun _ h9 => h9) rfl dX1_putInOrder_8 ?_
        refine va_alen hx hb hK hP 3 0 (v := nI 6) rfl rfl rfl dX1_putInOrder_11 ?_
        refine lv_icmp_ge (tgt := 51) hx hb dX1_putInOrder_12 (by decide) (fun c5 => ?_) (fun c5 => ?_)
        · exact absurd c5 (nI_ge (a := (a + 1)) (b := 6) (by omega) (by omega))
        · have d5 := Int32.not_le.mp c5
          refine lv_aload_n hx hb dX1_putInOrder_15 rfl (lv_at hl 1 rfl) ?_
          refine lv_aload_n hx hb dX1_putInOrder_16 rfl (lv_at hl 1 rfl) ?_
          refine va_get (D := D) (ci := 1) (v := .ref (E 3)) (C := RX1) (T := TX1) (N := 10) hx hb hts hinX1 hown hK hP (0) rfl rfl 2 (by decide) hf15 (fun _ h9 => h9) rfl dX1_putInOrder_17 ?_
          refine lv_iload_n hx hb dX1_putInOrder_20 rfl (lv_at hl 0 rfl) ?_
          refine lv_iconst (v := 1) hx hb dX1_putInOrder_21 (by decide) ?_
          refine lv_isub hx hb dX1_putInOrder_22 ?_
          refine zt_i (x' := nI a) (nI_pred _) ?_
          refine z_ald hx hb hK hP 3 (f := (fun i => nI (o1 i))) rfl a rfl (by omega) (by decide) dX1_putInOrder_23 ?_
          refine lv_iload_n hx hb dX1_putInOrder_24 rfl (lv_at hl 3 rfl) ?_
          refine zcRV (As := [.int (nI (o1 a)), .int x]) (rest := []) (st1 := [.int (zb (decide (q 0 (o1 a) < x)))]) ⟨hx, hb, hml, hown, hts⟩ (c_X1_isSeawardsOf l D y E t o1 q b c bc n ar fi re (o1 a) x (by omega) (by omega)) (cwV 2 hts gX1_putInOrder_X1_isSeawardsOf rfl rfl rfl (by decide +kernel) ⟨Nat.le_of_ble_eq_true rfl, Nat.le_of_ble_eq_true rfl⟩) hK hP (ci := 1) (q0 := 0) rfl rfl rfl rfl hl.1 rfl (lv_room (Nat.le_of_ble_eq_true rfl)) dX1_putInOrder_25 ⟨Nat.le_of_ble_eq_true rfl, Nat.le_of_ble_eq_true rfl⟩ rfl ?_
          refine lv_if_eq (tgt := 51) hx hb dX1_putInOrder_28 (by decide) (fun c6 => ?_) (fun c6 => ?_)
          · have c6 : decide (q 0 (o1 a) < x) = false := zb_f c6
            refine lv_iload_n hx hb dX1_putInOrder_51 rfl (lv_at hl 0 rfl) ?_
            refine lv_if_lt (tgt := 71) hx hb dX1_putInOrder_52 (by decide) (fun c7 => ?_) (fun c7 => ?_)
            · exact absurd c7 (nI_nlt (a := (a + 1)) (b := 0) (by omega) (by omega))
            · have d7 := Int32.not_lt.mp c7
              refine lv_iload_n hx hb dX1_putInOrder_55 rfl (lv_at hl 0 rfl) ?_
              refine lv_aload_n hx hb dX1_putInOrder_56 rfl (lv_at hl 1 rfl) ?_
              refine va_get (D := D) (ci := 1) (v := .ref (E 3)) (C := RX1) (T := TX1) (N := 10) hx hb hts hinX1 hown hK hP (0) rfl rfl 2 (by decide) hf15 (fun _ h9 => h9) rfl dX1_putInOrder_57 ?_
              refine va_alen hx hb hK hP 3 0 (v := nI 6) rfl rfl rfl dX1_putInOrder_60 ?_
              refine lv_icmp_ge (tgt := 71) hx hb dX1_putInOrder_61 (by decide) (fun c8 => ?_) (fun c8 => ?_)
              · exact absurd c8 (nI_ge (a := (a + 1)) (b := 6) (by omega) (by omega))
              · have d8 := Int32.not_le.mp c8
                refine lv_aload_n hx hb dX1_putInOrder_64 rfl (lv_at hl 1 rfl) ?_
                refine va_get (D := D) (ci := 1) (v := .ref (E 3)) (C := RX1) (T := TX1) (N := 10) hx hb hts hinX1 hown hK hP (0) rfl rfl 2 (by decide) hf15 (fun _ h9 => h9) rfl dX1_putInOrder_65 ?_
                refine lv_iload_n hx hb dX1_putInOrder_68 rfl (lv_at hl 0 rfl) ?_
                refine lv_iload_n hx hb dX1_putInOrder_69 rfl (lv_at hl 2 rfl) ?_
                refine z_ast (x := nI c) hx hb hK hP hD hS 3 (f := fun i => nI (o1 i)) rfl (a + 1) rfl (by omega) (by decide) (by rw [z_updO]) dX1_putInOrder_70 (fun H locs hP hD hS => ?_)
                have hP : va_P D vwCl (eW E y t (va_up o1 (a + 1) c) q b c bc n ar fi re) H := hP
                have hD : va_D A (eW E y t (va_up o1 (a + 1) c) q b c bc n ar fi re) := hD
                exact zM_v hx hb hr hlocks hS dX1_putInOrder_71 rfl (by rw [← hE, insE_s, if_neg (of_decide_eq_false c6)]; exact hP)
          · have c6 : decide (q 0 (o1 a) < x) = true := zb_t c6
            refine lv_aload_n hx hb dX1_putInOrder_31 rfl (lv_at hl 1 rfl) ?_
            refine va_get (D := D) (ci := 1) (v := .ref (E 3)) (C := RX1) (T := TX1) (N := 10) hx hb hts hinX1 hown hK hP (0) rfl rfl 2 (by decide) hf15 (fun _ h9 => h9) rfl dX1_putInOrder_32 ?_
            refine lv_iload_n hx hb dX1_putInOrder_35 rfl (lv_at hl 0 rfl) ?_
            refine lv_aload_n hx hb dX1_putInOrder_36 rfl (lv_at hl 1 rfl) ?_
            refine va_get (D := D) (ci := 1) (v := .ref (E 3)) (C := RX1) (T := TX1) (N := 10) hx hb hts hinX1 hown hK hP (0) rfl rfl 2 (by decide) hf15 (fun _ h9 => h9) rfl dX1_putInOrder_37 ?_
            refine lv_iload_n hx hb dX1_putInOrder_40 rfl (lv_at hl 0 rfl) ?_
            refine lv_iconst (v := 1) hx hb dX1_putInOrder_41 (by decide) ?_
            refine lv_isub hx hb dX1_putInOrder_42 ?_
            refine zt_i (x' := nI a) (nI_pred _) ?_
            refine z_ald hx hb hK hP 3 (f := (fun i => nI (o1 i))) rfl a rfl (by omega) (by decide) dX1_putInOrder_43 ?_
            refine z_ast (x := nI (o1 a)) hx hb hK hP hD hS 3 (f := fun i => nI (o1 i)) rfl (a + 1) rfl (by omega) (by decide) (by rw [z_updO]) dX1_putInOrder_44 (fun H locs hP hD hS => ?_)
            have hP : va_P D vwCl (eW E y t (va_up o1 (a + 1) (o1 a)) q b c bc n ar fi re) H := hP
            have hD : va_D A (eW E y t (va_up o1 (a + 1) (o1 a)) q b c bc n ar fi re) := hD
            refine lv_iinc (v := nI a) (lv' := [(3, .int (nI a)), (0, .ref (E 0)), (1, .int (nI c)), (2, .int x)]) hx hb dX1_putInOrder_45 hl (k := 0) rfl (pk_m1 _) (by decide) rfl (fun ls hl => ?_)
            refine lv_goto (tgt := 2) hx hb dX1_putInOrder_48 (by decide) ?_
            refine ih (by omega) _ H locs ls ?_ ?_ hP hD hS (lv_sub hl [0, 1, 2, 3] rfl)
            · rw [← hE, insE_s, if_pos (of_decide_eq_true c6)]
            · intro i hi; unfold va_up; split; exact hoa; exact ho1 i hi
  exact loop c (Nat.le_refl _) o H locs ls rfl ho hP hD hS (lv_sub hl [0, 1, 2, 3] rfl)
set_option maxHeartbeats 4000000 in
set_option maxRecDepth 100000 in
theorem c_X1_addWeir (l : Launch) (D : va_G) (y : Nat → ClassId) (E : Nat → Nat) (t : Nat → Int32) (o : Nat → Nat) (q b : Fld) (c bc n : Nat) (ar fi re : Int32) (p0 p1 p2 : Int32) (hc : c < 6) (ho : ∀ i, i < c → o i < c) (sz : Nat) : zM l yX1_addWeir wsX1_addWeir { frames := 3, cells := 0, slots := 0, locals := 68 } D y [.ref (E 0), .int p0, .int p1, .int p2] (eW E y t o q b c bc n ar fi re) sz (some (.int (nI c))) (eW E y t (insE q p0 c c o) (newW q c p0 p1 p2) b (c + 1) bc n ar fi re) 0 0 := by
  refine zM.ofH (cc := cX1_addWeir) (maxL := 6) (ret := (some .int)) (own := RX1) (by decide) rfl (Nat.le_of_ble_eq_true rfl) rfl ?_
  intro p e s m args below meth cd ls A H locs hx hb hr hml hown hts hlocks hP hK hD hA hS hl hin
  have hS0 := hS
  have hl : lv_has ls 6 [(0, .ref (E 0)), (1, .int p0), (2, .int p1), (3, .int p2)] := hl
  have hf39 : (Cond.fieldLink RX1 39 "StakeWeirs$Estuary" "weirCount" "I").before args s = true := hts _ (by decide +kernel)
  have hinX1 : ∀ w ∈ wsX10, w ∈ wsX1_addWeir := by decide +kernel
  refine lv_aload_n hx hb dX1_addWeir_0 rfl (lv_at hl 0 rfl) ?_
  refine va_get (D := D) (ci := 1) (v := .int (nI c)) (C := RX1) (T := TX1) (N := 10) hx hb hts hinX1 hown hK hP (0) rfl rfl 4 (by decide) hf39 (fun _ h9 => h9) rfl dX1_addWeir_1 ?_
  refine lv_istore (lv' := [(4, .int (nI c)), (0, .ref (E 0)), (1, .int p0), (2, .int p1), (3, .int p2)]) hx hb dX1_addWeir_4 hl (by decide) rfl (fun ls hl => ?_)
  refine lv_aload_n hx hb dX1_addWeir_6 rfl (lv_at hl 1 rfl) ?_
  refine lv_iload hx hb dX1_addWeir_7 (lv_at hl 0 rfl) ?_
  refine lv_iload_n hx hb dX1_addWeir_9 rfl (lv_at hl 2 rfl) ?_
  refine zcMV (As := [.int (nI c), .int p0]) (rest := []) (st1 := []) (cells1 := 0) (slots1 := 0) ⟨hx, hb, hml, hown, hts⟩ (c_X1_putInOrder l D y E t o q b c bc n ar fi re p0 (by omega) ho _) (cwV 2 hts gX1_addWeir_X1_putInOrder rfl rfl rfl (by decide +kernel) ⟨Nat.le_of_ble_eq_true rfl, Nat.le_of_ble_eq_true rfl⟩) hK hP (z_D_T hD) (ci := 1) (q0 := 0) rfl rfl rfl rfl hl.1 rfl (lv_room (Nat.le_of_ble_eq_true rfl)) dX1_addWeir_10 hS (z_sub_F hD hS hA z_in_r) ⟨Nat.le_of_ble_eq_true rfl, Nat.le_of_ble_eq_true rfl⟩ rfl rfl rfl (fun H locs hP1 hz hfr hS => ?_)
  have hD := z_D_adr hD (show (eW E y t (insE q p0 c c o) q b c bc n ar fi re).map Prod.fst = _ from rfl)
  have hP := hP1
  refine lv_aload_n hx hb dX1_addWeir_13 rfl (lv_at hl 1 rfl) ?_
  refine lv_dup hx hb dX1_addWeir_14 rfl ?_
  refine va_get (D := D) (ci := 1) (v := .int (nI c)) (C := RX1) (T := TX1) (N := 10) hx hb hts hinX1 hown hK hP (0) rfl rfl 4 (by decide) hf39 (fun _ h9 => h9) rfl dX1_addWeir_15 ?_
  refine lv_iconst (v := 1) hx hb dX1_addWeir_18 (by decide) ?_
  refine lv_iadd hx hb dX1_addWeir_19 ?_
  refine zt_i (x' := nI (c + 1)) (nI_1 _) ?_
  refine va_put (D := D) (ci := 1) (v := .int (nI (c + 1))) (ty := .int) (C := RX1) (T := TX1) (N := 10) hx hb hts hinX1 tyX1 tyX1_ok nmX1 hown hK hP hD hS (0) rfl rfl 4 (by decide) hf39 (fun _ h9 => h9) rfl (by decide +kernel) rfl rfl (Nat.le_of_ble_eq_true rfl) dX1_addWeir_20 (fun H locs hP hD hS => ?_)
  have hP : va_P D vwCl (eW E y t (insE q p0 c c o) q b (c + 1) bc n ar fi re) H := hP
  have hD : va_D A (eW E y t (insE q p0 c c o) q b (c + 1) bc n ar fi re) := hD
  refine lv_aload_n hx hb dX1_addWeir_23 rfl (lv_at hl 1 rfl) ?_
  refine lv_iload hx hb dX1_addWeir_24 (lv_at hl 0 rfl) ?_
  refine zcRV (As := [.int (nI c)]) (rest := []) (st1 := [.ref (E (5 + c))]) ⟨hx, hb, hml, hown, hts⟩ (c_X1_weirAt l D y E t (insE q p0 c c o) q b (c + 1) bc n ar fi re c (by omega) (by omega)) (cwV 1 hts gX1_addWeir_X1_weirAt rfl rfl rfl (by decide +kernel) ⟨Nat.le_of_ble_eq_true rfl, Nat.le_of_ble_eq_true rfl⟩) hK hP (ci := 1) (q0 := 0) rfl rfl rfl rfl hl.1 rfl (lv_room (Nat.le_of_ble_eq_true rfl)) dX1_addWeir_26 ⟨Nat.le_of_ble_eq_true rfl, Nat.le_of_ble_eq_true rfl⟩ rfl ?_
  refine lv_astore (lv' := [(5, .ref (E (5 + c))), (4, .int (nI c)), (0, .ref (E 0)), (1, .int p0), (2, .int p1), (3, .int p2)]) hx hb dX1_addWeir_29 hl (by decide) rfl (fun ls hl => ?_)
  refine lv_aload hx hb dX1_addWeir_31 (lv_at hl 0 rfl) ?_
  refine lv_ifnull hx hb dX1_addWeir_33 ?_
  refine lv_aload hx hb dX1_addWeir_36 (lv_at hl 0 rfl) ?_
  refine lv_iload_n hx hb dX1_addWeir_38 rfl (lv_at hl 3 rfl) ?_
  refine lv_iload_n hx hb dX1_addWeir_39 rfl (lv_at hl 4 rfl) ?_
  refine lv_iload_n hx hb dX1_addWeir_40 rfl (lv_at hl 5 rfl) ?_
  refine zcMV (As := [.int p0, .int p1, .int p2]) (rest := []) (st1 := []) (cells1 := 0) (slots1 := 0) ⟨hx, hb, hml, hown, hts⟩ (c_X2_makeNew l D y (E (5 + c)) q c p0 p1 p2 _) (cwV 3 hts gX1_addWeir_X2_makeNew rfl rfl rfl (by decide +kernel) ⟨Nat.le_of_ble_eq_true rfl, Nat.le_of_ble_eq_true rfl⟩) hK (z_sub_P hP (z_in_1 (k := 5 + c) (eW_w (by omega)))) z_D_1 (ci := 2) (q0 := 0) rfl rfl rfl rfl hl.1 rfl (lv_room (Nat.le_of_ble_eq_true rfl)) dX1_addWeir_41 hS (z_sub_F hD hS hA (z_in_1 (k := 5 + c) (eW_w (by omega)))) ⟨Nat.le_of_ble_eq_true rfl, Nat.le_of_ble_eq_true rfl⟩ rfl rfl rfl (fun H locs hP1 hz hfr hS => ?_)
  obtain ⟨hP, hD⟩ := z_one hP hD (k := 5 + c) (eW_w (by omega)) (eW_setw (by omega) (fun j i h => newW_k _ _ _ _ _ _ _ h)) hP1 hfr
  have hP : va_P D vwCl (eW E y t (insE q p0 c c o) (newW q c p0 p1 p2) b (c + 1) bc n ar fi re) H := hP
  have hD : va_D A (eW E y t (insE q p0 c c o) (newW q c p0 p1 p2) b (c + 1) bc n ar fi re) := hD
  refine lv_iload hx hb dX1_addWeir_44 (lv_at hl 1 rfl) ?_
  exact zM_i hx hb hr hlocks hS dX1_addWeir_46 rfl hP
set_option maxHeartbeats 4000000 in
set_option maxRecDepth 100000 in
theorem c_X1_addBarge (l : Launch) (D : va_G) (y : Nat → ClassId) (E : Nat → Nat) (t : Nat → Int32) (o : Nat → Nat) (q b : Fld) (c bc n : Nat) (ar fi re : Int32) (x : Int32) (hbc : bc < 5) (sz : Nat) : zM l yX1_addBarge wsX1_addBarge { frames := 1, cells := 0, slots := 0, locals := 22 } D y [.ref (E 0), .int x] (eW E y t o q b c bc n ar fi re) sz (some (.int (nI bc))) (eW E y t o q (newB b bc (ar + nI bc) x) c (bc + 1) n ar fi re) 0 0 := by
  refine zM.ofH (cc := cX1_addBarge) (maxL := 4) (ret := (some .int)) (own := RX1) (by decide) rfl (Nat.le_of_ble_eq_true rfl) rfl ?_
  intro p e s m args below meth cd ls A H locs hx hb hr hml hown hts hlocks hP hK hD hA hS hl hin
  have hS0 := hS
  have hl : lv_has ls 4 [(0, .ref (E 0)), (1, .int x)] := hl
  have hf51 : (Cond.fieldLink RX1 51 "StakeWeirs$Estuary" "bargeCount" "I").before args s = true := hts _ (by decide +kernel)
  have hinX1 : ∀ w ∈ wsX10, w ∈ wsX1_addBarge := by decide +kernel
  have hf65 : (Cond.fieldLink RX1 65 "StakeWeirs$Estuary" "arrived" "I").before args s = true := hts _ (by decide +kernel)
  refine lv_aload_n hx hb dX1_addBarge_0 rfl (lv_at hl 0 rfl) ?_
  refine va_get (D := D) (ci := 1) (v := .int (nI bc)) (C := RX1) (T := TX1) (N := 10) hx hb hts hinX1 hown hK hP (0) rfl rfl 5 (by decide) hf51 (fun _ h9 => h9) rfl dX1_addBarge_1 ?_
  refine lv_istore_n (lv' := [(2, .int (nI bc)), (0, .ref (E 0)), (1, .int x)]) hx hb dX1_addBarge_4 rfl hl (by decide) rfl (fun ls hl => ?_)
  refine lv_aload_n hx hb dX1_addBarge_5 rfl (lv_at hl 1 rfl) ?_
  refine lv_dup hx hb dX1_addBarge_6 rfl ?_
  refine va_get (D := D) (ci := 1) (v := .int (nI bc)) (C := RX1) (T := TX1) (N := 10) hx hb hts hinX1 hown hK hP (0) rfl rfl 5 (by decide) hf51 (fun _ h9 => h9) rfl dX1_addBarge_7 ?_
  refine lv_iconst (v := 1) hx hb dX1_addBarge_10 (by decide) ?_
  refine lv_iadd hx hb dX1_addBarge_11 ?_
  refine zt_i (x' := nI (bc + 1)) (nI_1 _) ?_
  refine va_put (D := D) (ci := 1) (v := .int (nI (bc + 1))) (ty := .int) (C := RX1) (T := TX1) (N := 10) hx hb hts hinX1 tyX1 tyX1_ok nmX1 hown hK hP hD hS (0) rfl rfl 5 (by decide) hf51 (fun _ h9 => h9) rfl (by decide +kernel) rfl rfl (Nat.le_of_ble_eq_true rfl) dX1_addBarge_12 (fun H locs hP hD hS => ?_)
  have hP : va_P D vwCl (eW E y t o q b c (bc + 1) n ar fi re) H := hP
  have hD : va_D A (eW E y t o q b c (bc + 1) n ar fi re) := hD
  refine lv_aload_n hx hb dX1_addBarge_15 rfl (lv_at hl 1 rfl) ?_
  refine lv_iload_n hx hb dX1_addBarge_16 rfl (lv_at hl 0 rfl) ?_
  refine zcRV (As := [.int (nI bc)]) (rest := []) (st1 := [.ref (E (11 + bc))]) ⟨hx, hb, hml, hown, hts⟩ (c_X1_bargeAt l D y E t o q b c (bc + 1) n ar fi re bc (by omega) (by omega)) (cwV 1 hts gX1_addBarge_X1_bargeAt rfl rfl rfl (by decide +kernel) ⟨Nat.le_of_ble_eq_true rfl, Nat.le_of_ble_eq_true rfl⟩) hK hP (ci := 1) (q0 := 0) rfl rfl rfl rfl hl.1 rfl (lv_room (Nat.le_of_ble_eq_true rfl)) dX1_addBarge_17 ⟨Nat.le_of_ble_eq_true rfl, Nat.le_of_ble_eq_true rfl⟩ rfl ?_
  refine lv_astore_n (lv' := [(3, .ref (E (11 + bc))), (2, .int (nI bc)), (0, .ref (E 0)), (1, .int x)]) hx hb dX1_addBarge_20 rfl hl (by decide) rfl (fun ls hl => ?_)
  refine lv_aload_n hx hb dX1_addBarge_21 rfl (lv_at hl 0 rfl) ?_
  refine lv_ifnull hx hb dX1_addBarge_22 ?_
  refine lv_aload_n hx hb dX1_addBarge_25 rfl (lv_at hl 0 rfl) ?_
  refine lv_aload_n hx hb dX1_addBarge_26 rfl (lv_at hl 2 rfl) ?_
  refine va_get (D := D) (ci := 1) (v := .int ar) (C := RX1) (T := TX1) (N := 10) hx hb hts hinX1 hown hK hP (0) rfl rfl 7 (by decide) hf65 (fun _ h9 => h9) rfl dX1_addBarge_27 ?_
  refine lv_iload_n hx hb dX1_addBarge_30 rfl (lv_at hl 1 rfl) ?_
  refine lv_iadd hx hb dX1_addBarge_31 ?_
  refine lv_iload_n hx hb dX1_addBarge_32 rfl (lv_at hl 3 rfl) ?_
  refine zcMV (As := [.int ((ar + nI bc)), .int x]) (rest := []) (st1 := []) (cells1 := 0) (slots1 := 0) ⟨hx, hb, hml, hown, hts⟩ (c_X0_makeNew l D y (E (11 + bc)) b bc (ar + nI bc) x _) (cwV 2 hts gX1_addBarge_X0_makeNew rfl rfl rfl (by decide +kernel) ⟨Nat.le_of_ble_eq_true rfl, Nat.le_of_ble_eq_true rfl⟩) hK (z_sub_P hP (z_in_1 (k := 11 + bc) (eW_b (by omega)))) z_D_1 (ci := 0) (q0 := 0) rfl rfl rfl rfl hl.1 rfl (lv_room (Nat.le_of_ble_eq_true rfl)) dX1_addBarge_33 hS (z_sub_F hD hS hA (z_in_1 (k := 11 + bc) (eW_b (by omega)))) ⟨Nat.le_of_ble_eq_true rfl, Nat.le_of_ble_eq_true rfl⟩ rfl rfl rfl (fun H locs hP1 hz hfr hS => ?_)
  obtain ⟨hP, hD⟩ := z_one hP hD (k := 11 + bc) (eW_b (by omega)) (eW_setb (by omega) (fun j i h => newB_k _ _ _ _ _ _ h)) hP1 hfr
  have hP : va_P D vwCl (eW E y t o q (newB b bc (ar + nI bc) x) c (bc + 1) n ar fi re) H := hP
  have hD : va_D A (eW E y t o q (newB b bc (ar + nI bc) x) c (bc + 1) n ar fi re) := hD
  refine lv_iload_n hx hb dX1_addBarge_36 rfl (lv_at hl 1 rfl) ?_
  exact zM_i hx hb hr hlocks hS dX1_addBarge_37 rfl hP
set_option maxHeartbeats 4000000 in
set_option maxRecDepth 100000 in
theorem c_X1_copyFrom (l : Launch) (D : va_G) (y : Nat → ClassId) (E : Nat → Nat) (t : Nat → Int32) (o : Nat → Nat) (q b : Fld) (c bc n : Nat) (ar fi re : Int32) (E2 : Nat → Nat) (tv : Nat → Int32) (ov : Nat → Nat) (qv bv : Fld) (cv bcv nv : Nat) (arv fiv rev : Int32) (hc : cv ≤ 6) (hbc : bcv ≤ 5) (h01 : ∀ i, i < cv → qv 6 i = 0 ∨ qv 6 i = 1) (sz : Nat) : zM l yX1_copyFrom wsX1_copyFrom { frames := 2, cells := 0, slots := 0, locals := 42 } D y [.ref (E 0), .ref (E2 0)] (eW E y t o q b c bc n ar fi re ++ eW E2 y tv ov qv bv cv bcv nv arv fiv rev) sz (none) (eW E y (cpN 7 tv t) (cpN 6 ov o) (cp2 cv qv q) (cp2 bcv bv b) cv bcv nv arv fiv rev ++ eW E2 y tv ov qv bv cv bcv nv arv fiv rev) 0 0 := by
  refine zM.ofH (cc := cX1_copyFrom) (maxL := 3) (ret := none) (own := RX1) (by decide) rfl (Nat.le_of_ble_eq_true rfl) rfl ?_
  intro p e s m args below meth cd ls A H locs hx hb hr hml hown hts hlocks hP hK hD hA hS hl hin
  have hS0 := hS
  have hl : lv_has ls 3 [(0, .ref (E 0)), (1, .ref (E2 0))] := hl
  have hf9 : (Cond.fieldLink RX1 9 "StakeWeirs$Estuary" "table" "[I").before args s = true := hts _ (by decide +kernel)
  have hinX1 : ∀ w ∈ wsX10, w ∈ wsX1_copyFrom := by decide +kernel
  have hf15 : (Cond.fieldLink RX1 15 "StakeWeirs$Estuary" "order" "[I").before args s = true := hts _ (by decide +kernel)
  have hf39 : (Cond.fieldLink RX1 39 "StakeWeirs$Estuary" "weirCount" "I").before args s = true := hts _ (by decide +kernel)
  have hf51 : (Cond.fieldLink RX1 51 "StakeWeirs$Estuary" "bargeCount" "I").before args s = true := hts _ (by decide +kernel)
  have hf62 : (Cond.fieldLink RX1 62 "StakeWeirs$Estuary" "night" "I").before args s = true := hts _ (by decide +kernel)
  have hf65 : (Cond.fieldLink RX1 65 "StakeWeirs$Estuary" "arrived" "I").before args s = true := hts _ (by decide +kernel)
  have hf68 : (Cond.fieldLink RX1 68 "StakeWeirs$Estuary" "fines" "I").before args s = true := hts _ (by decide +kernel)
  have hf71 : (Cond.fieldLink RX1 71 "StakeWeirs$Estuary" "rents" "I").before args s = true := hts _ (by decide +kernel)
  refine lv_iconst (v := 0) hx hb dX1_copyFrom_0 (by decide) ?_
  refine lv_istore_n (lv' := [(2, .int 0), (0, .ref (E 0)), (1, .ref (E2 0))]) hx hb dX1_copyFrom_1 rfl hl (by decide) rfl (fun ls hl => ?_)
  have hP : va_P D vwCl (eW E y (cpN 0 tv t) o q b c bc n ar fi re ++ eW E2 y tv ov qv bv cv bcv nv arv fiv rev) H := by rw [cpN_0]; exact hP
  have hD : va_D A (eW E y (cpN 0 tv t) o q b c bc n ar fi re ++ eW E2 y tv ov qv bv cv bcv nv arv fiv rev) := by rw [cpN_0]; exact hD
  have loop1 : ∀ k, k ≤ 7 → ∀ (H : Heap) (locs : List Loc) (ls : Array Slot), va_P D vwCl (eW E y (cpN k tv t) o q b c bc n ar fi re ++ eW E2 y tv ov qv bv cv bcv nv arv fiv rev) H → va_D A (eW E y (cpN k tv t) o q b c bc n ar fi re ++ eW E2 y tv ov qv bv cv bcv nv arv fiv rev) → va_S A s.heap H locs → lv_has ls 3 [(2, .int (nI k)), (0, .ref (E 0)), (1, .ref (E2 0))] → W p l e ({ frames := 2, cells := 0, slots := 0, locals := 42 } : Room) s m args below meth cd H locs 0 0 (MQ below (zMQ (none) D (eW E y (cpN 7 tv t) (cpN 6 ov o) (cp2 cv qv q) (cp2 bcv bv b) cv bcv nv arv fiv rev ++ eW E2 y tv ov qv bv cv bcv nv arv fiv rev) A) args s 0 0 A) (F0 m 2 ls []) := by
    refine down ?_ ?_
    · intro H locs ls hP hD hS hl
      refine lv_iload_n hx hb dX1_copyFrom_2 rfl (lv_at hl 0 rfl) ?_
      refine lv_aload_n hx hb dX1_copyFrom_3 rfl (lv_at hl 1 rfl) ?_
      refine va_get (D := D) (ci := 1) (v := .ref (E 1)) (C := RX1) (T := TX1) (N := 10) hx hb hts hinX1 hown hK hP (0) (z_apl rfl) rfl 0 (by decide) hf9 (fun _ h9 => h9) rfl dX1_copyFrom_4 ?_
      refine va_alen hx hb hK hP 1 0 (v := nI 7) rfl rfl rfl dX1_copyFrom_7 ?_
      refine lv_icmp_ge (tgt := 28) hx hb dX1_copyFrom_8 (by decide) (fun c2 => ?_) (fun c2 => ?_)
      · have d2 := Int32.not_lt.mpr c2
        refine lv_iconst (v := 0) hx hb dX1_copyFrom_28 (by decide) ?_
        refine lv_istore_n (lv' := [(2, .int 0), (0, .ref (E 0)), (1, .ref (E2 0))]) hx hb dX1_copyFrom_29 rfl hl (by decide) rfl (fun ls hl => ?_)
        have hP : va_P D vwCl (eW E y (cpN 7 tv t) (cpN 0 ov o) q b c bc n ar fi re ++ eW E2 y tv ov qv bv cv bcv nv arv fiv rev) H := by rw [cpN_0]; exact hP
        have hD : va_D A (eW E y (cpN 7 tv t) (cpN 0 ov o) q b c bc n ar fi re ++ eW E2 y tv ov qv bv cv bcv nv arv fiv rev) := by rw [cpN_0]; exact hD
        have loop3 : ∀ k, k ≤ 6 → ∀ (H : Heap) (locs : List Loc) (ls : Array Slot), va_P D vwCl (eW E y (cpN 7 tv t) (cpN k ov o) q b c bc n ar fi re ++ eW E2 y tv ov qv bv cv bcv nv arv fiv rev) H → va_D A (eW E y (cpN 7 tv t) (cpN k ov o) q b c bc n ar fi re ++ eW E2 y tv ov qv bv cv bcv nv arv fiv rev) → va_S A s.heap H locs → lv_has ls 3 [(2, .int (nI k)), (0, .ref (E 0)), (1, .ref (E2 0))] → W p l e ({ frames := 2, cells := 0, slots := 0, locals := 42 } : Room) s m args below meth cd H locs 0 0 (MQ below (zMQ (none) D (eW E y (cpN 7 tv t) (cpN 6 ov o) (cp2 cv qv q) (cp2 bcv bv b) cv bcv nv arv fiv rev ++ eW E2 y tv ov qv bv cv bcv nv arv fiv rev) A) args s 0 0 A) (F0 m 30 ls []) := by
          refine down ?_ ?_
          · intro H locs ls hP hD hS hl
            refine lv_iload_n hx hb dX1_copyFrom_30 rfl (lv_at hl 0 rfl) ?_
            refine lv_aload_n hx hb dX1_copyFrom_31 rfl (lv_at hl 1 rfl) ?_
            refine va_get (D := D) (ci := 1) (v := .ref (E 3)) (C := RX1) (T := TX1) (N := 10) hx hb hts hinX1 hown hK hP (0) (z_apl rfl) rfl 2 (by decide) hf15 (fun _ h9 => h9) rfl dX1_copyFrom_32 ?_
            refine va_alen hx hb hK hP 3 0 (v := nI 6) rfl rfl rfl dX1_copyFrom_35 ?_
            refine lv_icmp_ge (tgt := 56) hx hb dX1_copyFrom_36 (by decide) (fun c4 => ?_) (fun c4 => ?_)
            · have d4 := Int32.not_lt.mpr c4
              refine lv_aload_n hx hb dX1_copyFrom_56 rfl (lv_at hl 1 rfl) ?_
              refine lv_aload_n hx hb dX1_copyFrom_57 rfl (lv_at hl 2 rfl) ?_
              refine va_get (D := D) (ci := 1) (v := .int (nI cv)) (C := RX1) (T := TX1) (N := 10) hx hb hts hinX1 hown hK hP (16 + (0)) (z_apr rfl rfl) rfl 4 (by decide) hf39 (fun _ h9 => h9) rfl dX1_copyFrom_58 ?_
              refine va_put (D := D) (ci := 1) (v := .int (nI cv)) (ty := .int) (C := RX1) (T := TX1) (N := 10) hx hb hts hinX1 tyX1 tyX1_ok nmX1 hown hK hP hD hS (0) (z_apl rfl) rfl 4 (by decide) hf39 (fun _ h9 => h9) rfl (by decide +kernel) rfl rfl (Nat.le_of_ble_eq_true rfl) dX1_copyFrom_61 (fun H locs hP hD hS => ?_)
              have hP : va_P D vwCl (eW E y (cpN 7 tv t) (cpN 6 ov o) q b cv bc n ar fi re ++ eW E2 y tv ov qv bv cv bcv nv arv fiv rev) H := hP
              have hD : va_D A (eW E y (cpN 7 tv t) (cpN 6 ov o) q b cv bc n ar fi re ++ eW E2 y tv ov qv bv cv bcv nv arv fiv rev) := hD
              refine lv_iconst (v := 0) hx hb dX1_copyFrom_64 (by decide) ?_
              refine lv_istore_n (lv' := [(2, .int 0), (0, .ref (E 0)), (1, .ref (E2 0))]) hx hb dX1_copyFrom_65 rfl hl (by decide) rfl (fun ls hl => ?_)
              have hP : va_P D vwCl (eW E y (cpN 7 tv t) (cpN 6 ov o) (cp2 0 qv q) b cv bc n ar fi re ++ eW E2 y tv ov qv bv cv bcv nv arv fiv rev) H := by rw [cp2_0]; exact hP
              have hD : va_D A (eW E y (cpN 7 tv t) (cpN 6 ov o) (cp2 0 qv q) b cv bc n ar fi re ++ eW E2 y tv ov qv bv cv bcv nv arv fiv rev) := by rw [cp2_0]; exact hD
              have loop5 : ∀ k, k ≤ cv → ∀ (H : Heap) (locs : List Loc) (ls : Array Slot), va_P D vwCl (eW E y (cpN 7 tv t) (cpN 6 ov o) (cp2 k qv q) b cv bc n ar fi re ++ eW E2 y tv ov qv bv cv bcv nv arv fiv rev) H → va_D A (eW E y (cpN 7 tv t) (cpN 6 ov o) (cp2 k qv q) b cv bc n ar fi re ++ eW E2 y tv ov qv bv cv bcv nv arv fiv rev) → va_S A s.heap H locs → lv_has ls 3 [(2, .int (nI k)), (0, .ref (E 0)), (1, .ref (E2 0))] → W p l e ({ frames := 2, cells := 0, slots := 0, locals := 42 } : Room) s m args below meth cd H locs 0 0 (MQ below (zMQ (none) D (eW E y (cpN 7 tv t) (cpN 6 ov o) (cp2 cv qv q) (cp2 bcv bv b) cv bcv nv arv fiv rev ++ eW E2 y tv ov qv bv cv bcv nv arv fiv rev) A) args s 0 0 A) (F0 m 66 ls []) := by
                refine down ?_ ?_
                · intro H locs ls hP hD hS hl
                  refine lv_iload_n hx hb dX1_copyFrom_66 rfl (lv_at hl 0 rfl) ?_
                  refine lv_aload_n hx hb dX1_copyFrom_67 rfl (lv_at hl 1 rfl) ?_
                  refine va_get (D := D) (ci := 1) (v := .int (nI cv)) (C := RX1) (T := TX1) (N := 10) hx hb hts hinX1 hown hK hP (0) (z_apl rfl) rfl 4 (by decide) hf39 (fun _ h9 => h9) rfl dX1_copyFrom_68 ?_
                  refine lv_icmp_ge (tgt := 93) hx hb dX1_copyFrom_71 (by decide) (fun c6 => ?_) (fun c6 => ?_)
                  · have d6 := Int32.not_lt.mpr c6
                    refine lv_aload_n hx hb dX1_copyFrom_93 rfl (lv_at hl 1 rfl) ?_
                    refine lv_aload_n hx hb dX1_copyFrom_94 rfl (lv_at hl 2 rfl) ?_
                    refine va_get (D := D) (ci := 1) (v := .int (nI bcv)) (C := RX1) (T := TX1) (N := 10) hx hb hts hinX1 hown hK hP (16 + (0)) (z_apr rfl rfl) rfl 5 (by decide) hf51 (fun _ h9 => h9) rfl dX1_copyFrom_95 ?_
                    refine va_put (D := D) (ci := 1) (v := .int (nI bcv)) (ty := .int) (C := RX1) (T := TX1) (N := 10) hx hb hts hinX1 tyX1 tyX1_ok nmX1 hown hK hP hD hS (0) (z_apl rfl) rfl 5 (by decide) hf51 (fun _ h9 => h9) rfl (by decide +kernel) rfl rfl (Nat.le_of_ble_eq_true rfl) dX1_copyFrom_98 (fun H locs hP hD hS => ?_)
                    have hP : va_P D vwCl (eW E y (cpN 7 tv t) (cpN 6 ov o) (cp2 cv qv q) b cv bcv n ar fi re ++ eW E2 y tv ov qv bv cv bcv nv arv fiv rev) H := hP
                    have hD : va_D A (eW E y (cpN 7 tv t) (cpN 6 ov o) (cp2 cv qv q) b cv bcv n ar fi re ++ eW E2 y tv ov qv bv cv bcv nv arv fiv rev) := hD
                    refine lv_iconst (v := 0) hx hb dX1_copyFrom_101 (by decide) ?_
                    refine lv_istore_n (lv' := [(2, .int 0), (0, .ref (E 0)), (1, .ref (E2 0))]) hx hb dX1_copyFrom_102 rfl hl (by decide) rfl (fun ls hl => ?_)
                    have hP : va_P D vwCl (eW E y (cpN 7 tv t) (cpN 6 ov o) (cp2 cv qv q) (cp2 0 bv b) cv bcv n ar fi re ++ eW E2 y tv ov qv bv cv bcv nv arv fiv rev) H := by rw [cp2_0]; exact hP
                    have hD : va_D A (eW E y (cpN 7 tv t) (cpN 6 ov o) (cp2 cv qv q) (cp2 0 bv b) cv bcv n ar fi re ++ eW E2 y tv ov qv bv cv bcv nv arv fiv rev) := by rw [cp2_0]; exact hD
                    have loop7 : ∀ k, k ≤ bcv → ∀ (H : Heap) (locs : List Loc) (ls : Array Slot), va_P D vwCl (eW E y (cpN 7 tv t) (cpN 6 ov o) (cp2 cv qv q) (cp2 k bv b) cv bcv n ar fi re ++ eW E2 y tv ov qv bv cv bcv nv arv fiv rev) H → va_D A (eW E y (cpN 7 tv t) (cpN 6 ov o) (cp2 cv qv q) (cp2 k bv b) cv bcv n ar fi re ++ eW E2 y tv ov qv bv cv bcv nv arv fiv rev) → va_S A s.heap H locs → lv_has ls 3 [(2, .int (nI k)), (0, .ref (E 0)), (1, .ref (E2 0))] → W p l e ({ frames := 2, cells := 0, slots := 0, locals := 42 } : Room) s m args below meth cd H locs 0 0 (MQ below (zMQ (none) D (eW E y (cpN 7 tv t) (cpN 6 ov o) (cp2 cv qv q) (cp2 bcv bv b) cv bcv nv arv fiv rev ++ eW E2 y tv ov qv bv cv bcv nv arv fiv rev) A) args s 0 0 A) (F0 m 103 ls []) := by
                      refine down ?_ ?_
                      · intro H locs ls hP hD hS hl
                        refine lv_iload_n hx hb dX1_copyFrom_103 rfl (lv_at hl 0 rfl) ?_
                        refine lv_aload_n hx hb dX1_copyFrom_104 rfl (lv_at hl 1 rfl) ?_
                        refine va_get (D := D) (ci := 1) (v := .int (nI bcv)) (C := RX1) (T := TX1) (N := 10) hx hb hts hinX1 hown hK hP (0) (z_apl rfl) rfl 5 (by decide) hf51 (fun _ h9 => h9) rfl dX1_copyFrom_105 ?_
                        refine lv_icmp_ge (tgt := 130) hx hb dX1_copyFrom_108 (by decide) (fun c8 => ?_) (fun c8 => ?_)
                        · have d8 := Int32.not_lt.mpr c8
                          refine lv_aload_n hx hb dX1_copyFrom_130 rfl (lv_at hl 1 rfl) ?_
                          refine lv_aload_n hx hb dX1_copyFrom_131 rfl (lv_at hl 2 rfl) ?_
                          refine va_get (D := D) (ci := 1) (v := .int (nI nv)) (C := RX1) (T := TX1) (N := 10) hx hb hts hinX1 hown hK hP (16 + (0)) (z_apr rfl rfl) rfl 6 (by decide) hf62 (fun _ h9 => h9) rfl dX1_copyFrom_132 ?_
                          refine va_put (D := D) (ci := 1) (v := .int (nI nv)) (ty := .int) (C := RX1) (T := TX1) (N := 10) hx hb hts hinX1 tyX1 tyX1_ok nmX1 hown hK hP hD hS (0) (z_apl rfl) rfl 6 (by decide) hf62 (fun _ h9 => h9) rfl (by decide +kernel) rfl rfl (Nat.le_of_ble_eq_true rfl) dX1_copyFrom_135 (fun H locs hP hD hS => ?_)
                          have hP : va_P D vwCl (eW E y (cpN 7 tv t) (cpN 6 ov o) (cp2 cv qv q) (cp2 bcv bv b) cv bcv nv ar fi re ++ eW E2 y tv ov qv bv cv bcv nv arv fiv rev) H := hP
                          have hD : va_D A (eW E y (cpN 7 tv t) (cpN 6 ov o) (cp2 cv qv q) (cp2 bcv bv b) cv bcv nv ar fi re ++ eW E2 y tv ov qv bv cv bcv nv arv fiv rev) := hD
                          refine lv_aload_n hx hb dX1_copyFrom_138 rfl (lv_at hl 1 rfl) ?_
                          refine lv_aload_n hx hb dX1_copyFrom_139 rfl (lv_at hl 2 rfl) ?_
                          refine va_get (D := D) (ci := 1) (v := .int arv) (C := RX1) (T := TX1) (N := 10) hx hb hts hinX1 hown hK hP (16 + (0)) (z_apr rfl rfl) rfl 7 (by decide) hf65 (fun _ h9 => h9) rfl dX1_copyFrom_140 ?_
                          refine va_put (D := D) (ci := 1) (v := .int arv) (ty := .int) (C := RX1) (T := TX1) (N := 10) hx hb hts hinX1 tyX1 tyX1_ok nmX1 hown hK hP hD hS (0) (z_apl rfl) rfl 7 (by decide) hf65 (fun _ h9 => h9) rfl (by decide +kernel) rfl rfl (Nat.le_of_ble_eq_true rfl) dX1_copyFrom_143 (fun H locs hP hD hS => ?_)
                          have hP : va_P D vwCl (eW E y (cpN 7 tv t) (cpN 6 ov o) (cp2 cv qv q) (cp2 bcv bv b) cv bcv nv arv fi re ++ eW E2 y tv ov qv bv cv bcv nv arv fiv rev) H := hP
                          have hD : va_D A (eW E y (cpN 7 tv t) (cpN 6 ov o) (cp2 cv qv q) (cp2 bcv bv b) cv bcv nv arv fi re ++ eW E2 y tv ov qv bv cv bcv nv arv fiv rev) := hD
                          refine lv_aload_n hx hb dX1_copyFrom_146 rfl (lv_at hl 1 rfl) ?_
                          refine lv_aload_n hx hb dX1_copyFrom_147 rfl (lv_at hl 2 rfl) ?_
                          refine va_get (D := D) (ci := 1) (v := .int fiv) (C := RX1) (T := TX1) (N := 10) hx hb hts hinX1 hown hK hP (16 + (0)) (z_apr rfl rfl) rfl 8 (by decide) hf68 (fun _ h9 => h9) rfl dX1_copyFrom_148 ?_
                          refine va_put (D := D) (ci := 1) (v := .int fiv) (ty := .int) (C := RX1) (T := TX1) (N := 10) hx hb hts hinX1 tyX1 tyX1_ok nmX1 hown hK hP hD hS (0) (z_apl rfl) rfl 8 (by decide) hf68 (fun _ h9 => h9) rfl (by decide +kernel) rfl rfl (Nat.le_of_ble_eq_true rfl) dX1_copyFrom_151 (fun H locs hP hD hS => ?_)
                          have hP : va_P D vwCl (eW E y (cpN 7 tv t) (cpN 6 ov o) (cp2 cv qv q) (cp2 bcv bv b) cv bcv nv arv fiv re ++ eW E2 y tv ov qv bv cv bcv nv arv fiv rev) H := hP
                          have hD : va_D A (eW E y (cpN 7 tv t) (cpN 6 ov o) (cp2 cv qv q) (cp2 bcv bv b) cv bcv nv arv fiv re ++ eW E2 y tv ov qv bv cv bcv nv arv fiv rev) := hD
                          refine lv_aload_n hx hb dX1_copyFrom_154 rfl (lv_at hl 1 rfl) ?_
                          refine lv_aload_n hx hb dX1_copyFrom_155 rfl (lv_at hl 2 rfl) ?_
                          refine va_get (D := D) (ci := 1) (v := .int rev) (C := RX1) (T := TX1) (N := 10) hx hb hts hinX1 hown hK hP (16 + (0)) (z_apr rfl rfl) rfl 9 (by decide) hf71 (fun _ h9 => h9) rfl dX1_copyFrom_156 ?_
                          refine va_put (D := D) (ci := 1) (v := .int rev) (ty := .int) (C := RX1) (T := TX1) (N := 10) hx hb hts hinX1 tyX1 tyX1_ok nmX1 hown hK hP hD hS (0) (z_apl rfl) rfl 9 (by decide) hf71 (fun _ h9 => h9) rfl (by decide +kernel) rfl rfl (Nat.le_of_ble_eq_true rfl) dX1_copyFrom_159 (fun H locs hP hD hS => ?_)
                          have hP : va_P D vwCl (eW E y (cpN 7 tv t) (cpN 6 ov o) (cp2 cv qv q) (cp2 bcv bv b) cv bcv nv arv fiv rev ++ eW E2 y tv ov qv bv cv bcv nv arv fiv rev) H := hP
                          have hD : va_D A (eW E y (cpN 7 tv t) (cpN 6 ov o) (cp2 cv qv q) (cp2 bcv bv b) cv bcv nv arv fiv rev ++ eW E2 y tv ov qv bv cv bcv nv arv fiv rev) := hD
                          exact zM_v hx hb hr hlocks hS dX1_copyFrom_162 rfl hP
                        · exact absurd (nI_le (a := bcv) (b := bcv) (by omega) (by omega)) c8
                      · intro k hkk ihk H locs ls hP hD hS hl
                        refine lv_iload_n hx hb dX1_copyFrom_103 rfl (lv_at hl 0 rfl) ?_
                        refine lv_aload_n hx hb dX1_copyFrom_104 rfl (lv_at hl 1 rfl) ?_
                        refine va_get (D := D) (ci := 1) (v := .int (nI bcv)) (C := RX1) (T := TX1) (N := 10) hx hb hts hinX1 hown hK hP (0) (z_apl rfl) rfl 5 (by decide) hf51 (fun _ h9 => h9) rfl dX1_copyFrom_105 ?_
                        refine lv_icmp_ge (tgt := 130) hx hb dX1_copyFrom_108 (by decide) (fun c9 => ?_) (fun c9 => ?_)
                        · exact absurd c9 (nI_ge (a := k) (b := bcv) (by omega) (by omega))
                        · have d9 := Int32.not_le.mp c9
                          refine lv_aload_n hx hb dX1_copyFrom_111 rfl (lv_at hl 1 rfl) ?_
                          refine lv_iload_n hx hb dX1_copyFrom_112 rfl (lv_at hl 0 rfl) ?_
                          refine zcRV (As := [.int (nI k)]) (rest := []) (st1 := [.ref (E (11 + k))]) ⟨hx, hb, hml, hown, hts⟩ (c_X1_bargeAt l D y E (cpN 7 tv t) (cpN 6 ov o) (cp2 cv qv q) (cp2 k bv b) cv bcv n ar fi re k (by omega) (by omega)) (cwV 1 hts gX1_copyFrom_X1_bargeAt rfl rfl rfl (by decide +kernel) ⟨Nat.le_of_ble_eq_true rfl, Nat.le_of_ble_eq_true rfl⟩) hK (z_sub_P hP (fun z h => List.mem_append_left _ h)) (ci := 1) (q0 := 0) rfl rfl rfl rfl hl.1 rfl (lv_room (Nat.le_of_ble_eq_true rfl)) dX1_copyFrom_113 ⟨Nat.le_of_ble_eq_true rfl, Nat.le_of_ble_eq_true rfl⟩ rfl ?_
                          refine lv_aload_n hx hb dX1_copyFrom_116 rfl (lv_at hl 2 rfl) ?_
                          refine lv_iload_n hx hb dX1_copyFrom_117 rfl (lv_at hl 0 rfl) ?_
                          refine zcRV (As := [.int (nI k)]) (rest := [.ref (E (11 + k))]) (st1 := [.ref (E2 (11 + k)), .ref (E (11 + k))]) ⟨hx, hb, hml, hown, hts⟩ (c_X1_bargeAt l D y E2 tv ov qv bv cv bcv nv arv fiv rev k (by omega) (by omega)) (cwV 1 hts gX1_copyFrom_X1_bargeAt rfl rfl rfl (by decide +kernel) ⟨Nat.le_of_ble_eq_true rfl, Nat.le_of_ble_eq_true rfl⟩) hK (z_sub_P hP (fun z h => List.mem_append_right _ h)) (ci := 1) (q0 := 0) rfl rfl rfl rfl hl.1 rfl (lv_room (Nat.le_of_ble_eq_true rfl)) dX1_copyFrom_118 ⟨Nat.le_of_ble_eq_true rfl, Nat.le_of_ble_eq_true rfl⟩ rfl ?_
                          refine zcMS (As := [.ref (E (11 + k)), .ref (E2 (11 + k))]) (rest := []) (st1 := []) (cells1 := 0) (slots1 := 0) ⟨hx, hb, hml, hown, hts⟩ (c_X1_copyBarge l D y (E (11 + k)) (E2 (11 + k)) (cp2 k bv b) bv k k  _) (cwS 2 hts gX1_copyFrom_X1_copyBarge rfl rfl rfl (by decide +kernel) ⟨Nat.le_of_ble_eq_true rfl, Nat.le_of_ble_eq_true rfl⟩) hK (z_sub_P hP (z_in_2 (i := 11 + k) (j := 16 + (11 + k)) (z_apl (eW_b (by omega))) (z_apr rfl (eW_b (by omega))))) (z_D_2 hD (i := 11 + k) (j := 16 + (11 + k)) (z_apl (eW_b (by omega))) (z_apr rfl (eW_b (by omega))) (by omega)) rfl hl.1 rfl (lv_room (Nat.le_of_ble_eq_true rfl)) dX1_copyFrom_121 hS (z_sub_F hD hS hA (z_in_2 (i := 11 + k) (j := 16 + (11 + k)) (z_apl (eW_b (by omega))) (z_apr rfl (eW_b (by omega))))) ⟨Nat.le_of_ble_eq_true rfl, Nat.le_of_ble_eq_true rfl⟩ rfl rfl rfl (fun H locs hP1 hz hfr hS => ?_)
                          obtain ⟨hP, hD⟩ := z_two hP hD (i := 11 + k) (j := 16 + (11 + k)) (z_apl (eW_b (by omega))) (z_apr rfl (eW_b (by omega))) (by omega) (z_setl (by show 11 + k < 16; omega) (eW_setb (by omega) (fun j i h => cpF_k _ _ _ _ _ _ h))) hP1 hfr
                          refine lv_iinc (v := nI (k + 1)) (lv' := [(2, .int (nI (k + 1))), (0, .ref (E 0)), (1, .ref (E2 0))]) hx hb dX1_copyFrom_124 hl (k := 0) rfl (nI_1 _) (by decide) rfl (fun ls hl => ?_)
                          refine lv_goto (tgt := 103) hx hb dX1_copyFrom_127 (by decide) ?_
                          have e10 : (cp2 (k + 1) bv b) = (cpF (cp2 k bv b) k bv k) := (cp2_s _ _ _).symm
                          refine ihk H locs ls ?_ ?_ hS ?_
                          · first | exact hP | (simp only [e10]; exact hP)
                          · first | exact hD | (simp only [e10]; exact hD)
                          · first | exact lv_sub hl [0, 1, 2] rfl | (simp only [e10]; exact lv_sub hl [0, 1, 2] rfl)
                    exact loop7 0 (Nat.zero_le _) H locs ls hP hD hS (lv_sub hl [0, 1, 2] rfl)
                  · exact absurd (nI_le (a := cv) (b := cv) (by omega) (by omega)) c6
                · intro k hkk ihk H locs ls hP hD hS hl
                  refine lv_iload_n hx hb dX1_copyFrom_66 rfl (lv_at hl 0 rfl) ?_
                  refine lv_aload_n hx hb dX1_copyFrom_67 rfl (lv_at hl 1 rfl) ?_
                  refine va_get (D := D) (ci := 1) (v := .int (nI cv)) (C := RX1) (T := TX1) (N := 10) hx hb hts hinX1 hown hK hP (0) (z_apl rfl) rfl 4 (by decide) hf39 (fun _ h9 => h9) rfl dX1_copyFrom_68 ?_
                  refine lv_icmp_ge (tgt := 93) hx hb dX1_copyFrom_71 (by decide) (fun c11 => ?_) (fun c11 => ?_)
                  · exact absurd c11 (nI_ge (a := k) (b := cv) (by omega) (by omega))
                  · have d11 := Int32.not_le.mp c11
                    refine lv_aload_n hx hb dX1_copyFrom_74 rfl (lv_at hl 1 rfl) ?_
                    refine lv_iload_n hx hb dX1_copyFrom_75 rfl (lv_at hl 0 rfl) ?_
                    refine zcRV (As := [.int (nI k)]) (rest := []) (st1 := [.ref (E (5 + k))]) ⟨hx, hb, hml, hown, hts⟩ (c_X1_weirAt l D y E (cpN 7 tv t) (cpN 6 ov o) (cp2 k qv q) b cv bc n ar fi re k (by omega) (by omega)) (cwV 1 hts gX1_copyFrom_X1_weirAt rfl rfl rfl (by decide +kernel) ⟨Nat.le_of_ble_eq_true rfl, Nat.le_of_ble_eq_true rfl⟩) hK (z_sub_P hP (fun z h => List.mem_append_left _ h)) (ci := 1) (q0 := 0) rfl rfl rfl rfl hl.1 rfl (lv_room (Nat.le_of_ble_eq_true rfl)) dX1_copyFrom_76 ⟨Nat.le_of_ble_eq_true rfl, Nat.le_of_ble_eq_true rfl⟩ rfl ?_
                    refine lv_aload_n hx hb dX1_copyFrom_79 rfl (lv_at hl 2 rfl) ?_
                    refine lv_iload_n hx hb dX1_copyFrom_80 rfl (lv_at hl 0 rfl) ?_
                    refine zcRV (As := [.int (nI k)]) (rest := [.ref (E (5 + k))]) (st1 := [.ref (E2 (5 + k)), .ref (E (5 + k))]) ⟨hx, hb, hml, hown, hts⟩ (c_X1_weirAt l D y E2 tv ov qv bv cv bcv nv arv fiv rev k (by omega) (by omega)) (cwV 1 hts gX1_copyFrom_X1_weirAt rfl rfl rfl (by decide +kernel) ⟨Nat.le_of_ble_eq_true rfl, Nat.le_of_ble_eq_true rfl⟩) hK (z_sub_P hP (fun z h => List.mem_append_right _ h)) (ci := 1) (q0 := 0) rfl rfl rfl rfl hl.1 rfl (lv_room (Nat.le_of_ble_eq_true rfl)) dX1_copyFrom_81 ⟨Nat.le_of_ble_eq_true rfl, Nat.le_of_ble_eq_true rfl⟩ rfl ?_
                    refine zcMS (As := [.ref (E (5 + k)), .ref (E2 (5 + k))]) (rest := []) (st1 := []) (cells1 := 0) (slots1 := 0) ⟨hx, hb, hml, hown, hts⟩ (c_X1_copyWeir l D y (E (5 + k)) (E2 (5 + k)) (cp2 k qv q) qv k k (h01 k hkk) _) (cwS 2 hts gX1_copyFrom_X1_copyWeir rfl rfl rfl (by decide +kernel) ⟨Nat.le_of_ble_eq_true rfl, Nat.le_of_ble_eq_true rfl⟩) hK (z_sub_P hP (z_in_2 (i := 5 + k) (j := 16 + (5 + k)) (z_apl (eW_w (by omega))) (z_apr rfl (eW_w (by omega))))) (z_D_2 hD (i := 5 + k) (j := 16 + (5 + k)) (z_apl (eW_w (by omega))) (z_apr rfl (eW_w (by omega))) (by omega)) rfl hl.1 rfl (lv_room (Nat.le_of_ble_eq_true rfl)) dX1_copyFrom_84 hS (z_sub_F hD hS hA (z_in_2 (i := 5 + k) (j := 16 + (5 + k)) (z_apl (eW_w (by omega))) (z_apr rfl (eW_w (by omega))))) ⟨Nat.le_of_ble_eq_true rfl, Nat.le_of_ble_eq_true rfl⟩ rfl rfl rfl (fun H locs hP1 hz hfr hS => ?_)
                    obtain ⟨hP, hD⟩ := z_two hP hD (i := 5 + k) (j := 16 + (5 + k)) (z_apl (eW_w (by omega))) (z_apr rfl (eW_w (by omega))) (by omega) (z_setl (by show 5 + k < 16; omega) (eW_setw (by omega) (fun j i h => cpF_k _ _ _ _ _ _ h))) hP1 hfr
                    refine lv_iinc (v := nI (k + 1)) (lv' := [(2, .int (nI (k + 1))), (0, .ref (E 0)), (1, .ref (E2 0))]) hx hb dX1_copyFrom_87 hl (k := 0) rfl (nI_1 _) (by decide) rfl (fun ls hl => ?_)
                    refine lv_goto (tgt := 66) hx hb dX1_copyFrom_90 (by decide) ?_
                    have e12 : (cp2 (k + 1) qv q) = (cpF (cp2 k qv q) k qv k) := (cp2_s _ _ _).symm
                    refine ihk H locs ls ?_ ?_ hS ?_
                    · first | exact hP | (simp only [e12]; exact hP)
                    · first | exact hD | (simp only [e12]; exact hD)
                    · first | exact lv_sub hl [0, 1, 2] rfl | (simp only [e12]; exact lv_sub hl [0, 1, 2] rfl)
              exact loop5 0 (Nat.zero_le _) H locs ls hP hD hS (lv_sub hl [0, 1, 2] rfl)
            · exact absurd (nI_le (a := 6) (b := 6) (by omega) (by omega)) c4
          · intro k hkk ihk H locs ls hP hD hS hl
            refine lv_iload_n hx hb dX1_copyFrom_30 rfl (lv_at hl 0 rfl) ?_
            refine lv_aload_n hx hb dX1_copyFrom_31 rfl (lv_at hl 1 rfl) ?_
            refine va_get (D := D) (ci := 1) (v := .ref (E 3)) (C := RX1) (T := TX1) (N := 10) hx hb hts hinX1 hown hK hP (0) (z_apl rfl) rfl 2 (by decide) hf15 (fun _ h9 => h9) rfl dX1_copyFrom_32 ?_
            refine va_alen hx hb hK hP 3 0 (v := nI 6) rfl rfl rfl dX1_copyFrom_35 ?_
            refine lv_icmp_ge (tgt := 56) hx hb dX1_copyFrom_36 (by decide) (fun c13 => ?_) (fun c13 => ?_)
            · exact absurd c13 (nI_ge (a := k) (b := 6) (by omega) (by omega))
            · have d13 := Int32.not_le.mp c13
              refine lv_aload_n hx hb dX1_copyFrom_39 rfl (lv_at hl 1 rfl) ?_
              refine va_get (D := D) (ci := 1) (v := .ref (E 3)) (C := RX1) (T := TX1) (N := 10) hx hb hts hinX1 hown hK hP (0) (z_apl rfl) rfl 2 (by decide) hf15 (fun _ h9 => h9) rfl dX1_copyFrom_40 ?_
              refine lv_iload_n hx hb dX1_copyFrom_43 rfl (lv_at hl 0 rfl) ?_
              refine lv_aload_n hx hb dX1_copyFrom_44 rfl (lv_at hl 2 rfl) ?_
              refine lv_iload_n hx hb dX1_copyFrom_45 rfl (lv_at hl 0 rfl) ?_
              refine zcRV (As := [.int (nI k)]) (rest := [.int (nI k), .ref (E 3)]) (st1 := [.int (nI (ov k)), .int (nI k), .ref (E 3)]) ⟨hx, hb, hml, hown, hts⟩ (c_X1_inOrder l D y E2 tv ov qv bv cv bcv nv arv fiv rev k (by omega)) (cwV 1 hts gX1_copyFrom_X1_inOrder rfl rfl rfl (by decide +kernel) ⟨Nat.le_of_ble_eq_true rfl, Nat.le_of_ble_eq_true rfl⟩) hK (z_sub_P hP (fun z h => List.mem_append_right _ h)) (ci := 1) (q0 := 0) rfl rfl rfl rfl hl.1 rfl (lv_room (Nat.le_of_ble_eq_true rfl)) dX1_copyFrom_46 ⟨Nat.le_of_ble_eq_true rfl, Nat.le_of_ble_eq_true rfl⟩ rfl ?_
              refine z_ast (x := nI (ov k)) hx hb hK hP hD hS 3 (f := fun i => nI ((cpN k ov o) i)) rfl k rfl (by omega) (by decide) (by rw [z_updO]) dX1_copyFrom_49 (fun H locs hP hD hS => ?_)
              have hP : va_P D vwCl (eW E y (cpN 7 tv t) (va_up (cpN k ov o) k (ov k)) q b c bc n ar fi re ++ eW E2 y tv ov qv bv cv bcv nv arv fiv rev) H := hP
              have hD : va_D A (eW E y (cpN 7 tv t) (va_up (cpN k ov o) k (ov k)) q b c bc n ar fi re ++ eW E2 y tv ov qv bv cv bcv nv arv fiv rev) := hD
              refine lv_iinc (v := nI (k + 1)) (lv' := [(2, .int (nI (k + 1))), (0, .ref (E 0)), (1, .ref (E2 0))]) hx hb dX1_copyFrom_50 hl (k := 0) rfl (nI_1 _) (by decide) rfl (fun ls hl => ?_)
              refine lv_goto (tgt := 30) hx hb dX1_copyFrom_53 (by decide) ?_
              have e14 : (cpN (k + 1) ov o) = (va_up (cpN k ov o) k (ov k)) := (va_up_cp _ _ _).symm
              refine ihk H locs ls ?_ ?_ hS ?_
              · first | exact hP | (simp only [e14]; exact hP)
              · first | exact hD | (simp only [e14]; exact hD)
              · first | exact lv_sub hl [0, 1, 2] rfl | (simp only [e14]; exact lv_sub hl [0, 1, 2] rfl)
        exact loop3 0 (Nat.zero_le _) H locs ls hP hD hS (lv_sub hl [0, 1, 2] rfl)
      · exact absurd (nI_le (a := 7) (b := 7) (by omega) (by omega)) c2
    · intro k hkk ihk H locs ls hP hD hS hl
      refine lv_iload_n hx hb dX1_copyFrom_2 rfl (lv_at hl 0 rfl) ?_
      refine lv_aload_n hx hb dX1_copyFrom_3 rfl (lv_at hl 1 rfl) ?_
      refine va_get (D := D) (ci := 1) (v := .ref (E 1)) (C := RX1) (T := TX1) (N := 10) hx hb hts hinX1 hown hK hP (0) (z_apl rfl) rfl 0 (by decide) hf9 (fun _ h9 => h9) rfl dX1_copyFrom_4 ?_
      refine va_alen hx hb hK hP 1 0 (v := nI 7) rfl rfl rfl dX1_copyFrom_7 ?_
      refine lv_icmp_ge (tgt := 28) hx hb dX1_copyFrom_8 (by decide) (fun c15 => ?_) (fun c15 => ?_)
      · exact absurd c15 (nI_ge (a := k) (b := 7) (by omega) (by omega))
      · have d15 := Int32.not_le.mp c15
        refine lv_aload_n hx hb dX1_copyFrom_11 rfl (lv_at hl 1 rfl) ?_
        refine va_get (D := D) (ci := 1) (v := .ref (E 1)) (C := RX1) (T := TX1) (N := 10) hx hb hts hinX1 hown hK hP (0) (z_apl rfl) rfl 0 (by decide) hf9 (fun _ h9 => h9) rfl dX1_copyFrom_12 ?_
        refine lv_iload_n hx hb dX1_copyFrom_15 rfl (lv_at hl 0 rfl) ?_
        refine lv_aload_n hx hb dX1_copyFrom_16 rfl (lv_at hl 2 rfl) ?_
        refine lv_iload_n hx hb dX1_copyFrom_17 rfl (lv_at hl 0 rfl) ?_
        refine zcRV (As := [.int (nI k)]) (rest := [.int (nI k), .ref (E 1)]) (st1 := [.int ((tv k)), .int (nI k), .ref (E 1)]) ⟨hx, hb, hml, hown, hts⟩ (c_X1_tableEels l D y E2 tv ov qv bv cv bcv nv arv fiv rev k (by omega)) (cwV 1 hts gX1_copyFrom_X1_tableEels rfl rfl rfl (by decide +kernel) ⟨Nat.le_of_ble_eq_true rfl, Nat.le_of_ble_eq_true rfl⟩) hK (z_sub_P hP (fun z h => List.mem_append_right _ h)) (ci := 1) (q0 := 0) rfl rfl rfl rfl hl.1 rfl (lv_room (Nat.le_of_ble_eq_true rfl)) dX1_copyFrom_18 ⟨Nat.le_of_ble_eq_true rfl, Nat.le_of_ble_eq_true rfl⟩ rfl ?_
        refine z_ast hx hb hK hP hD hS 1 (f := (cpN k tv t)) rfl k rfl (by omega) (by decide) rfl dX1_copyFrom_21 (fun H locs hP hD hS => ?_)
        have hP : va_P D vwCl (eW E y (upd (cpN k tv t) k (tv k)) o q b c bc n ar fi re ++ eW E2 y tv ov qv bv cv bcv nv arv fiv rev) H := hP
        have hD : va_D A (eW E y (upd (cpN k tv t) k (tv k)) o q b c bc n ar fi re ++ eW E2 y tv ov qv bv cv bcv nv arv fiv rev) := hD
        refine lv_iinc (v := nI (k + 1)) (lv' := [(2, .int (nI (k + 1))), (0, .ref (E 0)), (1, .ref (E2 0))]) hx hb dX1_copyFrom_22 hl (k := 0) rfl (nI_1 _) (by decide) rfl (fun ls hl => ?_)
        refine lv_goto (tgt := 2) hx hb dX1_copyFrom_25 (by decide) ?_
        have e16 : (cpN (k + 1) tv t) = (upd (cpN k tv t) k (tv k)) := (cpN_upd _ _ _).symm
        refine ihk H locs ls ?_ ?_ hS ?_
        · first | exact hP | (simp only [e16]; exact hP)
        · first | exact hD | (simp only [e16]; exact hD)
        · first | exact lv_sub hl [0, 1, 2] rfl | (simp only [e16]; exact lv_sub hl [0, 1, 2] rfl)
  exact loop1 0 (Nat.zero_le _) H locs ls hP hD hS (lv_sub hl [0, 1, 2] rfl)
