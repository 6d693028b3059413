theorem nI_nneg {a : Nat} (h : a < 2147483648) : ¬ nI a < 0 := nI_nlt (a := a) (b := 0) (by omega) (by omega)
set_option maxHeartbeats 4000000 in
set_option maxRecDepth 100000 in
theorem c_X4_copy (l : Launch) (D : va_G) (y : Nat → ClassId) (ws : va_W) (z a1 a2 i1 i2 nn : Nat) (f g : Nat → Int32) (hn : nn < 2147483648) (h1 : ws[i1]? = some (a1, .inl (y 0, nn, .inl f))) (h2 : ws[i2]? = some (a2, .inl (y 0, nn, .inl g))) (sz : Nat) : zM l yX4_copy wsX4_copy { frames := 1, cells := 0, slots := 0, locals := 22 } D y [.ref z, .ref a1, .ref a2] (ws) sz (none) (ws.set i2 (a2, .inl (y 0, nn, .inl f))) 0 0 := by
  refine zM.ofH (cc := cX4_copy) (maxL := 3) (ret := none) (own := RX4) (by decide) rfl (Nat.le_of_ble_eq_true rfl) rfl ?_
  intro p e s m args below meth cd ls A H locs hx hb hr hml hown hts hlocks hP hK hD hA hS hl hin
  have hS0 := hS
  have hl : lv_has ls 3 [(0, .ref z), (1, .ref a1), (2, .ref a2)] := hl
  have hla : (Cond.methodLink RX4 46 arraycopyName).before args s = true := hts _ (by decide +kernel)
  have hna : (Cond.native arraycopyName).before args s = true := hts _ (by decide +kernel)
  have hsa : (Cond.static arraycopyName).before args s = true := hts _ (by decide +kernel)
  have hia : (Cond.initialized "java/lang/System").before args s = true := hts _ (by decide +kernel)
  refine lv_aload_n hx hb dX4_copy_0 rfl (lv_at hl 1 rfl) ?_
  refine lv_iconst (v := 0) hx hb dX4_copy_1 (by decide) ?_
  refine lv_aload_n hx hb dX4_copy_2 rfl (lv_at hl 2 rfl) ?_
  refine lv_iconst (v := 0) hx hb dX4_copy_3 (by decide) ?_
  refine lv_aload_n hx hb dX4_copy_4 rfl (lv_at hl 1 rfl) ?_
  refine va_alen hx hb hK hP i1 0 (v := nI nn) h1 rfl rfl dX4_copy_5 ?_
  refine va_copyi hx hb (hml.trans hl.1.symm) hown hla hna hsa hia hK hP hD hS i1 i2 0 0 (f := f) (g := g) (ty := .int) h1 h2 rfl rfl rfl (by decide) (by decide) (nI_nneg (by omega)) (by rw [nI_clamp (by omega)]; exact Nat.le_of_eq (Nat.zero_add nn)) (by rw [nI_clamp (by omega)]; exact Nat.le_of_eq (Nat.zero_add nn)) (fun _ _ => rfl) (Nat.le_of_ble_eq_true rfl) (by decide) dX4_copy_6 (fun H locs hP hD hS => ?_)
  exact zM_v hx hb hr hlocks hS dX4_copy_9 rfl (by
      have h9 := z_arr_eq (k := i2) (g := f) hP (by rw [List.getElem?_set_self (List.getElem?_eq_some_iff.mp h2).1]) (fun i hi => by rw [nI_clamp (by omega)]; unfold va_cpy; rw [if_pos ⟨Nat.zero_le _, by show i < 0 + nn; omega⟩]; show f i = f (0 + (i - 0)); rw [Nat.zero_add, Nat.sub_zero])
      rw [List.set_set] at h9
      exact h9)
