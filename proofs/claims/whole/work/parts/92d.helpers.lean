set_option maxHeartbeats 1000000 in
set_option maxRecDepth 100000 in
theorem h_L_advise_no (l : Launch) (D : va_G) (y : Nat → ClassId) (X0 O : Nat) (a0 a1 : Int32) (g : Nat → Int64) (w : va_W) (v : Int32) {rm : Room} (hM : zR l yX3_advise wsX3_advise rm D y [.ref X0, .int a0, .int a1] w (some (.int v))) (hrm : rm.cells = 0 ∧ rm.slots = 0 ∧ rm.frames ≤ 6 ∧ rm.locals ≤ 140) {fs : List Value} (h0 : w[0]? = some (X0, .inr (3, fs))) (sz : Nat) : zH l yL_advise wsL_advise D y [.ref X0, .int a0, .int a1, .ref O] (w ++ [oC O y g]) sz 0 (w ++ [oC O y (vp_updL g (0 : Int32).toNatClampNeg v.toInt64)]) := by
  refine zH.of (cc := cL_advise) (maxL := 5) (ret := (some .int)) (own := RL) (by decide) rfl (Nat.le_of_ble_eq_true rfl) rfl ?_
  intro p e s m args below meth cd ls A hx hb hr hml hown hts hlocks hct hP hK hD hA hX hl
  have hl : lv_has ls 5 [(0, .ref X0), (1, .int a0), (2, .int a1), (3, .ref O)] := hl
  have hPw : va_P D vwCl w s.heap := z_sub_P hP (fun z h => List.mem_append_left _ h)
  have hDw : va_D (fun _ => True) w := z_D_m (l1 := []) (l2 := [oC O y g]) hD
  refine lv_aload_n hx hb dL_advise_0 rfl (lv_at hl 3 rfl) ?_
  refine lv_iconst (v := 0) hx hb dL_advise_1 (by decide) ?_
  refine lv_aload_n hx hb dL_advise_2 rfl (lv_at hl 0 rfl) ?_
  refine lv_iload_n hx hb dL_advise_3 rfl (lv_at hl 1 rfl) ?_
  refine lv_iload_n hx hb dL_advise_4 rfl (lv_at hl 2 rfl) ?_
  refine zcRV (As := [.int a0, .int a1]) (rest := [.int 0, .ref O]) (st1 := [.int v, .int 0, .ref O]) ⟨hx, hb, hml, hown, hts⟩ hM (cwV 2 hts gL_advise_X3_advise rfl hrm.1 hrm.2.1 (by decide +kernel) ⟨by show rm.frames + 1 ≤ 7; omega, by show 8 + (8 + 11) + rm.locals ≤ 200; omega⟩) hK hPw (ci := 3) (q0 := 0) rfl rfl h0 rfl hl.1 rfl (lv_room (Nat.le_of_ble_eq_true rfl)) dL_advise_5 ⟨by decide, by decide⟩ rfl ?_
  have hS : va_S A s.heap s.heap [] := va_S.rf
  refine lv_i2l (v := v.toInt64) hx hb dL_advise_8 rfl ?_
  refine va_last hx hb hK hP hD hS (w).length 3 (z_at_end _ _) rfl (i := 0) (by unfold vp_in; decide) dL_advise_9 (fun H locs hP hD hS => ?_)
  rw [z_set_end] at hP
  refine lv_goto (tgt := 21) hx hb dL_advise_10 (by decide) ?_
  refine lv_iconst (v := 0) hx hb dL_advise_21 (by decide) ?_
  exact h_ret (by decide) (by decide) hx hb hr hlocks hS dL_advise_22 hP
