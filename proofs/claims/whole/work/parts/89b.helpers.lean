set_option maxHeartbeats 1000000 in
set_option maxRecDepth 100000 in
theorem h_L_weir (l : Launch) (D : va_G) (y : Nat → ClassId) (X0 O : Nat) (a0 a1 a2 : Int32) (g : Nat → Int64) (w w1 : va_W) (v : Int32) {rm : Room} (hM : ∀ sz, zM l yX3_weir wsX3_weir rm D y [.ref X0, .int a0, .int a1, .int a2] w sz (some (.int v)) w1 0 0) (hrm : rm.cells = 0 ∧ rm.slots = 0 ∧ rm.frames ≤ 6 ∧ rm.locals ≤ 140) {fs : List Value} (h0 : w[0]? = some (X0, .inr (3, fs))) (had : w1.map Prod.fst = w.map Prod.fst) (sz : Nat) : zH l yL_weir wsL_weir D y [.ref X0, .int a0, .int a1, .int a2, .ref O] (w ++ [oC O y g]) sz 0 (w1 ++ [oC O y (vp_updL g (0 : Int32).toNatClampNeg v.toInt64)]) := by
  refine zH.of (cc := cL_weir) (maxL := 6) (ret := (some .int)) (own := RL) (by decide) rfl (Nat.le_of_ble_eq_true rfl) rfl ?_
  intro p e s m args below meth cd ls A hx hb hr hml hown hts hlocks hct hP hK hD hA hX hl
  have hl : lv_has ls 6 [(0, .ref X0), (1, .int a0), (2, .int a1), (3, .int a2), (4, .ref O)] := hl
  have hPw : va_P D vwCl w s.heap := z_sub_P hP (fun z h => List.mem_append_left _ h)
  have hDw : va_D (fun _ => True) w := z_D_m (l1 := []) (l2 := [oC O y g]) hD
  refine lv_aload hx hb dL_weir_0 (lv_at hl 4 rfl) ?_
  refine lv_iconst (v := 0) hx hb dL_weir_2 (by decide) ?_
  refine lv_aload_n hx hb dL_weir_3 rfl (lv_at hl 0 rfl) ?_
  refine lv_iload_n hx hb dL_weir_4 rfl (lv_at hl 1 rfl) ?_
  refine lv_iload_n hx hb dL_weir_5 rfl (lv_at hl 2 rfl) ?_
  refine lv_iload_n hx hb dL_weir_6 rfl (lv_at hl 3 rfl) ?_
  refine zcMV (As := [.int a0, .int a1, .int a2]) (rest := [.int 0, .ref O]) (st1 := [.int v, .int 0, .ref O]) (cells1 := 0) (slots1 := 0) ⟨hx, hb, hml, hown, hts⟩ (hM _) (cwV 3 hts gL_weir_X3_weir rfl hrm.1 hrm.2.1 (by decide +kernel) ⟨by show rm.frames + 1 ≤ 7; omega, by show 8 + (4 + 11) + rm.locals ≤ 200; omega⟩) hK hPw hDw (ci := 3) (q0 := 0) rfl rfl h0 rfl hl.1 rfl (lv_room (Nat.le_of_ble_eq_true rfl)) dL_weir_7 va_S.rf (z_sub_F hD va_S.rf hA (fun z h => List.mem_append_left _ h)) ⟨by decide, by decide⟩ rfl rfl rfl (fun H locs hP1 hz hfr hS => ?_)
  obtain ⟨hP, hD⟩ := z_seg (l1 := []) (w := w) (w1 := w1) (l2 := [oC O y g]) (ws1 := w1 ++ [oC O y g]) hP hD rfl rfl had hP1 hfr
  refine lv_i2l (v := v.toInt64) hx hb dL_weir_10 rfl ?_
  refine va_last hx hb hK hP hD hS (w1).length 3 (z_at_end _ _) rfl (i := 0) (by unfold vp_in; decide) dL_weir_11 (fun H locs hP hD hS => ?_)
  rw [z_set_end] at hP
  refine lv_goto (tgt := 23) hx hb dL_weir_12 (by decide) ?_
  refine lv_iconst (v := 0) hx hb dL_weir_23 (by decide) ?_
  exact h_ret (by decide) (by decide) hx hb hr hlocks hS dL_weir_24 hP
set_option maxHeartbeats 1000000 in
set_option maxRecDepth 100000 in
theorem h_L_weir_T1 (l : Launch) (D : va_G) (y : Nat → ClassId) (X0 O : Nat) (a0 a1 a2 : Int32) (g : Nat → Int64) (w : va_W) {rm : Room} (hM : zT l yX3_weir wsX3_weir rm D y [.ref X0, .int a0, .int a1, .int a2] w "java/lang/IllegalArgumentException") (hrm : rm.cells = 1 ∧ rm.slots = 6 ∧ rm.frames ≤ 6 ∧ rm.locals ≤ 140) {fs : List Value} (h0 : w[0]? = some (X0, .inr (3, fs))) (sz : Nat) : zH l yL_weir wsL_weir D y [.ref X0, .int a0, .int a1, .int a2, .ref O] (w ++ [oC O y g]) sz 1 (w ++ [oC O y g]) := by
  refine zH.of (cc := cL_weir) (maxL := 6) (ret := (some .int)) (own := RL) (by decide) rfl (Nat.le_of_ble_eq_true rfl) rfl ?_
  intro p e s m args below meth cd ls A hx hb hr hml hown hts hlocks hct hP hK hD hA hX hl
  have hl : lv_has ls 6 [(0, .ref X0), (1, .int a0), (2, .int a1), (3, .int a2), (4, .ref O)] := hl
  have hPw : va_P D vwCl w s.heap := z_sub_P hP (fun z h => List.mem_append_left _ h)
  have hDw : va_D (fun _ => True) w := z_D_m (l1 := []) (l2 := [oC O y g]) hD
  refine lv_aload hx hb dL_weir_0 (lv_at hl 4 rfl) ?_
  refine lv_iconst (v := 0) hx hb dL_weir_2 (by decide) ?_
  refine lv_aload_n hx hb dL_weir_3 rfl (lv_at hl 0 rfl) ?_
  refine lv_iload_n hx hb dL_weir_4 rfl (lv_at hl 1 rfl) ?_
  refine lv_iload_n hx hb dL_weir_5 rfl (lv_at hl 2 rfl) ?_
  refine lv_iload_n hx hb dL_weir_6 rfl (lv_at hl 3 rfl) ?_
  refine zcTV (As := [.int a0, .int a1, .int a2]) (rest := [.int 0, .ref O]) ⟨hx, hb, hml, hown, hts⟩ hM (cwV 3 hts gL_weir_X3_weir rfl hrm.1 hrm.2.1 (by decide +kernel) ⟨by show rm.frames + 1 ≤ 7; omega, by show 8 + (4 + 11) + rm.locals ≤ 200; omega⟩) hK hPw (fun U hU hW => hX.1.moved hW hU) (ci := 3) (q0 := 0) rfl rfl h0 rfl hl.1 rfl (lv_room (Nat.le_of_ble_eq_true rfl)) dL_weir_7 ⟨by decide, by decide⟩ (fun H1 q9 ce hz hk hce hcv hcl => ?_)
  refine vx_catch (name := "java/lang/IllegalArgumentException") hown [] ⟨0, 12, 15, 13⟩ [⟨0, 12, 19, 15⟩] (hct.trans rfl) (fun z h => nomatch h) (by decide) (by decide) (hts _ (by decide +kernel)) (h_cast hX (by decide)) hce hcv hcl ?_
  refine lv_astore (lv' := [(5, .ref q9), (0, .ref X0), (1, .int a0), (2, .int a1), (3, .int a2), (4, .ref O)]) hx hb dL_weir_15 hl (by decide) rfl (fun ls hl => ?_)
  refine lv_iconst (v := 1) hx hb dL_weir_17 (by decide) ?_
  exact h_ret (by decide) (by decide) hx hb hr hlocks (⟨hz, fun q hq _ => hk q hq, fun _ h => nomatch h⟩ : va_S A s.heap H1 []) dL_weir_18 (hP.kept (fun k q hq => hk q.1 (vx_lt hP hq)))
set_option maxHeartbeats 1000000 in
set_option maxRecDepth 100000 in
theorem h_L_weir_T2 (l : Launch) (D : va_G) (y : Nat → ClassId) (X0 O : Nat) (a0 a1 a2 : Int32) (g : Nat → Int64) (w : va_W) {rm : Room} (hM : zT l yX3_weir wsX3_weir rm D y [.ref X0, .int a0, .int a1, .int a2] w "java/lang/IllegalStateException") (hrm : rm.cells = 1 ∧ rm.slots = 6 ∧ rm.frames ≤ 6 ∧ rm.locals ≤ 140) {fs : List Value} (h0 : w[0]? = some (X0, .inr (3, fs))) (sz : Nat) : zH l yL_weir wsL_weir D y [.ref X0, .int a0, .int a1, .int a2, .ref O] (w ++ [oC O y g]) sz 2 (w ++ [oC O y g]) := by
  refine zH.of (cc := cL_weir) (maxL := 6) (ret := (some .int)) (own := RL) (by decide) rfl (Nat.le_of_ble_eq_true rfl) rfl ?_
  intro p e s m args below meth cd ls A hx hb hr hml hown hts hlocks hct hP hK hD hA hX hl
  have hl : lv_has ls 6 [(0, .ref X0), (1, .int a0), (2, .int a1), (3, .int a2), (4, .ref O)] := hl
  have hPw : va_P D vwCl w s.heap := z_sub_P hP (fun z h => List.mem_append_left _ h)
  have hDw : va_D (fun _ => True) w := z_D_m (l1 := []) (l2 := [oC O y g]) hD
  refine lv_aload hx hb dL_weir_0 (lv_at hl 4 rfl) ?_
  refine lv_iconst (v := 0) hx hb dL_weir_2 (by decide) ?_
  refine lv_aload_n hx hb dL_weir_3 rfl (lv_at hl 0 rfl) ?_
  refine lv_iload_n hx hb dL_weir_4 rfl (lv_at hl 1 rfl) ?_
  refine lv_iload_n hx hb dL_weir_5 rfl (lv_at hl 2 rfl) ?_
  refine lv_iload_n hx hb dL_weir_6 rfl (lv_at hl 3 rfl) ?_
  refine zcTV (As := [.int a0, .int a1, .int a2]) (rest := [.int 0, .ref O]) ⟨hx, hb, hml, hown, hts⟩ hM (cwV 3 hts gL_weir_X3_weir rfl hrm.1 hrm.2.1 (by decide +kernel) ⟨by show rm.frames + 1 ≤ 7; omega, by show 8 + (4 + 11) + rm.locals ≤ 200; omega⟩) hK hPw (fun U hU hW => hX.1.moved hW hU) (ci := 3) (q0 := 0) rfl rfl h0 rfl hl.1 rfl (lv_room (Nat.le_of_ble_eq_true rfl)) dL_weir_7 ⟨by decide, by decide⟩ (fun H1 q9 ce hz hk hce hcv hcl => ?_)
  refine vx_catch (name := "java/lang/IllegalStateException") hown [⟨0, 12, 15, 13⟩] ⟨0, 12, 19, 15⟩ [] (hct.trans rfl) (List.forall_mem_cons.mpr ⟨Or.inr ⟨by decide, "java/lang/IllegalArgumentException", hts _ (by decide +kernel), hX.2 ("java/lang/IllegalStateException", "java/lang/IllegalArgumentException") (by decide)⟩, (fun z h => nomatch h)⟩) (by decide) (by decide) (hts _ (by decide +kernel)) (h_cast hX (by decide)) hce hcv hcl ?_
  refine lv_astore (lv' := [(5, .ref q9), (0, .ref X0), (1, .int a0), (2, .int a1), (3, .int a2), (4, .ref O)]) hx hb dL_weir_19 hl (by decide) rfl (fun ls hl => ?_)
  refine lv_iconst (v := 2) hx hb dL_weir_21 (by decide) ?_
  exact h_ret (by decide) (by decide) hx hb hr hlocks (⟨hz, fun q hq _ => hk q hq, fun _ h => nomatch h⟩ : va_S A s.heap H1 []) dL_weir_22 (hP.kept (fun k q hq => hk q.1 (vx_lt hP hq)))
set_option maxHeartbeats 1000000 in
set_option maxRecDepth 100000 in
theorem h_L_gate (l : Launch) (D : va_G) (y : Nat → ClassId) (X0 O : Nat) (a0 : Int32) (g : Nat → Int64) (w w1 : va_W) (v : Int32) {rm : Room} (hM : ∀ sz, zM l yX3_gate wsX3_gate rm D y [.ref X0, .int a0] w sz (some (.int v)) w1 0 0) (hrm : rm.cells = 0 ∧ rm.slots = 0 ∧ rm.frames ≤ 6 ∧ rm.locals ≤ 140) {fs : List Value} (h0 : w[0]? = some (X0, .inr (3, fs))) (had : w1.map Prod.fst = w.map Prod.fst) (sz : Nat) : zH l yL_gate wsL_gate D y [.ref X0, .int a0, .ref O] (w ++ [oC O y g]) sz 0 (w1 ++ [oC O y (vp_updL g (0 : Int32).toNatClampNeg (if v = 0 then 0 else 1))]) := by
  refine zH.of (cc := cL_gate) (maxL := 4) (ret := (some .int)) (own := RL) (by decide) rfl (Nat.le_of_ble_eq_true rfl) rfl ?_
  intro p e s m args below meth cd ls A hx hb hr hml hown hts hlocks hct hP hK hD hA hX hl
  have hl : lv_has ls 4 [(0, .ref X0), (1, .int a0), (2, .ref O)] := hl
  have hPw : va_P D vwCl w s.heap := z_sub_P hP (fun z h => List.mem_append_left _ h)
  have hDw : va_D (fun _ => True) w := z_D_m (l1 := []) (l2 := [oC O y g]) hD
  refine lv_aload_n hx hb dL_gate_0 rfl (lv_at hl 2 rfl) ?_
  refine lv_iconst (v := 0) hx hb dL_gate_1 (by decide) ?_
  refine lv_aload_n hx hb dL_gate_2 rfl (lv_at hl 0 rfl) ?_
  refine lv_iload_n hx hb dL_gate_3 rfl (lv_at hl 1 rfl) ?_
  refine zcMV (As := [.int a0]) (rest := [.int 0, .ref O]) (st1 := [.int v, .int 0, .ref O]) (cells1 := 0) (slots1 := 0) ⟨hx, hb, hml, hown, hts⟩ (hM _) (cwV 1 hts gL_gate_X3_gate rfl hrm.1 hrm.2.1 (by decide +kernel) ⟨by show rm.frames + 1 ≤ 7; omega, by show 8 + (3 + 11) + rm.locals ≤ 200; omega⟩) hK hPw hDw (ci := 3) (q0 := 0) rfl rfl h0 rfl hl.1 rfl (lv_room (Nat.le_of_ble_eq_true rfl)) dL_gate_4 va_S.rf (z_sub_F hD va_S.rf hA (fun z h => List.mem_append_left _ h)) ⟨by decide, by decide⟩ rfl rfl rfl (fun H locs hP1 hz hfr hS => ?_)
  obtain ⟨hP, hD⟩ := z_seg (l1 := []) (w := w) (w1 := w1) (l2 := [oC O y g]) (ws1 := w1 ++ [oC O y g]) hP hD rfl rfl had hP1 hfr
  refine lv_if_eq (tgt := 14) hx hb dL_gate_7 (by decide) (fun c9 => ?_) (fun c9 => ?_)
  · refine lv_lconst (v := 0) hx hb dL_gate_14 (by decide) ?_
    refine va_last hx hb hK hP hD hS (w1).length 3 (z_at_end _ _) rfl (i := 0) (by unfold vp_in; decide) dL_gate_15 (fun H locs hP hD hS => ?_)
    rw [z_set_end] at hP
    refine lv_goto (tgt := 25) hx hb dL_gate_16 (by decide) ?_
    refine lv_iconst (v := 0) hx hb dL_gate_25 (by decide) ?_
    have e9 : (if v = 0 then (0 : Int64) else 1) = (0 : Int64) := by rw [if_pos c9]
    rw [e9]; exact h_ret (by decide) (by decide) hx hb hr hlocks hS dL_gate_26 hP
  · refine lv_lconst (v := 1) hx hb dL_gate_10 (by decide) ?_
    refine lv_goto (tgt := 15) hx hb dL_gate_11 (by decide) ?_
    refine va_last hx hb hK hP hD hS (w1).length 3 (z_at_end _ _) rfl (i := 0) (by unfold vp_in; decide) dL_gate_15 (fun H locs hP hD hS => ?_)
    rw [z_set_end] at hP
    refine lv_goto (tgt := 25) hx hb dL_gate_16 (by decide) ?_
    refine lv_iconst (v := 0) hx hb dL_gate_25 (by decide) ?_
    have e9 : (if v = 0 then (0 : Int64) else 1) = (1 : Int64) := by rw [if_neg c9]
    rw [e9]; exact h_ret (by decide) (by decide) hx hb hr hlocks hS dL_gate_26 hP
set_option maxHeartbeats 1000000 in
set_option maxRecDepth 100000 in
theorem h_L_gate_T1 (l : Launch) (D : va_G) (y : Nat → ClassId) (X0 O : Nat) (a0 : Int32) (g : Nat → Int64) (w : va_W) {rm : Room} (hM : zT l yX3_gate wsX3_gate rm D y [.ref X0, .int a0] w "java/lang/IndexOutOfBoundsException") (hrm : rm.cells = 1 ∧ rm.slots = 6 ∧ rm.frames ≤ 6 ∧ rm.locals ≤ 140) {fs : List Value} (h0 : w[0]? = some (X0, .inr (3, fs))) (sz : Nat) : zH l yL_gate wsL_gate D y [.ref X0, .int a0, .ref O] (w ++ [oC O y g]) sz 1 (w ++ [oC O y g]) := by
  refine zH.of (cc := cL_gate) (maxL := 4) (ret := (some .int)) (own := RL) (by decide) rfl (Nat.le_of_ble_eq_true rfl) rfl ?_
  intro p e s m args below meth cd ls A hx hb hr hml hown hts hlocks hct hP hK hD hA hX hl
  have hl : lv_has ls 4 [(0, .ref X0), (1, .int a0), (2, .ref O)] := hl
  have hPw : va_P D vwCl w s.heap := z_sub_P hP (fun z h => List.mem_append_left _ h)
  have hDw : va_D (fun _ => True) w := z_D_m (l1 := []) (l2 := [oC O y g]) hD
  refine lv_aload_n hx hb dL_gate_0 rfl (lv_at hl 2 rfl) ?_
  refine lv_iconst (v := 0) hx hb dL_gate_1 (by decide) ?_
  refine lv_aload_n hx hb dL_gate_2 rfl (lv_at hl 0 rfl) ?_
  refine lv_iload_n hx hb dL_gate_3 rfl (lv_at hl 1 rfl) ?_
  refine zcTV (As := [.int a0]) (rest := [.int 0, .ref O]) ⟨hx, hb, hml, hown, hts⟩ hM (cwV 1 hts gL_gate_X3_gate rfl hrm.1 hrm.2.1 (by decide +kernel) ⟨by show rm.frames + 1 ≤ 7; omega, by show 8 + (3 + 11) + rm.locals ≤ 200; omega⟩) hK hPw (fun U hU hW => hX.1.moved hW hU) (ci := 3) (q0 := 0) rfl rfl h0 rfl hl.1 rfl (lv_room (Nat.le_of_ble_eq_true rfl)) dL_gate_4 ⟨by decide, by decide⟩ (fun H1 q9 ce hz hk hce hcv hcl => ?_)
  refine vx_catch (name := "java/lang/IndexOutOfBoundsException") hown [] ⟨0, 16, 19, 21⟩ [⟨0, 16, 22, 15⟩] (hct.trans rfl) (fun z h => nomatch h) (by decide) (by decide) (hts _ (by decide +kernel)) (h_cast hX (by decide)) hce hcv hcl ?_
  refine lv_astore_n (lv' := [(3, .ref q9), (0, .ref X0), (1, .int a0), (2, .ref O)]) hx hb dL_gate_19 rfl hl (by decide) rfl (fun ls hl => ?_)
  refine lv_iconst (v := 1) hx hb dL_gate_20 (by decide) ?_
  exact h_ret (by decide) (by decide) hx hb hr hlocks (⟨hz, fun q hq _ => hk q hq, fun _ h => nomatch h⟩ : va_S A s.heap H1 []) dL_gate_21 (hP.kept (fun k q hq => hk q.1 (vx_lt hP hq)))
set_option maxHeartbeats 1000000 in
set_option maxRecDepth 100000 in
theorem h_L_gate_T2 (l : Launch) (D : va_G) (y : Nat → ClassId) (X0 O : Nat) (a0 : Int32) (g : Nat → Int64) (w : va_W) {rm : Room} (hM : zT l yX3_gate wsX3_gate rm D y [.ref X0, .int a0] w "java/lang/IllegalStateException") (hrm : rm.cells = 1 ∧ rm.slots = 6 ∧ rm.frames ≤ 6 ∧ rm.locals ≤ 140) {fs : List Value} (h0 : w[0]? = some (X0, .inr (3, fs))) (sz : Nat) : zH l yL_gate wsL_gate D y [.ref X0, .int a0, .ref O] (w ++ [oC O y g]) sz 2 (w ++ [oC O y g]) := by
  refine zH.of (cc := cL_gate) (maxL := 4) (ret := (some .int)) (own := RL) (by decide) rfl (Nat.le_of_ble_eq_true rfl) rfl ?_
  intro p e s m args below meth cd ls A hx hb hr hml hown hts hlocks hct hP hK hD hA hX hl
  have hl : lv_has ls 4 [(0, .ref X0), (1, .int a0), (2, .ref O)] := hl
  have hPw : va_P D vwCl w s.heap := z_sub_P hP (fun z h => List.mem_append_left _ h)
  have hDw : va_D (fun _ => True) w := z_D_m (l1 := []) (l2 := [oC O y g]) hD
  refine lv_aload_n hx hb dL_gate_0 rfl (lv_at hl 2 rfl) ?_
  refine lv_iconst (v := 0) hx hb dL_gate_1 (by decide) ?_
  refine lv_aload_n hx hb dL_gate_2 rfl (lv_at hl 0 rfl) ?_
  refine lv_iload_n hx hb dL_gate_3 rfl (lv_at hl 1 rfl) ?_
  refine zcTV (As := [.int a0]) (rest := [.int 0, .ref O]) ⟨hx, hb, hml, hown, hts⟩ hM (cwV 1 hts gL_gate_X3_gate rfl hrm.1 hrm.2.1 (by decide +kernel) ⟨by show rm.frames + 1 ≤ 7; omega, by show 8 + (3 + 11) + rm.locals ≤ 200; omega⟩) hK hPw (fun U hU hW => hX.1.moved hW hU) (ci := 3) (q0 := 0) rfl rfl h0 rfl hl.1 rfl (lv_room (Nat.le_of_ble_eq_true rfl)) dL_gate_4 ⟨by decide, by decide⟩ (fun H1 q9 ce hz hk hce hcv hcl => ?_)
  refine vx_catch (name := "java/lang/IllegalStateException") hown [⟨0, 16, 19, 21⟩] ⟨0, 16, 22, 15⟩ [] (hct.trans rfl) (List.forall_mem_cons.mpr ⟨Or.inr ⟨by decide, "java/lang/IndexOutOfBoundsException", hts _ (by decide +kernel), hX.2 ("java/lang/IllegalStateException", "java/lang/IndexOutOfBoundsException") (by decide)⟩, (fun z h => nomatch h)⟩) (by decide) (by decide) (hts _ (by decide +kernel)) (h_cast hX (by decide)) hce hcv hcl ?_
  refine lv_astore_n (lv' := [(3, .ref q9), (0, .ref X0), (1, .int a0), (2, .ref O)]) hx hb dL_gate_22 rfl hl (by decide) rfl (fun ls hl => ?_)
  refine lv_iconst (v := 2) hx hb dL_gate_23 (by decide) ?_
  exact h_ret (by decide) (by decide) hx hb hr hlocks (⟨hz, fun q hq _ => hk q hq, fun _ h => nomatch h⟩ : va_S A s.heap H1 []) dL_gate_24 (hP.kept (fun k q hq => hk q.1 (vx_lt hP hq)))
set_option maxHeartbeats 1000000 in
set_option maxRecDepth 100000 in
theorem h_L_mend (l : Launch) (D : va_G) (y : Nat → ClassId) (X0 O : Nat) (a0 a1 : Int32) (g : Nat → Int64) (w w1 : va_W) (v : Int32) {rm : Room} (hM : ∀ sz, zM l yX3_mend wsX3_mend rm D y [.ref X0, .int a0, .int a1] w sz (some (.int v)) w1 0 0) (hrm : rm.cells = 0 ∧ rm.slots = 0 ∧ rm.frames ≤ 6 ∧ rm.locals ≤ 140) {fs : List Value} (h0 : w[0]? = some (X0, .inr (3, fs))) (had : w1.map Prod.fst = w.map Prod.fst) (sz : Nat) : zH l yL_mend wsL_mend D y [.ref X0, .int a0, .int a1, .ref O] (w ++ [oC O y g]) sz 0 (w1 ++ [oC O y (vp_updL g (0 : Int32).toNatClampNeg v.toInt64)]) := by
  refine zH.of (cc := cL_mend) (maxL := 5) (ret := (some .int)) (own := RL) (by decide) rfl (Nat.le_of_ble_eq_true rfl) rfl ?_
  intro p e s m args below meth cd ls A hx hb hr hml hown hts hlocks hct hP hK hD hA hX hl
  have hl : lv_has ls 5 [(0, .ref X0), (1, .int a0), (2, .int a1), (3, .ref O)] := hl
  have hPw : va_P D vwCl w s.heap := z_sub_P hP (fun z h => List.mem_append_left _ h)
  have hDw : va_D (fun _ => True) w := z_D_m (l1 := []) (l2 := [oC O y g]) hD
  refine lv_aload_n hx hb dL_mend_0 rfl (lv_at hl 3 rfl) ?_
  refine lv_iconst (v := 0) hx hb dL_mend_1 (by decide) ?_
  refine lv_aload_n hx hb dL_mend_2 rfl (lv_at hl 0 rfl) ?_
  refine lv_iload_n hx hb dL_mend_3 rfl (lv_at hl 1 rfl) ?_
  refine lv_iload_n hx hb dL_mend_4 rfl (lv_at hl 2 rfl) ?_
  refine zcMV (As := [.int a0, .int a1]) (rest := [.int 0, .ref O]) (st1 := [.int v, .int 0, .ref O]) (cells1 := 0) (slots1 := 0) ⟨hx, hb, hml, hown, hts⟩ (hM _) (cwV 2 hts gL_mend_X3_mend rfl hrm.1 hrm.2.1 (by decide +kernel) ⟨by show rm.frames + 1 ≤ 7; omega, by show 8 + (5 + 11) + rm.locals ≤ 200; omega⟩) hK hPw hDw (ci := 3) (q0 := 0) rfl rfl h0 rfl hl.1 rfl (lv_room (Nat.le_of_ble_eq_true rfl)) dL_mend_5 va_S.rf (z_sub_F hD va_S.rf hA (fun z h => List.mem_append_left _ h)) ⟨by decide, by decide⟩ rfl rfl rfl (fun H locs hP1 hz hfr hS => ?_)
  obtain ⟨hP, hD⟩ := z_seg (l1 := []) (w := w) (w1 := w1) (l2 := [oC O y g]) (ws1 := w1 ++ [oC O y g]) hP hD rfl rfl had hP1 hfr
  refine lv_i2l (v := v.toInt64) hx hb dL_mend_8 rfl ?_
  refine va_last hx hb hK hP hD hS (w1).length 3 (z_at_end _ _) rfl (i := 0) (by unfold vp_in; decide) dL_mend_9 (fun H locs hP hD hS => ?_)
  rw [z_set_end] at hP
  refine lv_goto (tgt := 25) hx hb dL_mend_10 (by decide) ?_
  refine lv_iconst (v := 0) hx hb dL_mend_25 (by decide) ?_
  exact h_ret (by decide) (by decide) hx hb hr hlocks hS dL_mend_26 hP
set_option maxHeartbeats 1000000 in
set_option maxRecDepth 100000 in
theorem h_L_mend_T1 (l : Launch) (D : va_G) (y : Nat → ClassId) (X0 O : Nat) (a0 a1 : Int32) (g : Nat → Int64) (w : va_W) {rm : Room} (hM : zT l yX3_mend wsX3_mend rm D y [.ref X0, .int a0, .int a1] w "java/lang/IndexOutOfBoundsException") (hrm : rm.cells = 1 ∧ rm.slots = 6 ∧ rm.frames ≤ 6 ∧ rm.locals ≤ 140) {fs : List Value} (h0 : w[0]? = some (X0, .inr (3, fs))) (sz : Nat) : zH l yL_mend wsL_mend D y [.ref X0, .int a0, .int a1, .ref O] (w ++ [oC O y g]) sz 1 (w ++ [oC O y g]) := by
  refine zH.of (cc := cL_mend) (maxL := 5) (ret := (some .int)) (own := RL) (by decide) rfl (Nat.le_of_ble_eq_true rfl) rfl ?_
  intro p e s m args below meth cd ls A hx hb hr hml hown hts hlocks hct hP hK hD hA hX hl
  have hl : lv_has ls 5 [(0, .ref X0), (1, .int a0), (2, .int a1), (3, .ref O)] := hl
  have hPw : va_P D vwCl w s.heap := z_sub_P hP (fun z h => List.mem_append_left _ h)
  have hDw : va_D (fun _ => True) w := z_D_m (l1 := []) (l2 := [oC O y g]) hD
  refine lv_aload_n hx hb dL_mend_0 rfl (lv_at hl 3 rfl) ?_
  refine lv_iconst (v := 0) hx hb dL_mend_1 (by decide) ?_
  refine lv_aload_n hx hb dL_mend_2 rfl (lv_at hl 0 rfl) ?_
  refine lv_iload_n hx hb dL_mend_3 rfl (lv_at hl 1 rfl) ?_
  refine lv_iload_n hx hb dL_mend_4 rfl (lv_at hl 2 rfl) ?_
  refine zcTV (As := [.int a0, .int a1]) (rest := [.int 0, .ref O]) ⟨hx, hb, hml, hown, hts⟩ hM (cwV 2 hts gL_mend_X3_mend rfl hrm.1 hrm.2.1 (by decide +kernel) ⟨by show rm.frames + 1 ≤ 7; omega, by show 8 + (5 + 11) + rm.locals ≤ 200; omega⟩) hK hPw (fun U hU hW => hX.1.moved hW hU) (ci := 3) (q0 := 0) rfl rfl h0 rfl hl.1 rfl (lv_room (Nat.le_of_ble_eq_true rfl)) dL_mend_5 ⟨by decide, by decide⟩ (fun H1 q9 ce hz hk hce hcv hcl => ?_)
  refine vx_catch (name := "java/lang/IndexOutOfBoundsException") hown [] ⟨0, 10, 13, 21⟩ [⟨0, 10, 17, 13⟩, ⟨0, 10, 21, 15⟩] (hct.trans rfl) (fun z h => nomatch h) (by decide) (by decide) (hts _ (by decide +kernel)) (h_cast hX (by decide)) hce hcv hcl ?_
  refine lv_astore (lv' := [(4, .ref q9), (0, .ref X0), (1, .int a0), (2, .int a1), (3, .ref O)]) hx hb dL_mend_13 hl (by decide) rfl (fun ls hl => ?_)
  refine lv_iconst (v := 1) hx hb dL_mend_15 (by decide) ?_
  exact h_ret (by decide) (by decide) hx hb hr hlocks (⟨hz, fun q hq _ => hk q hq, fun _ h => nomatch h⟩ : va_S A s.heap H1 []) dL_mend_16 (hP.kept (fun k q hq => hk q.1 (vx_lt hP hq)))
set_option maxHeartbeats 1000000 in
set_option maxRecDepth 100000 in
theorem h_L_mend_T2 (l : Launch) (D : va_G) (y : Nat → ClassId) (X0 O : Nat) (a0 a1 : Int32) (g : Nat → Int64) (w : va_W) {rm : Room} (hM : zT l yX3_mend wsX3_mend rm D y [.ref X0, .int a0, .int a1] w "java/lang/IllegalArgumentException") (hrm : rm.cells = 1 ∧ rm.slots = 6 ∧ rm.frames ≤ 6 ∧ rm.locals ≤ 140) {fs : List Value} (h0 : w[0]? = some (X0, .inr (3, fs))) (sz : Nat) : zH l yL_mend wsL_mend D y [.ref X0, .int a0, .int a1, .ref O] (w ++ [oC O y g]) sz 2 (w ++ [oC O y g]) := by
  refine zH.of (cc := cL_mend) (maxL := 5) (ret := (some .int)) (own := RL) (by decide) rfl (Nat.le_of_ble_eq_true rfl) rfl ?_
  intro p e s m args below meth cd ls A hx hb hr hml hown hts hlocks hct hP hK hD hA hX hl
  have hl : lv_has ls 5 [(0, .ref X0), (1, .int a0), (2, .int a1), (3, .ref O)] := hl
  have hPw : va_P D vwCl w s.heap := z_sub_P hP (fun z h => List.mem_append_left _ h)
  have hDw : va_D (fun _ => True) w := z_D_m (l1 := []) (l2 := [oC O y g]) hD
  refine lv_aload_n hx hb dL_mend_0 rfl (lv_at hl 3 rfl) ?_
  refine lv_iconst (v := 0) hx hb dL_mend_1 (by decide) ?_
  refine lv_aload_n hx hb dL_mend_2 rfl (lv_at hl 0 rfl) ?_
  refine lv_iload_n hx hb dL_mend_3 rfl (lv_at hl 1 rfl) ?_
  refine lv_iload_n hx hb dL_mend_4 rfl (lv_at hl 2 rfl) ?_
  refine zcTV (As := [.int a0, .int a1]) (rest := [.int 0, .ref O]) ⟨hx, hb, hml, hown, hts⟩ hM (cwV 2 hts gL_mend_X3_mend rfl hrm.1 hrm.2.1 (by decide +kernel) ⟨by show rm.frames + 1 ≤ 7; omega, by show 8 + (5 + 11) + rm.locals ≤ 200; omega⟩) hK hPw (fun U hU hW => hX.1.moved hW hU) (ci := 3) (q0 := 0) rfl rfl h0 rfl hl.1 rfl (lv_room (Nat.le_of_ble_eq_true rfl)) dL_mend_5 ⟨by decide, by decide⟩ (fun H1 q9 ce hz hk hce hcv hcl => ?_)
  refine vx_catch (name := "java/lang/IllegalArgumentException") hown [⟨0, 10, 13, 21⟩] ⟨0, 10, 17, 13⟩ [⟨0, 10, 21, 15⟩] (hct.trans rfl) (List.forall_mem_cons.mpr ⟨Or.inr ⟨by decide, "java/lang/IndexOutOfBoundsException", hts _ (by decide +kernel), hX.2 ("java/lang/IllegalArgumentException", "java/lang/IndexOutOfBoundsException") (by decide)⟩, (fun z h => nomatch h)⟩) (by decide) (by decide) (hts _ (by decide +kernel)) (h_cast hX (by decide)) hce hcv hcl ?_
  refine lv_astore (lv' := [(4, .ref q9), (0, .ref X0), (1, .int a0), (2, .int a1), (3, .ref O)]) hx hb dL_mend_17 hl (by decide) rfl (fun ls hl => ?_)
  refine lv_iconst (v := 2) hx hb dL_mend_19 (by decide) ?_
  exact h_ret (by decide) (by decide) hx hb hr hlocks (⟨hz, fun q hq _ => hk q hq, fun _ h => nomatch h⟩ : va_S A s.heap H1 []) dL_mend_20 (hP.kept (fun k q hq => hk q.1 (vx_lt hP hq)))
set_option maxHeartbeats 1000000 in
set_option maxRecDepth 100000 in
theorem h_L_mend_T3 (l : Launch) (D : va_G) (y : Nat → ClassId) (X0 O : Nat) (a0 a1 : Int32) (g : Nat → Int64) (w : va_W) {rm : Room} (hM : zT l yX3_mend wsX3_mend rm D y [.ref X0, .int a0, .int a1] w "java/lang/IllegalStateException") (hrm : rm.cells = 1 ∧ rm.slots = 6 ∧ rm.frames ≤ 6 ∧ rm.locals ≤ 140) {fs : List Value} (h0 : w[0]? = some (X0, .inr (3, fs))) (sz : Nat) : zH l yL_mend wsL_mend D y [.ref X0, .int a0, .int a1, .ref O] (w ++ [oC O y g]) sz 3 (w ++ [oC O y g]) := by
  refine zH.of (cc := cL_mend) (maxL := 5) (ret := (some .int)) (own := RL) (by decide) rfl (Nat.le_of_ble_eq_true rfl) rfl ?_
  intro p e s m args below meth cd ls A hx hb hr hml hown hts hlocks hct hP hK hD hA hX hl
  have hl : lv_has ls 5 [(0, .ref X0), (1, .int a0), (2, .int a1), (3, .ref O)] := hl
  have hPw : va_P D vwCl w s.heap := z_sub_P hP (fun z h => List.mem_append_left _ h)
  have hDw : va_D (fun _ => True) w := z_D_m (l1 := []) (l2 := [oC O y g]) hD
  refine lv_aload_n hx hb dL_mend_0 rfl (lv_at hl 3 rfl) ?_
  refine lv_iconst (v := 0) hx hb dL_mend_1 (by decide) ?_
  refine lv_aload_n hx hb dL_mend_2 rfl (lv_at hl 0 rfl) ?_
  refine lv_iload_n hx hb dL_mend_3 rfl (lv_at hl 1 rfl) ?_
  refine lv_iload_n hx hb dL_mend_4 rfl (lv_at hl 2 rfl) ?_
  refine zcTV (As := [.int a0, .int a1]) (rest := [.int 0, .ref O]) ⟨hx, hb, hml, hown, hts⟩ hM (cwV 2 hts gL_mend_X3_mend rfl hrm.1 hrm.2.1 (by decide +kernel) ⟨by show rm.frames + 1 ≤ 7; omega, by show 8 + (5 + 11) + rm.locals ≤ 200; omega⟩) hK hPw (fun U hU hW => hX.1.moved hW hU) (ci := 3) (q0 := 0) rfl rfl h0 rfl hl.1 rfl (lv_room (Nat.le_of_ble_eq_true rfl)) dL_mend_5 ⟨by decide, by decide⟩ (fun H1 q9 ce hz hk hce hcv hcl => ?_)
  refine vx_catch (name := "java/lang/IllegalStateException") hown [⟨0, 10, 13, 21⟩, ⟨0, 10, 17, 13⟩] ⟨0, 10, 21, 15⟩ [] (hct.trans rfl) (List.forall_mem_cons.mpr ⟨Or.inr ⟨by decide, "java/lang/IndexOutOfBoundsException", hts _ (by decide +kernel), hX.2 ("java/lang/IllegalStateException", "java/lang/IndexOutOfBoundsException") (by decide)⟩, (List.forall_mem_cons.mpr ⟨Or.inr ⟨by decide, "java/lang/IllegalArgumentException", hts _ (by decide +kernel), hX.2 ("java/lang/IllegalStateException", "java/lang/IllegalArgumentException") (by decide)⟩, (fun z h => nomatch h)⟩)⟩) (by decide) (by decide) (hts _ (by decide +kernel)) (h_cast hX (by decide)) hce hcv hcl ?_
  refine lv_astore (lv' := [(4, .ref q9), (0, .ref X0), (1, .int a0), (2, .int a1), (3, .ref O)]) hx hb dL_mend_21 hl (by decide) rfl (fun ls hl => ?_)
  refine lv_iconst (v := 3) hx hb dL_mend_23 (by decide) ?_
  exact h_ret (by decide) (by decide) hx hb hr hlocks (⟨hz, fun q hq _ => hk q hq, fun _ h => nomatch h⟩ : va_S A s.heap H1 []) dL_mend_24 (hP.kept (fun k q hq => hk q.1 (vx_lt hP hq)))
set_option maxHeartbeats 1000000 in
set_option maxRecDepth 100000 in
theorem h_L_drive (l : Launch) (D : va_G) (y : Nat → ClassId) (X0 O : Nat) (a0 a1 : Int32) (g : Nat → Int64) (w w1 : va_W) (v : Int32) {rm : Room} (hM : ∀ sz, zM l yX3_drive wsX3_drive rm D y [.ref X0, .int a0, .int a1] w sz (some (.int v)) w1 0 0) (hrm : rm.cells = 0 ∧ rm.slots = 0 ∧ rm.frames ≤ 6 ∧ rm.locals ≤ 140) {fs : List Value} (h0 : w[0]? = some (X0, .inr (3, fs))) (had : w1.map Prod.fst = w.map Prod.fst) (sz : Nat) : zH l yL_drive wsL_drive D y [.ref X0, .int a0, .int a1, .ref O] (w ++ [oC O y g]) sz 0 (w1 ++ [oC O y (vp_updL g (0 : Int32).toNatClampNeg v.toInt64)]) := by
  refine zH.of (cc := cL_drive) (maxL := 5) (ret := (some .int)) (own := RL) (by decide) rfl (Nat.le_of_ble_eq_true rfl) rfl ?_
  intro p e s m args below meth cd ls A hx hb hr hml hown hts hlocks hct hP hK hD hA hX hl
  have hl : lv_has ls 5 [(0, .ref X0), (1, .int a0), (2, .int a1), (3, .ref O)] := hl
  have hPw : va_P D vwCl w s.heap := z_sub_P hP (fun z h => List.mem_append_left _ h)
  have hDw : va_D (fun _ => True) w := z_D_m (l1 := []) (l2 := [oC O y g]) hD
  refine lv_aload_n hx hb dL_drive_0 rfl (lv_at hl 3 rfl) ?_
  refine lv_iconst (v := 0) hx hb dL_drive_1 (by decide) ?_
  refine lv_aload_n hx hb dL_drive_2 rfl (lv_at hl 0 rfl) ?_
  refine lv_iload_n hx hb dL_drive_3 rfl (lv_at hl 1 rfl) ?_
  refine lv_iload_n hx hb dL_drive_4 rfl (lv_at hl 2 rfl) ?_
  refine zcMV (As := [.int a0, .int a1]) (rest := [.int 0, .ref O]) (st1 := [.int v, .int 0, .ref O]) (cells1 := 0) (slots1 := 0) ⟨hx, hb, hml, hown, hts⟩ (hM _) (cwV 2 hts gL_drive_X3_drive rfl hrm.1 hrm.2.1 (by decide +kernel) ⟨by show rm.frames + 1 ≤ 7; omega, by show 8 + (5 + 11) + rm.locals ≤ 200; omega⟩) hK hPw hDw (ci := 3) (q0 := 0) rfl rfl h0 rfl hl.1 rfl (lv_room (Nat.le_of_ble_eq_true rfl)) dL_drive_5 va_S.rf (z_sub_F hD va_S.rf hA (fun z h => List.mem_append_left _ h)) ⟨by decide, by decide⟩ rfl rfl rfl (fun H locs hP1 hz hfr hS => ?_)
  obtain ⟨hP, hD⟩ := z_seg (l1 := []) (w := w) (w1 := w1) (l2 := [oC O y g]) (ws1 := w1 ++ [oC O y g]) hP hD rfl rfl had hP1 hfr
  refine lv_i2l (v := v.toInt64) hx hb dL_drive_8 rfl ?_
  refine va_last hx hb hK hP hD hS (w1).length 3 (z_at_end _ _) rfl (i := 0) (by unfold vp_in; decide) dL_drive_9 (fun H locs hP hD hS => ?_)
  rw [z_set_end] at hP
  refine lv_goto (tgt := 25) hx hb dL_drive_10 (by decide) ?_
  refine lv_iconst (v := 0) hx hb dL_drive_25 (by decide) ?_
  exact h_ret (by decide) (by decide) hx hb hr hlocks hS dL_drive_26 hP
set_option maxHeartbeats 1000000 in
set_option maxRecDepth 100000 in
theorem h_L_drive_T1 (l : Launch) (D : va_G) (y : Nat → ClassId) (X0 O : Nat) (a0 a1 : Int32) (g : Nat → Int64) (w : va_W) {rm : Room} (hM : zT l yX3_drive wsX3_drive rm D y [.ref X0, .int a0, .int a1] w "java/lang/IndexOutOfBoundsException") (hrm : rm.cells = 1 ∧ rm.slots = 6 ∧ rm.frames ≤ 6 ∧ rm.locals ≤ 140) {fs : List Value} (h0 : w[0]? = some (X0, .inr (3, fs))) (sz : Nat) : zH l yL_drive wsL_drive D y [.ref X0, .int a0, .int a1, .ref O] (w ++ [oC O y g]) sz 1 (w ++ [oC O y g]) := by
  refine zH.of (cc := cL_drive) (maxL := 5) (ret := (some .int)) (own := RL) (by decide) rfl (Nat.le_of_ble_eq_true rfl) rfl ?_
  intro p e s m args below meth cd ls A hx hb hr hml hown hts hlocks hct hP hK hD hA hX hl
  have hl : lv_has ls 5 [(0, .ref X0), (1, .int a0), (2, .int a1), (3, .ref O)] := hl
  have hPw : va_P D vwCl w s.heap := z_sub_P hP (fun z h => List.mem_append_left _ h)
  have hDw : va_D (fun _ => True) w := z_D_m (l1 := []) (l2 := [oC O y g]) hD
  refine lv_aload_n hx hb dL_drive_0 rfl (lv_at hl 3 rfl) ?_
  refine lv_iconst (v := 0) hx hb dL_drive_1 (by decide) ?_
  refine lv_aload_n hx hb dL_drive_2 rfl (lv_at hl 0 rfl) ?_
  refine lv_iload_n hx hb dL_drive_3 rfl (lv_at hl 1 rfl) ?_
  refine lv_iload_n hx hb dL_drive_4 rfl (lv_at hl 2 rfl) ?_
  refine zcTV (As := [.int a0, .int a1]) (rest := [.int 0, .ref O]) ⟨hx, hb, hml, hown, hts⟩ hM (cwV 2 hts gL_drive_X3_drive rfl hrm.1 hrm.2.1 (by decide +kernel) ⟨by show rm.frames + 1 ≤ 7; omega, by show 8 + (5 + 11) + rm.locals ≤ 200; omega⟩) hK hPw (fun U hU hW => hX.1.moved hW hU) (ci := 3) (q0 := 0) rfl rfl h0 rfl hl.1 rfl (lv_room (Nat.le_of_ble_eq_true rfl)) dL_drive_5 ⟨by decide, by decide⟩ (fun H1 q9 ce hz hk hce hcv hcl => ?_)
  refine vx_catch (name := "java/lang/IndexOutOfBoundsException") hown [] ⟨0, 10, 13, 21⟩ [⟨0, 10, 17, 13⟩, ⟨0, 10, 21, 15⟩] (hct.trans rfl) (fun z h => nomatch h) (by decide) (by decide) (hts _ (by decide +kernel)) (h_cast hX (by decide)) hce hcv hcl ?_
  refine lv_astore (lv' := [(4, .ref q9), (0, .ref X0), (1, .int a0), (2, .int a1), (3, .ref O)]) hx hb dL_drive_13 hl (by decide) rfl (fun ls hl => ?_)
  refine lv_iconst (v := 1) hx hb dL_drive_15 (by decide) ?_
  exact h_ret (by decide) (by decide) hx hb hr hlocks (⟨hz, fun q hq _ => hk q hq, fun _ h => nomatch h⟩ : va_S A s.heap H1 []) dL_drive_16 (hP.kept (fun k q hq => hk q.1 (vx_lt hP hq)))
set_option maxHeartbeats 1000000 in
set_option maxRecDepth 100000 in
theorem h_L_drive_T2 (l : Launch) (D : va_G) (y : Nat → ClassId) (X0 O : Nat) (a0 a1 : Int32) (g : Nat → Int64) (w : va_W) {rm : Room} (hM : zT l yX3_drive wsX3_drive rm D y [.ref X0, .int a0, .int a1] w "java/lang/IllegalArgumentException") (hrm : rm.cells = 1 ∧ rm.slots = 6 ∧ rm.frames ≤ 6 ∧ rm.locals ≤ 140) {fs : List Value} (h0 : w[0]? = some (X0, .inr (3, fs))) (sz : Nat) : zH l yL_drive wsL_drive D y [.ref X0, .int a0, .int a1, .ref O] (w ++ [oC O y g]) sz 2 (w ++ [oC O y g]) := by
  refine zH.of (cc := cL_drive) (maxL := 5) (ret := (some .int)) (own := RL) (by decide) rfl (Nat.le_of_ble_eq_true rfl) rfl ?_
  intro p e s m args below meth cd ls A hx hb hr hml hown hts hlocks hct hP hK hD hA hX hl
  have hl : lv_has ls 5 [(0, .ref X0), (1, .int a0), (2, .int a1), (3, .ref O)] := hl
  have hPw : va_P D vwCl w s.heap := z_sub_P hP (fun z h => List.mem_append_left _ h)
  have hDw : va_D (fun _ => True) w := z_D_m (l1 := []) (l2 := [oC O y g]) hD
  refine lv_aload_n hx hb dL_drive_0 rfl (lv_at hl 3 rfl) ?_
  refine lv_iconst (v := 0) hx hb dL_drive_1 (by decide) ?_
  refine lv_aload_n hx hb dL_drive_2 rfl (lv_at hl 0 rfl) ?_
  refine lv_iload_n hx hb dL_drive_3 rfl (lv_at hl 1 rfl) ?_
  refine lv_iload_n hx hb dL_drive_4 rfl (lv_at hl 2 rfl) ?_
  refine zcTV (As := [.int a0, .int a1]) (rest := [.int 0, .ref O]) ⟨hx, hb, hml, hown, hts⟩ hM (cwV 2 hts gL_drive_X3_drive rfl hrm.1 hrm.2.1 (by decide +kernel) ⟨by show rm.frames + 1 ≤ 7; omega, by show 8 + (5 + 11) + rm.locals ≤ 200; omega⟩) hK hPw (fun U hU hW => hX.1.moved hW hU) (ci := 3) (q0 := 0) rfl rfl h0 rfl hl.1 rfl (lv_room (Nat.le_of_ble_eq_true rfl)) dL_drive_5 ⟨by decide, by decide⟩ (fun H1 q9 ce hz hk hce hcv hcl => ?_)
  refine vx_catch (name := "java/lang/IllegalArgumentException") hown [⟨0, 10, 13, 21⟩] ⟨0, 10, 17, 13⟩ [⟨0, 10, 21, 15⟩] (hct.trans rfl) (List.forall_mem_cons.mpr ⟨Or.inr ⟨by decide, "java/lang/IndexOutOfBoundsException", hts _ (by decide +kernel), hX.2 ("java/lang/IllegalArgumentException", "java/lang/IndexOutOfBoundsException") (by decide)⟩, (fun z h => nomatch h)⟩) (by decide) (by decide) (hts _ (by decide +kernel)) (h_cast hX (by decide)) hce hcv hcl ?_
  refine lv_astore (lv' := [(4, .ref q9), (0, .ref X0), (1, .int a0), (2, .int a1), (3, .ref O)]) hx hb dL_drive_17 hl (by decide) rfl (fun ls hl => ?_)
  refine lv_iconst (v := 2) hx hb dL_drive_19 (by decide) ?_
  exact h_ret (by decide) (by decide) hx hb hr hlocks (⟨hz, fun q hq _ => hk q hq, fun _ h => nomatch h⟩ : va_S A s.heap H1 []) dL_drive_20 (hP.kept (fun k q hq => hk q.1 (vx_lt hP hq)))
set_option maxHeartbeats 1000000 in
set_option maxRecDepth 100000 in
theorem h_L_drive_T3 (l : Launch) (D : va_G) (y : Nat → ClassId) (X0 O : Nat) (a0 a1 : Int32) (g : Nat → Int64) (w : va_W) {rm : Room} (hM : zT l yX3_drive wsX3_drive rm D y [.ref X0, .int a0, .int a1] w "java/lang/IllegalStateException") (hrm : rm.cells = 1 ∧ rm.slots = 6 ∧ rm.frames ≤ 6 ∧ rm.locals ≤ 140) {fs : List Value} (h0 : w[0]? = some (X0, .inr (3, fs))) (sz : Nat) : zH l yL_drive wsL_drive D y [.ref X0, .int a0, .int a1, .ref O] (w ++ [oC O y g]) sz 3 (w ++ [oC O y g]) := by
  refine zH.of (cc := cL_drive) (maxL := 5) (ret := (some .int)) (own := RL) (by decide) rfl (Nat.le_of_ble_eq_true rfl) rfl ?_
  intro p e s m args below meth cd ls A hx hb hr hml hown hts hlocks hct hP hK hD hA hX hl
  have hl : lv_has ls 5 [(0, .ref X0), (1, .int a0), (2, .int a1), (3, .ref O)] := hl
  have hPw : va_P D vwCl w s.heap := z_sub_P hP (fun z h => List.mem_append_left _ h)
  have hDw : va_D (fun _ => True) w := z_D_m (l1 := []) (l2 := [oC O y g]) hD
  refine lv_aload_n hx hb dL_drive_0 rfl (lv_at hl 3 rfl) ?_
  refine lv_iconst (v := 0) hx hb dL_drive_1 (by decide) ?_
  refine lv_aload_n hx hb dL_drive_2 rfl (lv_at hl 0 rfl) ?_
  refine lv_iload_n hx hb dL_drive_3 rfl (lv_at hl 1 rfl) ?_
  refine lv_iload_n hx hb dL_drive_4 rfl (lv_at hl 2 rfl) ?_
  refine zcTV (As := [.int a0, .int a1]) (rest := [.int 0, .ref O]) ⟨hx, hb, hml, hown, hts⟩ hM (cwV 2 hts gL_drive_X3_drive rfl hrm.1 hrm.2.1 (by decide +kernel) ⟨by show rm.frames + 1 ≤ 7; omega, by show 8 + (5 + 11) + rm.locals ≤ 200; omega⟩) hK hPw (fun U hU hW => hX.1.moved hW hU) (ci := 3) (q0 := 0) rfl rfl h0 rfl hl.1 rfl (lv_room (Nat.le_of_ble_eq_true rfl)) dL_drive_5 ⟨by decide, by decide⟩ (fun H1 q9 ce hz hk hce hcv hcl => ?_)
  refine vx_catch (name := "java/lang/IllegalStateException") hown [⟨0, 10, 13, 21⟩, ⟨0, 10, 17, 13⟩] ⟨0, 10, 21, 15⟩ [] (hct.trans rfl) (List.forall_mem_cons.mpr ⟨Or.inr ⟨by decide, "java/lang/IndexOutOfBoundsException", hts _ (by decide +kernel), hX.2 ("java/lang/IllegalStateException", "java/lang/IndexOutOfBoundsException") (by decide)⟩, (List.forall_mem_cons.mpr ⟨Or.inr ⟨by decide, "java/lang/IllegalArgumentException", hts _ (by decide +kernel), hX.2 ("java/lang/IllegalStateException", "java/lang/IllegalArgumentException") (by decide)⟩, (fun z h => nomatch h)⟩)⟩) (by decide) (by decide) (hts _ (by decide +kernel)) (h_cast hX (by decide)) hce hcv hcl ?_
  refine lv_astore (lv' := [(4, .ref q9), (0, .ref X0), (1, .int a0), (2, .int a1), (3, .ref O)]) hx hb dL_drive_21 hl (by decide) rfl (fun ls hl => ?_)
  refine lv_iconst (v := 3) hx hb dL_drive_23 (by decide) ?_
  exact h_ret (by decide) (by decide) hx hb hr hlocks (⟨hz, fun q hq _ => hk q hq, fun _ h => nomatch h⟩ : va_S A s.heap H1 []) dL_drive_24 (hP.kept (fun k q hq => hk q.1 (vx_lt hP hq)))
set_option maxHeartbeats 1000000 in
set_option maxRecDepth 100000 in
theorem h_L_sell (l : Launch) (D : va_G) (y : Nat → ClassId) (X0 O : Nat) (a0 : Int32) (g : Nat → Int64) (w w1 : va_W) (v : Int32) {rm : Room} (hM : ∀ sz, zM l yX3_sell wsX3_sell rm D y [.ref X0, .int a0] w sz (some (.int v)) w1 0 0) (hrm : rm.cells = 0 ∧ rm.slots = 0 ∧ rm.frames ≤ 6 ∧ rm.locals ≤ 140) {fs : List Value} (h0 : w[0]? = some (X0, .inr (3, fs))) (had : w1.map Prod.fst = w.map Prod.fst) (sz : Nat) : zH l yL_sell wsL_sell D y [.ref X0, .int a0, .ref O] (w ++ [oC O y g]) sz 0 (w1 ++ [oC O y (vp_updL g (0 : Int32).toNatClampNeg v.toInt64)]) := by
  refine zH.of (cc := cL_sell) (maxL := 4) (ret := (some .int)) (own := RL) (by decide) rfl (Nat.le_of_ble_eq_true rfl) rfl ?_
  intro p e s m args below meth cd ls A hx hb hr hml hown hts hlocks hct hP hK hD hA hX hl
  have hl : lv_has ls 4 [(0, .ref X0), (1, .int a0), (2, .ref O)] := hl
  have hPw : va_P D vwCl w s.heap := z_sub_P hP (fun z h => List.mem_append_left _ h)
  have hDw : va_D (fun _ => True) w := z_D_m (l1 := []) (l2 := [oC O y g]) hD
  refine lv_aload_n hx hb dL_sell_0 rfl (lv_at hl 2 rfl) ?_
  refine lv_iconst (v := 0) hx hb dL_sell_1 (by decide) ?_
  refine lv_aload_n hx hb dL_sell_2 rfl (lv_at hl 0 rfl) ?_
  refine lv_iload_n hx hb dL_sell_3 rfl (lv_at hl 1 rfl) ?_
  refine zcMV (As := [.int a0]) (rest := [.int 0, .ref O]) (st1 := [.int v, .int 0, .ref O]) (cells1 := 0) (slots1 := 0) ⟨hx, hb, hml, hown, hts⟩ (hM _) (cwV 1 hts gL_sell_X3_sell rfl hrm.1 hrm.2.1 (by decide +kernel) ⟨by show rm.frames + 1 ≤ 7; omega, by show 8 + (4 + 11) + rm.locals ≤ 200; omega⟩) hK hPw hDw (ci := 3) (q0 := 0) rfl rfl h0 rfl hl.1 rfl (lv_room (Nat.le_of_ble_eq_true rfl)) dL_sell_4 va_S.rf (z_sub_F hD va_S.rf hA (fun z h => List.mem_append_left _ h)) ⟨by decide, by decide⟩ rfl rfl rfl (fun H locs hP1 hz hfr hS => ?_)
  obtain ⟨hP, hD⟩ := z_seg (l1 := []) (w := w) (w1 := w1) (l2 := [oC O y g]) (ws1 := w1 ++ [oC O y g]) hP hD rfl rfl had hP1 hfr
  refine lv_i2l (v := v.toInt64) hx hb dL_sell_7 rfl ?_
  refine va_last hx hb hK hP hD hS (w1).length 3 (z_at_end _ _) rfl (i := 0) (by unfold vp_in; decide) dL_sell_8 (fun H locs hP hD hS => ?_)
  rw [z_set_end] at hP
  refine lv_goto (tgt := 18) hx hb dL_sell_9 (by decide) ?_
  refine lv_iconst (v := 0) hx hb dL_sell_18 (by decide) ?_
  exact h_ret (by decide) (by decide) hx hb hr hlocks hS dL_sell_19 hP
set_option maxHeartbeats 1000000 in
set_option maxRecDepth 100000 in
theorem h_L_sell_T1 (l : Launch) (D : va_G) (y : Nat → ClassId) (X0 O : Nat) (a0 : Int32) (g : Nat → Int64) (w : va_W) {rm : Room} (hM : zT l yX3_sell wsX3_sell rm D y [.ref X0, .int a0] w "java/lang/IndexOutOfBoundsException") (hrm : rm.cells = 1 ∧ rm.slots = 6 ∧ rm.frames ≤ 6 ∧ rm.locals ≤ 140) {fs : List Value} (h0 : w[0]? = some (X0, .inr (3, fs))) (sz : Nat) : zH l yL_sell wsL_sell D y [.ref X0, .int a0, .ref O] (w ++ [oC O y g]) sz 1 (w ++ [oC O y g]) := by
  refine zH.of (cc := cL_sell) (maxL := 4) (ret := (some .int)) (own := RL) (by decide) rfl (Nat.le_of_ble_eq_true rfl) rfl ?_
  intro p e s m args below meth cd ls A hx hb hr hml hown hts hlocks hct hP hK hD hA hX hl
  have hl : lv_has ls 4 [(0, .ref X0), (1, .int a0), (2, .ref O)] := hl
  have hPw : va_P D vwCl w s.heap := z_sub_P hP (fun z h => List.mem_append_left _ h)
  have hDw : va_D (fun _ => True) w := z_D_m (l1 := []) (l2 := [oC O y g]) hD
  refine lv_aload_n hx hb dL_sell_0 rfl (lv_at hl 2 rfl) ?_
  refine lv_iconst (v := 0) hx hb dL_sell_1 (by decide) ?_
  refine lv_aload_n hx hb dL_sell_2 rfl (lv_at hl 0 rfl) ?_
  refine lv_iload_n hx hb dL_sell_3 rfl (lv_at hl 1 rfl) ?_
  refine zcTV (As := [.int a0]) (rest := [.int 0, .ref O]) ⟨hx, hb, hml, hown, hts⟩ hM (cwV 1 hts gL_sell_X3_sell rfl hrm.1 hrm.2.1 (by decide +kernel) ⟨by show rm.frames + 1 ≤ 7; omega, by show 8 + (4 + 11) + rm.locals ≤ 200; omega⟩) hK hPw (fun U hU hW => hX.1.moved hW hU) (ci := 3) (q0 := 0) rfl rfl h0 rfl hl.1 rfl (lv_room (Nat.le_of_ble_eq_true rfl)) dL_sell_4 ⟨by decide, by decide⟩ (fun H1 q9 ce hz hk hce hcv hcl => ?_)
  refine vx_catch (name := "java/lang/IndexOutOfBoundsException") hown [] ⟨0, 9, 12, 21⟩ [⟨0, 9, 15, 15⟩] (hct.trans rfl) (fun z h => nomatch h) (by decide) (by decide) (hts _ (by decide +kernel)) (h_cast hX (by decide)) hce hcv hcl ?_
  refine lv_astore_n (lv' := [(3, .ref q9), (0, .ref X0), (1, .int a0), (2, .ref O)]) hx hb dL_sell_12 rfl hl (by decide) rfl (fun ls hl => ?_)
  refine lv_iconst (v := 1) hx hb dL_sell_13 (by decide) ?_
  exact h_ret (by decide) (by decide) hx hb hr hlocks (⟨hz, fun q hq _ => hk q hq, fun _ h => nomatch h⟩ : va_S A s.heap H1 []) dL_sell_14 (hP.kept (fun k q hq => hk q.1 (vx_lt hP hq)))
set_option maxHeartbeats 1000000 in
set_option maxRecDepth 100000 in
theorem h_L_sell_T2 (l : Launch) (D : va_G) (y : Nat → ClassId) (X0 O : Nat) (a0 : Int32) (g : Nat → Int64) (w : va_W) {rm : Room} (hM : zT l yX3_sell wsX3_sell rm D y [.ref X0, .int a0] w "java/lang/IllegalStateException") (hrm : rm.cells = 1 ∧ rm.slots = 6 ∧ rm.frames ≤ 6 ∧ rm.locals ≤ 140) {fs : List Value} (h0 : w[0]? = some (X0, .inr (3, fs))) (sz : Nat) : zH l yL_sell wsL_sell D y [.ref X0, .int a0, .ref O] (w ++ [oC O y g]) sz 2 (w ++ [oC O y g]) := by
  refine zH.of (cc := cL_sell) (maxL := 4) (ret := (some .int)) (own := RL) (by decide) rfl (Nat.le_of_ble_eq_true rfl) rfl ?_
  intro p e s m args below meth cd ls A hx hb hr hml hown hts hlocks hct hP hK hD hA hX hl
  have hl : lv_has ls 4 [(0, .ref X0), (1, .int a0), (2, .ref O)] := hl
  have hPw : va_P D vwCl w s.heap := z_sub_P hP (fun z h => List.mem_append_left _ h)
  have hDw : va_D (fun _ => True) w := z_D_m (l1 := []) (l2 := [oC O y g]) hD
  refine lv_aload_n hx hb dL_sell_0 rfl (lv_at hl 2 rfl) ?_
  refine lv_iconst (v := 0) hx hb dL_sell_1 (by decide) ?_
  refine lv_aload_n hx hb dL_sell_2 rfl (lv_at hl 0 rfl) ?_
  refine lv_iload_n hx hb dL_sell_3 rfl (lv_at hl 1 rfl) ?_
  refine zcTV (As := [.int a0]) (rest := [.int 0, .ref O]) ⟨hx, hb, hml, hown, hts⟩ hM (cwV 1 hts gL_sell_X3_sell rfl hrm.1 hrm.2.1 (by decide +kernel) ⟨by show rm.frames + 1 ≤ 7; omega, by show 8 + (4 + 11) + rm.locals ≤ 200; omega⟩) hK hPw (fun U hU hW => hX.1.moved hW hU) (ci := 3) (q0 := 0) rfl rfl h0 rfl hl.1 rfl (lv_room (Nat.le_of_ble_eq_true rfl)) dL_sell_4 ⟨by decide, by decide⟩ (fun H1 q9 ce hz hk hce hcv hcl => ?_)
  refine vx_catch (name := "java/lang/IllegalStateException") hown [⟨0, 9, 12, 21⟩] ⟨0, 9, 15, 15⟩ [] (hct.trans rfl) (List.forall_mem_cons.mpr ⟨Or.inr ⟨by decide, "java/lang/IndexOutOfBoundsException", hts _ (by decide +kernel), hX.2 ("java/lang/IllegalStateException", "java/lang/IndexOutOfBoundsException") (by decide)⟩, (fun z h => nomatch h)⟩) (by decide) (by decide) (hts _ (by decide +kernel)) (h_cast hX (by decide)) hce hcv hcl ?_
  refine lv_astore_n (lv' := [(3, .ref q9), (0, .ref X0), (1, .int a0), (2, .ref O)]) hx hb dL_sell_15 rfl hl (by decide) rfl (fun ls hl => ?_)
  refine lv_iconst (v := 2) hx hb dL_sell_16 (by decide) ?_
  exact h_ret (by decide) (by decide) hx hb hr hlocks (⟨hz, fun q hq _ => hk q hq, fun _ h => nomatch h⟩ : va_S A s.heap H1 []) dL_sell_17 (hP.kept (fun k q hq => hk q.1 (vx_lt hP hq)))
set_option maxHeartbeats 1000000 in
set_option maxRecDepth 100000 in
theorem h_L_setRun (l : Launch) (D : va_G) (y : Nat → ClassId) (X0 O : Nat) (a0 a1 : Int32) (g : Nat → Int64) (w w1 : va_W) (v : Int32) {rm : Room} (hM : ∀ sz, zM l yX3_setRun wsX3_setRun rm D y [.ref X0, .int a0, .int a1] w sz (some (.int v)) w1 0 0) (hrm : rm.cells = 0 ∧ rm.slots = 0 ∧ rm.frames ≤ 6 ∧ rm.locals ≤ 140) {fs : List Value} (h0 : w[0]? = some (X0, .inr (3, fs))) (had : w1.map Prod.fst = w.map Prod.fst) (sz : Nat) : zH l yL_setRun wsL_setRun D y [.ref X0, .int a0, .int a1, .ref O] (w ++ [oC O y g]) sz 0 (w1 ++ [oC O y (vp_updL g (0 : Int32).toNatClampNeg v.toInt64)]) := by
  refine zH.of (cc := cL_setRun) (maxL := 5) (ret := (some .int)) (own := RL) (by decide) rfl (Nat.le_of_ble_eq_true rfl) rfl ?_
  intro p e s m args below meth cd ls A hx hb hr hml hown hts hlocks hct hP hK hD hA hX hl
  have hl : lv_has ls 5 [(0, .ref X0), (1, .int a0), (2, .int a1), (3, .ref O)] := hl
  have hPw : va_P D vwCl w s.heap := z_sub_P hP (fun z h => List.mem_append_left _ h)
  have hDw : va_D (fun _ => True) w := z_D_m (l1 := []) (l2 := [oC O y g]) hD
  refine lv_aload_n hx hb dL_setRun_0 rfl (lv_at hl 3 rfl) ?_
  refine lv_iconst (v := 0) hx hb dL_setRun_1 (by decide) ?_
  refine lv_aload_n hx hb dL_setRun_2 rfl (lv_at hl 0 rfl) ?_
  refine lv_iload_n hx hb dL_setRun_3 rfl (lv_at hl 1 rfl) ?_
  refine lv_iload_n hx hb dL_setRun_4 rfl (lv_at hl 2 rfl) ?_
  refine zcMV (As := [.int a0, .int a1]) (rest := [.int 0, .ref O]) (st1 := [.int v, .int 0, .ref O]) (cells1 := 0) (slots1 := 0) ⟨hx, hb, hml, hown, hts⟩ (hM _) (cwV 2 hts gL_setRun_X3_setRun rfl hrm.1 hrm.2.1 (by decide +kernel) ⟨by show rm.frames + 1 ≤ 7; omega, by show 8 + (4 + 11) + rm.locals ≤ 200; omega⟩) hK hPw hDw (ci := 3) (q0 := 0) rfl rfl h0 rfl hl.1 rfl (lv_room (Nat.le_of_ble_eq_true rfl)) dL_setRun_5 va_S.rf (z_sub_F hD va_S.rf hA (fun z h => List.mem_append_left _ h)) ⟨by decide, by decide⟩ rfl rfl rfl (fun H locs hP1 hz hfr hS => ?_)
  obtain ⟨hP, hD⟩ := z_seg (l1 := []) (w := w) (w1 := w1) (l2 := [oC O y g]) (ws1 := w1 ++ [oC O y g]) hP hD rfl rfl had hP1 hfr
  refine lv_i2l (v := v.toInt64) hx hb dL_setRun_8 rfl ?_
  refine va_last hx hb hK hP hD hS (w1).length 3 (z_at_end _ _) rfl (i := 0) (by unfold vp_in; decide) dL_setRun_9 (fun H locs hP hD hS => ?_)
  rw [z_set_end] at hP
  refine lv_goto (tgt := 21) hx hb dL_setRun_10 (by decide) ?_
  refine lv_iconst (v := 0) hx hb dL_setRun_21 (by decide) ?_
  exact h_ret (by decide) (by decide) hx hb hr hlocks hS dL_setRun_22 hP
set_option maxHeartbeats 1000000 in
set_option maxRecDepth 100000 in
theorem h_L_setRun_T1 (l : Launch) (D : va_G) (y : Nat → ClassId) (X0 O : Nat) (a0 a1 : Int32) (g : Nat → Int64) (w : va_W) {rm : Room} (hM : zT l yX3_setRun wsX3_setRun rm D y [.ref X0, .int a0, .int a1] w "java/lang/IndexOutOfBoundsException") (hrm : rm.cells = 1 ∧ rm.slots = 6 ∧ rm.frames ≤ 6 ∧ rm.locals ≤ 140) {fs : List Value} (h0 : w[0]? = some (X0, .inr (3, fs))) (sz : Nat) : zH l yL_setRun wsL_setRun D y [.ref X0, .int a0, .int a1, .ref O] (w ++ [oC O y g]) sz 1 (w ++ [oC O y g]) := by
  refine zH.of (cc := cL_setRun) (maxL := 5) (ret := (some .int)) (own := RL) (by decide) rfl (Nat.le_of_ble_eq_true rfl) rfl ?_
  intro p e s m args below meth cd ls A hx hb hr hml hown hts hlocks hct hP hK hD hA hX hl
  have hl : lv_has ls 5 [(0, .ref X0), (1, .int a0), (2, .int a1), (3, .ref O)] := hl
  have hPw : va_P D vwCl w s.heap := z_sub_P hP (fun z h => List.mem_append_left _ h)
  have hDw : va_D (fun _ => True) w := z_D_m (l1 := []) (l2 := [oC O y g]) hD
  refine lv_aload_n hx hb dL_setRun_0 rfl (lv_at hl 3 rfl) ?_
  refine lv_iconst (v := 0) hx hb dL_setRun_1 (by decide) ?_
  refine lv_aload_n hx hb dL_setRun_2 rfl (lv_at hl 0 rfl) ?_
  refine lv_iload_n hx hb dL_setRun_3 rfl (lv_at hl 1 rfl) ?_
  refine lv_iload_n hx hb dL_setRun_4 rfl (lv_at hl 2 rfl) ?_
  refine zcTV (As := [.int a0, .int a1]) (rest := [.int 0, .ref O]) ⟨hx, hb, hml, hown, hts⟩ hM (cwV 2 hts gL_setRun_X3_setRun rfl hrm.1 hrm.2.1 (by decide +kernel) ⟨by show rm.frames + 1 ≤ 7; omega, by show 8 + (4 + 11) + rm.locals ≤ 200; omega⟩) hK hPw (fun U hU hW => hX.1.moved hW hU) (ci := 3) (q0 := 0) rfl rfl h0 rfl hl.1 rfl (lv_room (Nat.le_of_ble_eq_true rfl)) dL_setRun_5 ⟨by decide, by decide⟩ (fun H1 q9 ce hz hk hce hcv hcl => ?_)
  refine vx_catch (name := "java/lang/IndexOutOfBoundsException") hown [] ⟨0, 10, 13, 21⟩ [⟨0, 10, 17, 13⟩] (hct.trans rfl) (fun z h => nomatch h) (by decide) (by decide) (hts _ (by decide +kernel)) (h_cast hX (by decide)) hce hcv hcl ?_
  refine lv_astore (lv' := [(4, .ref q9), (0, .ref X0), (1, .int a0), (2, .int a1), (3, .ref O)]) hx hb dL_setRun_13 hl (by decide) rfl (fun ls hl => ?_)
  refine lv_iconst (v := 1) hx hb dL_setRun_15 (by decide) ?_
  exact h_ret (by decide) (by decide) hx hb hr hlocks (⟨hz, fun q hq _ => hk q hq, fun _ h => nomatch h⟩ : va_S A s.heap H1 []) dL_setRun_16 (hP.kept (fun k q hq => hk q.1 (vx_lt hP hq)))
set_option maxHeartbeats 1000000 in
set_option maxRecDepth 100000 in
theorem h_L_setRun_T2 (l : Launch) (D : va_G) (y : Nat → ClassId) (X0 O : Nat) (a0 a1 : Int32) (g : Nat → Int64) (w : va_W) {rm : Room} (hM : zT l yX3_setRun wsX3_setRun rm D y [.ref X0, .int a0, .int a1] w "java/lang/IllegalArgumentException") (hrm : rm.cells = 1 ∧ rm.slots = 6 ∧ rm.frames ≤ 6 ∧ rm.locals ≤ 140) {fs : List Value} (h0 : w[0]? = some (X0, .inr (3, fs))) (sz : Nat) : zH l yL_setRun wsL_setRun D y [.ref X0, .int a0, .int a1, .ref O] (w ++ [oC O y g]) sz 2 (w ++ [oC O y g]) := by
  refine zH.of (cc := cL_setRun) (maxL := 5) (ret := (some .int)) (own := RL) (by decide) rfl (Nat.le_of_ble_eq_true rfl) rfl ?_
  intro p e s m args below meth cd ls A hx hb hr hml hown hts hlocks hct hP hK hD hA hX hl
  have hl : lv_has ls 5 [(0, .ref X0), (1, .int a0), (2, .int a1), (3, .ref O)] := hl
  have hPw : va_P D vwCl w s.heap := z_sub_P hP (fun z h => List.mem_append_left _ h)
  have hDw : va_D (fun _ => True) w := z_D_m (l1 := []) (l2 := [oC O y g]) hD
  refine lv_aload_n hx hb dL_setRun_0 rfl (lv_at hl 3 rfl) ?_
  refine lv_iconst (v := 0) hx hb dL_setRun_1 (by decide) ?_
  refine lv_aload_n hx hb dL_setRun_2 rfl (lv_at hl 0 rfl) ?_
  refine lv_iload_n hx hb dL_setRun_3 rfl (lv_at hl 1 rfl) ?_
  refine lv_iload_n hx hb dL_setRun_4 rfl (lv_at hl 2 rfl) ?_
  refine zcTV (As := [.int a0, .int a1]) (rest := [.int 0, .ref O]) ⟨hx, hb, hml, hown, hts⟩ hM (cwV 2 hts gL_setRun_X3_setRun rfl hrm.1 hrm.2.1 (by decide +kernel) ⟨by show rm.frames + 1 ≤ 7; omega, by show 8 + (4 + 11) + rm.locals ≤ 200; omega⟩) hK hPw (fun U hU hW => hX.1.moved hW hU) (ci := 3) (q0 := 0) rfl rfl h0 rfl hl.1 rfl (lv_room (Nat.le_of_ble_eq_true rfl)) dL_setRun_5 ⟨by decide, by decide⟩ (fun H1 q9 ce hz hk hce hcv hcl => ?_)
  refine vx_catch (name := "java/lang/IllegalArgumentException") hown [⟨0, 10, 13, 21⟩] ⟨0, 10, 17, 13⟩ [] (hct.trans rfl) (List.forall_mem_cons.mpr ⟨Or.inr ⟨by decide, "java/lang/IndexOutOfBoundsException", hts _ (by decide +kernel), hX.2 ("java/lang/IllegalArgumentException", "java/lang/IndexOutOfBoundsException") (by decide)⟩, (fun z h => nomatch h)⟩) (by decide) (by decide) (hts _ (by decide +kernel)) (h_cast hX (by decide)) hce hcv hcl ?_
  refine lv_astore (lv' := [(4, .ref q9), (0, .ref X0), (1, .int a0), (2, .int a1), (3, .ref O)]) hx hb dL_setRun_17 hl (by decide) rfl (fun ls hl => ?_)
  refine lv_iconst (v := 2) hx hb dL_setRun_19 (by decide) ?_
  exact h_ret (by decide) (by decide) hx hb hr hlocks (⟨hz, fun q hq _ => hk q hq, fun _ h => nomatch h⟩ : va_S A s.heap H1 []) dL_setRun_20 (hP.kept (fun k q hq => hk q.1 (vx_lt hP hq)))
set_option maxHeartbeats 1000000 in
set_option maxRecDepth 100000 in
theorem h_L_barge (l : Launch) (D : va_G) (y : Nat → ClassId) (X0 O : Nat) (a0 : Int32) (g : Nat → Int64) (w w1 : va_W) (v : Int32) {rm : Room} (hM : ∀ sz, zM l yX3_barge wsX3_barge rm D y [.ref X0, .int a0] w sz (some (.int v)) w1 0 0) (hrm : rm.cells = 0 ∧ rm.slots = 0 ∧ rm.frames ≤ 6 ∧ rm.locals ≤ 140) {fs : List Value} (h0 : w[0]? = some (X0, .inr (3, fs))) (had : w1.map Prod.fst = w.map Prod.fst) (sz : Nat) : zH l yL_barge wsL_barge D y [.ref X0, .int a0, .ref O] (w ++ [oC O y g]) sz 0 (w1 ++ [oC O y (vp_updL g (0 : Int32).toNatClampNeg v.toInt64)]) := by
  refine zH.of (cc := cL_barge) (maxL := 4) (ret := (some .int)) (own := RL) (by decide) rfl (Nat.le_of_ble_eq_true rfl) rfl ?_
  intro p e s m args below meth cd ls A hx hb hr hml hown hts hlocks hct hP hK hD hA hX hl
  have hl : lv_has ls 4 [(0, .ref X0), (1, .int a0), (2, .ref O)] := hl
  have hPw : va_P D vwCl w s.heap := z_sub_P hP (fun z h => List.mem_append_left _ h)
  have hDw : va_D (fun _ => True) w := z_D_m (l1 := []) (l2 := [oC O y g]) hD
  refine lv_aload_n hx hb dL_barge_0 rfl (lv_at hl 2 rfl) ?_
  refine lv_iconst (v := 0) hx hb dL_barge_1 (by decide) ?_
  refine lv_aload_n hx hb dL_barge_2 rfl (lv_at hl 0 rfl) ?_
  refine lv_iload_n hx hb dL_barge_3 rfl (lv_at hl 1 rfl) ?_
  refine zcMV (As := [.int a0]) (rest := [.int 0, .ref O]) (st1 := [.int v, .int 0, .ref O]) (cells1 := 0) (slots1 := 0) ⟨hx, hb, hml, hown, hts⟩ (hM _) (cwV 1 hts gL_barge_X3_barge rfl hrm.1 hrm.2.1 (by decide +kernel) ⟨by show rm.frames + 1 ≤ 7; omega, by show 8 + (2 + 11) + rm.locals ≤ 200; omega⟩) hK hPw hDw (ci := 3) (q0 := 0) rfl rfl h0 rfl hl.1 rfl (lv_room (Nat.le_of_ble_eq_true rfl)) dL_barge_4 va_S.rf (z_sub_F hD va_S.rf hA (fun z h => List.mem_append_left _ h)) ⟨by decide, by decide⟩ rfl rfl rfl (fun H locs hP1 hz hfr hS => ?_)
  obtain ⟨hP, hD⟩ := z_seg (l1 := []) (w := w) (w1 := w1) (l2 := [oC O y g]) (ws1 := w1 ++ [oC O y g]) hP hD rfl rfl had hP1 hfr
  refine lv_i2l (v := v.toInt64) hx hb dL_barge_7 rfl ?_
  refine va_last hx hb hK hP hD hS (w1).length 3 (z_at_end _ _) rfl (i := 0) (by unfold vp_in; decide) dL_barge_8 (fun H locs hP hD hS => ?_)
  rw [z_set_end] at hP
  refine lv_goto (tgt := 18) hx hb dL_barge_9 (by decide) ?_
  refine lv_iconst (v := 0) hx hb dL_barge_18 (by decide) ?_
  exact h_ret (by decide) (by decide) hx hb hr hlocks hS dL_barge_19 hP
set_option maxHeartbeats 1000000 in
set_option maxRecDepth 100000 in
theorem h_L_barge_T1 (l : Launch) (D : va_G) (y : Nat → ClassId) (X0 O : Nat) (a0 : Int32) (g : Nat → Int64) (w : va_W) {rm : Room} (hM : zT l yX3_barge wsX3_barge rm D y [.ref X0, .int a0] w "java/lang/IllegalArgumentException") (hrm : rm.cells = 1 ∧ rm.slots = 6 ∧ rm.frames ≤ 6 ∧ rm.locals ≤ 140) {fs : List Value} (h0 : w[0]? = some (X0, .inr (3, fs))) (sz : Nat) : zH l yL_barge wsL_barge D y [.ref X0, .int a0, .ref O] (w ++ [oC O y g]) sz 1 (w ++ [oC O y g]) := by
  refine zH.of (cc := cL_barge) (maxL := 4) (ret := (some .int)) (own := RL) (by decide) rfl (Nat.le_of_ble_eq_true rfl) rfl ?_
  intro p e s m args below meth cd ls A hx hb hr hml hown hts hlocks hct hP hK hD hA hX hl
  have hl : lv_has ls 4 [(0, .ref X0), (1, .int a0), (2, .ref O)] := hl
  have hPw : va_P D vwCl w s.heap := z_sub_P hP (fun z h => List.mem_append_left _ h)
  have hDw : va_D (fun _ => True) w := z_D_m (l1 := []) (l2 := [oC O y g]) hD
  refine lv_aload_n hx hb dL_barge_0 rfl (lv_at hl 2 rfl) ?_
  refine lv_iconst (v := 0) hx hb dL_barge_1 (by decide) ?_
  refine lv_aload_n hx hb dL_barge_2 rfl (lv_at hl 0 rfl) ?_
  refine lv_iload_n hx hb dL_barge_3 rfl (lv_at hl 1 rfl) ?_
  refine zcTV (As := [.int a0]) (rest := [.int 0, .ref O]) ⟨hx, hb, hml, hown, hts⟩ hM (cwV 1 hts gL_barge_X3_barge rfl hrm.1 hrm.2.1 (by decide +kernel) ⟨by show rm.frames + 1 ≤ 7; omega, by show 8 + (2 + 11) + rm.locals ≤ 200; omega⟩) hK hPw (fun U hU hW => hX.1.moved hW hU) (ci := 3) (q0 := 0) rfl rfl h0 rfl hl.1 rfl (lv_room (Nat.le_of_ble_eq_true rfl)) dL_barge_4 ⟨by decide, by decide⟩ (fun H1 q9 ce hz hk hce hcv hcl => ?_)
  refine vx_catch (name := "java/lang/IllegalArgumentException") hown [] ⟨0, 9, 12, 13⟩ [⟨0, 9, 15, 15⟩] (hct.trans rfl) (fun z h => nomatch h) (by decide) (by decide) (hts _ (by decide +kernel)) (h_cast hX (by decide)) hce hcv hcl ?_
  refine lv_astore_n (lv' := [(3, .ref q9), (0, .ref X0), (1, .int a0), (2, .ref O)]) hx hb dL_barge_12 rfl hl (by decide) rfl (fun ls hl => ?_)
  refine lv_iconst (v := 1) hx hb dL_barge_13 (by decide) ?_
  exact h_ret (by decide) (by decide) hx hb hr hlocks (⟨hz, fun q hq _ => hk q hq, fun _ h => nomatch h⟩ : va_S A s.heap H1 []) dL_barge_14 (hP.kept (fun k q hq => hk q.1 (vx_lt hP hq)))
set_option maxHeartbeats 1000000 in
set_option maxRecDepth 100000 in
theorem h_L_barge_T2 (l : Launch) (D : va_G) (y : Nat → ClassId) (X0 O : Nat) (a0 : Int32) (g : Nat → Int64) (w : va_W) {rm : Room} (hM : zT l yX3_barge wsX3_barge rm D y [.ref X0, .int a0] w "java/lang/IllegalStateException") (hrm : rm.cells = 1 ∧ rm.slots = 6 ∧ rm.frames ≤ 6 ∧ rm.locals ≤ 140) {fs : List Value} (h0 : w[0]? = some (X0, .inr (3, fs))) (sz : Nat) : zH l yL_barge wsL_barge D y [.ref X0, .int a0, .ref O] (w ++ [oC O y g]) sz 2 (w ++ [oC O y g]) := by
  refine zH.of (cc := cL_barge) (maxL := 4) (ret := (some .int)) (own := RL) (by decide) rfl (Nat.le_of_ble_eq_true rfl) rfl ?_
  intro p e s m args below meth cd ls A hx hb hr hml hown hts hlocks hct hP hK hD hA hX hl
  have hl : lv_has ls 4 [(0, .ref X0), (1, .int a0), (2, .ref O)] := hl
  have hPw : va_P D vwCl w s.heap := z_sub_P hP (fun z h => List.mem_append_left _ h)
  have hDw : va_D (fun _ => True) w := z_D_m (l1 := []) (l2 := [oC O y g]) hD
  refine lv_aload_n hx hb dL_barge_0 rfl (lv_at hl 2 rfl) ?_
  refine lv_iconst (v := 0) hx hb dL_barge_1 (by decide) ?_
  refine lv_aload_n hx hb dL_barge_2 rfl (lv_at hl 0 rfl) ?_
  refine lv_iload_n hx hb dL_barge_3 rfl (lv_at hl 1 rfl) ?_
  refine zcTV (As := [.int a0]) (rest := [.int 0, .ref O]) ⟨hx, hb, hml, hown, hts⟩ hM (cwV 1 hts gL_barge_X3_barge rfl hrm.1 hrm.2.1 (by decide +kernel) ⟨by show rm.frames + 1 ≤ 7; omega, by show 8 + (2 + 11) + rm.locals ≤ 200; omega⟩) hK hPw (fun U hU hW => hX.1.moved hW hU) (ci := 3) (q0 := 0) rfl rfl h0 rfl hl.1 rfl (lv_room (Nat.le_of_ble_eq_true rfl)) dL_barge_4 ⟨by decide, by decide⟩ (fun H1 q9 ce hz hk hce hcv hcl => ?_)
  refine vx_catch (name := "java/lang/IllegalStateException") hown [⟨0, 9, 12, 13⟩] ⟨0, 9, 15, 15⟩ [] (hct.trans rfl) (List.forall_mem_cons.mpr ⟨Or.inr ⟨by decide, "java/lang/IllegalArgumentException", hts _ (by decide +kernel), hX.2 ("java/lang/IllegalStateException", "java/lang/IllegalArgumentException") (by decide)⟩, (fun z h => nomatch h)⟩) (by decide) (by decide) (hts _ (by decide +kernel)) (h_cast hX (by decide)) hce hcv hcl ?_
  refine lv_astore_n (lv' := [(3, .ref q9), (0, .ref X0), (1, .int a0), (2, .ref O)]) hx hb dL_barge_15 rfl hl (by decide) rfl (fun ls hl => ?_)
  refine lv_iconst (v := 2) hx hb dL_barge_16 (by decide) ?_
  exact h_ret (by decide) (by decide) hx hb hr hlocks (⟨hz, fun q hq _ => hk q hq, fun _ h => nomatch h⟩ : va_S A s.heap H1 []) dL_barge_17 (hP.kept (fun k q hq => hk q.1 (vx_lt hP hq)))
set_option maxHeartbeats 1000000 in
set_option maxRecDepth 100000 in
theorem h_L_about (l : Launch) (D : va_G) (y : Nat → ClassId) (X0 O : Nat) (a0 a1 : Int32) (g : Nat → Int64) (w : va_W) (v : Int32) {rm : Room} (hM : zR l yX3_about wsX3_about rm D y [.ref X0, .int a0, .int a1] w (some (.int v))) (hrm : rm.cells = 0 ∧ rm.slots = 0 ∧ rm.frames ≤ 6 ∧ rm.locals ≤ 140) {fs : List Value} (h0 : w[0]? = some (X0, .inr (3, fs))) (sz : Nat) : zH l yL_about wsL_about D y [.ref X0, .int a0, .int a1, .ref O] (w ++ [oC O y g]) sz 0 (w ++ [oC O y (vp_updL g (0 : Int32).toNatClampNeg v.toInt64)]) := by
  refine zH.of (cc := cL_about) (maxL := 5) (ret := (some .int)) (own := RL) (by decide) rfl (Nat.le_of_ble_eq_true rfl) rfl ?_
  intro p e s m args below meth cd ls A hx hb hr hml hown hts hlocks hct hP hK hD hA hX hl
  have hl : lv_has ls 5 [(0, .ref X0), (1, .int a0), (2, .int a1), (3, .ref O)] := hl
  have hPw : va_P D vwCl w s.heap := z_sub_P hP (fun z h => List.mem_append_left _ h)
  have hDw : va_D (fun _ => True) w := z_D_m (l1 := []) (l2 := [oC O y g]) hD
  refine lv_aload_n hx hb dL_about_0 rfl (lv_at hl 3 rfl) ?_
  refine lv_iconst (v := 0) hx hb dL_about_1 (by decide) ?_
  refine lv_aload_n hx hb dL_about_2 rfl (lv_at hl 0 rfl) ?_
  refine lv_iload_n hx hb dL_about_3 rfl (lv_at hl 1 rfl) ?_
  refine lv_iload_n hx hb dL_about_4 rfl (lv_at hl 2 rfl) ?_
  refine zcRV (As := [.int a0, .int a1]) (rest := [.int 0, .ref O]) (st1 := [.int v, .int 0, .ref O]) ⟨hx, hb, hml, hown, hts⟩ hM (cwV 2 hts gL_about_X3_about rfl hrm.1 hrm.2.1 (by decide +kernel) ⟨by show rm.frames + 1 ≤ 7; omega, by show 8 + (4 + 11) + rm.locals ≤ 200; omega⟩) hK hPw (ci := 3) (q0 := 0) rfl rfl h0 rfl hl.1 rfl (lv_room (Nat.le_of_ble_eq_true rfl)) dL_about_5 ⟨by decide, by decide⟩ rfl ?_
  have hS : va_S A s.heap s.heap [] := va_S.rf
  refine lv_i2l (v := v.toInt64) hx hb dL_about_8 rfl ?_
  refine va_last hx hb hK hP hD hS (w).length 3 (z_at_end _ _) rfl (i := 0) (by unfold vp_in; decide) dL_about_9 (fun H locs hP hD hS => ?_)
  rw [z_set_end] at hP
  refine lv_goto (tgt := 17) hx hb dL_about_10 (by decide) ?_
  refine lv_iconst (v := 0) hx hb dL_about_17 (by decide) ?_
  exact h_ret (by decide) (by decide) hx hb hr hlocks hS dL_about_18 hP
set_option maxHeartbeats 1000000 in
set_option maxRecDepth 100000 in
theorem h_L_about_T1 (l : Launch) (D : va_G) (y : Nat → ClassId) (X0 O : Nat) (a0 a1 : Int32) (g : Nat → Int64) (w : va_W) {rm : Room} (hM : zT l yX3_about wsX3_about rm D y [.ref X0, .int a0, .int a1] w "java/lang/IndexOutOfBoundsException") (hrm : rm.cells = 1 ∧ rm.slots = 6 ∧ rm.frames ≤ 6 ∧ rm.locals ≤ 140) {fs : List Value} (h0 : w[0]? = some (X0, .inr (3, fs))) (sz : Nat) : zH l yL_about wsL_about D y [.ref X0, .int a0, .int a1, .ref O] (w ++ [oC O y g]) sz 1 (w ++ [oC O y g]) := by
  refine zH.of (cc := cL_about) (maxL := 5) (ret := (some .int)) (own := RL) (by decide) rfl (Nat.le_of_ble_eq_true rfl) rfl ?_
  intro p e s m args below meth cd ls A hx hb hr hml hown hts hlocks hct hP hK hD hA hX hl
  have hl : lv_has ls 5 [(0, .ref X0), (1, .int a0), (2, .int a1), (3, .ref O)] := hl
  have hPw : va_P D vwCl w s.heap := z_sub_P hP (fun z h => List.mem_append_left _ h)
  have hDw : va_D (fun _ => True) w := z_D_m (l1 := []) (l2 := [oC O y g]) hD
  refine lv_aload_n hx hb dL_about_0 rfl (lv_at hl 3 rfl) ?_
  refine lv_iconst (v := 0) hx hb dL_about_1 (by decide) ?_
  refine lv_aload_n hx hb dL_about_2 rfl (lv_at hl 0 rfl) ?_
  refine lv_iload_n hx hb dL_about_3 rfl (lv_at hl 1 rfl) ?_
  refine lv_iload_n hx hb dL_about_4 rfl (lv_at hl 2 rfl) ?_
  refine zcTV (As := [.int a0, .int a1]) (rest := [.int 0, .ref O]) ⟨hx, hb, hml, hown, hts⟩ hM (cwV 2 hts gL_about_X3_about rfl hrm.1 hrm.2.1 (by decide +kernel) ⟨by show rm.frames + 1 ≤ 7; omega, by show 8 + (4 + 11) + rm.locals ≤ 200; omega⟩) hK hPw (fun U hU hW => hX.1.moved hW hU) (ci := 3) (q0 := 0) rfl rfl h0 rfl hl.1 rfl (lv_room (Nat.le_of_ble_eq_true rfl)) dL_about_5 ⟨by decide, by decide⟩ (fun H1 q9 ce hz hk hce hcv hcl => ?_)
  refine vx_catch (name := "java/lang/IndexOutOfBoundsException") hown [] ⟨0, 10, 13, 21⟩ [] (hct.trans rfl) (fun z h => nomatch h) (by decide) (by decide) (hts _ (by decide +kernel)) (h_cast hX (by decide)) hce hcv hcl ?_
  refine lv_astore (lv' := [(4, .ref q9), (0, .ref X0), (1, .int a0), (2, .int a1), (3, .ref O)]) hx hb dL_about_13 hl (by decide) rfl (fun ls hl => ?_)
  refine lv_iconst (v := 1) hx hb dL_about_15 (by decide) ?_
  exact h_ret (by decide) (by decide) hx hb hr hlocks (⟨hz, fun q hq _ => hk q hq, fun _ h => nomatch h⟩ : va_S A s.heap H1 []) dL_about_16 (hP.kept (fun k q hq => hk q.1 (vx_lt hP hq)))
set_option maxHeartbeats 1000000 in
set_option maxRecDepth 100000 in
theorem h_L_told (l : Launch) (D : va_G) (y : Nat → ClassId) (X0 O : Nat) (a0 a1 : Int32) (g : Nat → Int64) (w : va_W) (v : Int32) {rm : Room} (hM : zR l yX3_told wsX3_told rm D y [.ref X0, .int a0, .int a1] w (some (.int v))) (hrm : rm.cells = 0 ∧ rm.slots = 0 ∧ rm.frames ≤ 6 ∧ rm.locals ≤ 140) {fs : List Value} (h0 : w[0]? = some (X0, .inr (3, fs))) (sz : Nat) : zH l yL_told wsL_told D y [.ref X0, .int a0, .int a1, .ref O] (w ++ [oC O y g]) sz 0 (w ++ [oC O y (vp_updL g (0 : Int32).toNatClampNeg v.toInt64)]) := by
  refine zH.of (cc := cL_told) (maxL := 5) (ret := (some .int)) (own := RL) (by decide) rfl (Nat.le_of_ble_eq_true rfl) rfl ?_
  intro p e s m args below meth cd ls A hx hb hr hml hown hts hlocks hct hP hK hD hA hX hl
  have hl : lv_has ls 5 [(0, .ref X0), (1, .int a0), (2, .int a1), (3, .ref O)] := hl
  have hPw : va_P D vwCl w s.heap := z_sub_P hP (fun z h => List.mem_append_left _ h)
  have hDw : va_D (fun _ => True) w := z_D_m (l1 := []) (l2 := [oC O y g]) hD
  refine lv_aload_n hx hb dL_told_0 rfl (lv_at hl 3 rfl) ?_
  refine lv_iconst (v := 0) hx hb dL_told_1 (by decide) ?_
  refine lv_aload_n hx hb dL_told_2 rfl (lv_at hl 0 rfl) ?_
  refine lv_iload_n hx hb dL_told_3 rfl (lv_at hl 1 rfl) ?_
  refine lv_iload_n hx hb dL_told_4 rfl (lv_at hl 2 rfl) ?_
  refine zcRV (As := [.int a0, .int a1]) (rest := [.int 0, .ref O]) (st1 := [.int v, .int 0, .ref O]) ⟨hx, hb, hml, hown, hts⟩ hM (cwV 2 hts gL_told_X3_told rfl hrm.1 hrm.2.1 (by decide +kernel) ⟨by show rm.frames + 1 ≤ 7; omega, by show 8 + (4 + 11) + rm.locals ≤ 200; omega⟩) hK hPw (ci := 3) (q0 := 0) rfl rfl h0 rfl hl.1 rfl (lv_room (Nat.le_of_ble_eq_true rfl)) dL_told_5 ⟨by decide, by decide⟩ rfl ?_
  have hS : va_S A s.heap s.heap [] := va_S.rf
  refine lv_i2l (v := v.toInt64) hx hb dL_told_8 rfl ?_
  refine va_last hx hb hK hP hD hS (w).length 3 (z_at_end _ _) rfl (i := 0) (by unfold vp_in; decide) dL_told_9 (fun H locs hP hD hS => ?_)
  rw [z_set_end] at hP
  refine lv_goto (tgt := 17) hx hb dL_told_10 (by decide) ?_
  refine lv_iconst (v := 0) hx hb dL_told_17 (by decide) ?_
  exact h_ret (by decide) (by decide) hx hb hr hlocks hS dL_told_18 hP
set_option maxHeartbeats 1000000 in
set_option maxRecDepth 100000 in
theorem h_L_told_T1 (l : Launch) (D : va_G) (y : Nat → ClassId) (X0 O : Nat) (a0 a1 : Int32) (g : Nat → Int64) (w : va_W) {rm : Room} (hM : zT l yX3_told wsX3_told rm D y [.ref X0, .int a0, .int a1] w "java/lang/IndexOutOfBoundsException") (hrm : rm.cells = 1 ∧ rm.slots = 6 ∧ rm.frames ≤ 6 ∧ rm.locals ≤ 140) {fs : List Value} (h0 : w[0]? = some (X0, .inr (3, fs))) (sz : Nat) : zH l yL_told wsL_told D y [.ref X0, .int a0, .int a1, .ref O] (w ++ [oC O y g]) sz 1 (w ++ [oC O y g]) := by
  refine zH.of (cc := cL_told) (maxL := 5) (ret := (some .int)) (own := RL) (by decide) rfl (Nat.le_of_ble_eq_true rfl) rfl ?_
  intro p e s m args below meth cd ls A hx hb hr hml hown hts hlocks hct hP hK hD hA hX hl
  have hl : lv_has ls 5 [(0, .ref X0), (1, .int a0), (2, .int a1), (3, .ref O)] := hl
  have hPw : va_P D vwCl w s.heap := z_sub_P hP (fun z h => List.mem_append_left _ h)
  have hDw : va_D (fun _ => True) w := z_D_m (l1 := []) (l2 := [oC O y g]) hD
  refine lv_aload_n hx hb dL_told_0 rfl (lv_at hl 3 rfl) ?_
  refine lv_iconst (v := 0) hx hb dL_told_1 (by decide) ?_
  refine lv_aload_n hx hb dL_told_2 rfl (lv_at hl 0 rfl) ?_
  refine lv_iload_n hx hb dL_told_3 rfl (lv_at hl 1 rfl) ?_
  refine lv_iload_n hx hb dL_told_4 rfl (lv_at hl 2 rfl) ?_
  refine zcTV (As := [.int a0, .int a1]) (rest := [.int 0, .ref O]) ⟨hx, hb, hml, hown, hts⟩ hM (cwV 2 hts gL_told_X3_told rfl hrm.1 hrm.2.1 (by decide +kernel) ⟨by show rm.frames + 1 ≤ 7; omega, by show 8 + (4 + 11) + rm.locals ≤ 200; omega⟩) hK hPw (fun U hU hW => hX.1.moved hW hU) (ci := 3) (q0 := 0) rfl rfl h0 rfl hl.1 rfl (lv_room (Nat.le_of_ble_eq_true rfl)) dL_told_5 ⟨by decide, by decide⟩ (fun H1 q9 ce hz hk hce hcv hcl => ?_)
  refine vx_catch (name := "java/lang/IndexOutOfBoundsException") hown [] ⟨0, 10, 13, 21⟩ [] (hct.trans rfl) (fun z h => nomatch h) (by decide) (by decide) (hts _ (by decide +kernel)) (h_cast hX (by decide)) hce hcv hcl ?_
  refine lv_astore (lv' := [(4, .ref q9), (0, .ref X0), (1, .int a0), (2, .int a1), (3, .ref O)]) hx hb dL_told_13 hl (by decide) rfl (fun ls hl => ?_)
  refine lv_iconst (v := 1) hx hb dL_told_15 (by decide) ?_
  exact h_ret (by decide) (by decide) hx hb hr hlocks (⟨hz, fun q hq _ => hk q hq, fun _ h => nomatch h⟩ : va_S A s.heap H1 []) dL_told_16 (hP.kept (fun k q hq => hk q.1 (vx_lt hP hq)))
set_option maxHeartbeats 1000000 in
set_option maxRecDepth 100000 in
theorem h_L_count (l : Launch) (D : va_G) (y : Nat → ClassId) (X0 O : Nat) (a0 : Int32) (g : Nat → Int64) (w : va_W) (v : Int32) {rm : Room} (hM : zR l yX3_count wsX3_count rm D y [.ref X0, .int a0] w (some (.int v))) (hrm : rm.cells = 0 ∧ rm.slots = 0 ∧ rm.frames ≤ 6 ∧ rm.locals ≤ 140) {fs : List Value} (h0 : w[0]? = some (X0, .inr (3, fs))) (sz : Nat) : zH l yL_count wsL_count D y [.ref X0, .int a0, .ref O] (w ++ [oC O y g]) sz 0 (w ++ [oC O y (vp_updL g (0 : Int32).toNatClampNeg v.toInt64)]) := by
  refine zH.of (cc := cL_count) (maxL := 4) (ret := (some .int)) (own := RL) (by decide) rfl (Nat.le_of_ble_eq_true rfl) rfl ?_
  intro p e s m args below meth cd ls A hx hb hr hml hown hts hlocks hct hP hK hD hA hX hl
  have hl : lv_has ls 4 [(0, .ref X0), (1, .int a0), (2, .ref O)] := hl
  have hPw : va_P D vwCl w s.heap := z_sub_P hP (fun z h => List.mem_append_left _ h)
  have hDw : va_D (fun _ => True) w := z_D_m (l1 := []) (l2 := [oC O y g]) hD
  refine lv_aload_n hx hb dL_count_0 rfl (lv_at hl 2 rfl) ?_
  refine lv_iconst (v := 0) hx hb dL_count_1 (by decide) ?_
  refine lv_aload_n hx hb dL_count_2 rfl (lv_at hl 0 rfl) ?_
  refine lv_iload_n hx hb dL_count_3 rfl (lv_at hl 1 rfl) ?_
  refine zcRV (As := [.int a0]) (rest := [.int 0, .ref O]) (st1 := [.int v, .int 0, .ref O]) ⟨hx, hb, hml, hown, hts⟩ hM (cwV 1 hts gL_count_X3_count rfl hrm.1 hrm.2.1 (by decide +kernel) ⟨by show rm.frames + 1 ≤ 7; omega, by show 8 + (2 + 11) + rm.locals ≤ 200; omega⟩) hK hPw (ci := 3) (q0 := 0) rfl rfl h0 rfl hl.1 rfl (lv_room (Nat.le_of_ble_eq_true rfl)) dL_count_4 ⟨by decide, by decide⟩ rfl ?_
  have hS : va_S A s.heap s.heap [] := va_S.rf
  refine lv_i2l (v := v.toInt64) hx hb dL_count_7 rfl ?_
  refine va_last hx hb hK hP hD hS (w).length 3 (z_at_end _ _) rfl (i := 0) (by unfold vp_in; decide) dL_count_8 (fun H locs hP hD hS => ?_)
  rw [z_set_end] at hP
  refine lv_goto (tgt := 15) hx hb dL_count_9 (by decide) ?_
  refine lv_iconst (v := 0) hx hb dL_count_15 (by decide) ?_
  exact h_ret (by decide) (by decide) hx hb hr hlocks hS dL_count_16 hP
set_option maxHeartbeats 1000000 in
set_option maxRecDepth 100000 in
theorem h_L_count_T1 (l : Launch) (D : va_G) (y : Nat → ClassId) (X0 O : Nat) (a0 : Int32) (g : Nat → Int64) (w : va_W) {rm : Room} (hM : zT l yX3_count wsX3_count rm D y [.ref X0, .int a0] w "java/lang/IndexOutOfBoundsException") (hrm : rm.cells = 1 ∧ rm.slots = 6 ∧ rm.frames ≤ 6 ∧ rm.locals ≤ 140) {fs : List Value} (h0 : w[0]? = some (X0, .inr (3, fs))) (sz : Nat) : zH l yL_count wsL_count D y [.ref X0, .int a0, .ref O] (w ++ [oC O y g]) sz 1 (w ++ [oC O y g]) := by
  refine zH.of (cc := cL_count) (maxL := 4) (ret := (some .int)) (own := RL) (by decide) rfl (Nat.le_of_ble_eq_true rfl) rfl ?_
  intro p e s m args below meth cd ls A hx hb hr hml hown hts hlocks hct hP hK hD hA hX hl
  have hl : lv_has ls 4 [(0, .ref X0), (1, .int a0), (2, .ref O)] := hl
  have hPw : va_P D vwCl w s.heap := z_sub_P hP (fun z h => List.mem_append_left _ h)
  have hDw : va_D (fun _ => True) w := z_D_m (l1 := []) (l2 := [oC O y g]) hD
  refine lv_aload_n hx hb dL_count_0 rfl (lv_at hl 2 rfl) ?_
  refine lv_iconst (v := 0) hx hb dL_count_1 (by decide) ?_
  refine lv_aload_n hx hb dL_count_2 rfl (lv_at hl 0 rfl) ?_
  refine lv_iload_n hx hb dL_count_3 rfl (lv_at hl 1 rfl) ?_
  refine zcTV (As := [.int a0]) (rest := [.int 0, .ref O]) ⟨hx, hb, hml, hown, hts⟩ hM (cwV 1 hts gL_count_X3_count rfl hrm.1 hrm.2.1 (by decide +kernel) ⟨by show rm.frames + 1 ≤ 7; omega, by show 8 + (2 + 11) + rm.locals ≤ 200; omega⟩) hK hPw (fun U hU hW => hX.1.moved hW hU) (ci := 3) (q0 := 0) rfl rfl h0 rfl hl.1 rfl (lv_room (Nat.le_of_ble_eq_true rfl)) dL_count_4 ⟨by decide, by decide⟩ (fun H1 q9 ce hz hk hce hcv hcl => ?_)
  refine vx_catch (name := "java/lang/IndexOutOfBoundsException") hown [] ⟨0, 9, 12, 21⟩ [] (hct.trans rfl) (fun z h => nomatch h) (by decide) (by decide) (hts _ (by decide +kernel)) (h_cast hX (by decide)) hce hcv hcl ?_
  refine lv_astore_n (lv' := [(3, .ref q9), (0, .ref X0), (1, .int a0), (2, .ref O)]) hx hb dL_count_12 rfl hl (by decide) rfl (fun ls hl => ?_)
  refine lv_iconst (v := 1) hx hb dL_count_13 (by decide) ?_
  exact h_ret (by decide) (by decide) hx hb hr hlocks (⟨hz, fun q hq _ => hk q hq, fun _ h => nomatch h⟩ : va_S A s.heap H1 []) dL_count_14 (hP.kept (fun k q hq => hk q.1 (vx_lt hP hq)))
set_option maxHeartbeats 1000000 in
set_option maxRecDepth 100000 in
theorem h_L_hinders (l : Launch) (D : va_G) (y : Nat → ClassId) (X0 O : Nat) (a0 : Int32) (g : Nat → Int64) (w : va_W) (v : Int32) {rm : Room} (hM : zR l yX3_hinders wsX3_hinders rm D y [.ref X0, .int a0] w (some (.int v))) (hrm : rm.cells = 0 ∧ rm.slots = 0 ∧ rm.frames ≤ 6 ∧ rm.locals ≤ 140) {fs : List Value} (h0 : w[0]? = some (X0, .inr (3, fs))) (sz : Nat) : zH l yL_hinders wsL_hinders D y [.ref X0, .int a0, .ref O] (w ++ [oC O y g]) sz 0 (w ++ [oC O y (vp_updL g (0 : Int32).toNatClampNeg v.toInt64)]) := by
  refine zH.of (cc := cL_hinders) (maxL := 4) (ret := (some .int)) (own := RL) (by decide) rfl (Nat.le_of_ble_eq_true rfl) rfl ?_
  intro p e s m args below meth cd ls A hx hb hr hml hown hts hlocks hct hP hK hD hA hX hl
  have hl : lv_has ls 4 [(0, .ref X0), (1, .int a0), (2, .ref O)] := hl
  have hPw : va_P D vwCl w s.heap := z_sub_P hP (fun z h => List.mem_append_left _ h)
  have hDw : va_D (fun _ => True) w := z_D_m (l1 := []) (l2 := [oC O y g]) hD
  refine lv_aload_n hx hb dL_hinders_0 rfl (lv_at hl 2 rfl) ?_
  refine lv_iconst (v := 0) hx hb dL_hinders_1 (by decide) ?_
  refine lv_aload_n hx hb dL_hinders_2 rfl (lv_at hl 0 rfl) ?_
  refine lv_iload_n hx hb dL_hinders_3 rfl (lv_at hl 1 rfl) ?_
  refine zcRV (As := [.int a0]) (rest := [.int 0, .ref O]) (st1 := [.int v, .int 0, .ref O]) ⟨hx, hb, hml, hown, hts⟩ hM (cwV 1 hts gL_hinders_X3_hinders rfl hrm.1 hrm.2.1 (by decide +kernel) ⟨by show rm.frames + 1 ≤ 7; omega, by show 8 + (2 + 11) + rm.locals ≤ 200; omega⟩) hK hPw (ci := 3) (q0 := 0) rfl rfl h0 rfl hl.1 rfl (lv_room (Nat.le_of_ble_eq_true rfl)) dL_hinders_4 ⟨by decide, by decide⟩ rfl ?_
  have hS : va_S A s.heap s.heap [] := va_S.rf
  refine lv_i2l (v := v.toInt64) hx hb dL_hinders_7 rfl ?_
  refine va_last hx hb hK hP hD hS (w).length 3 (z_at_end _ _) rfl (i := 0) (by unfold vp_in; decide) dL_hinders_8 (fun H locs hP hD hS => ?_)
  rw [z_set_end] at hP
  refine lv_goto (tgt := 15) hx hb dL_hinders_9 (by decide) ?_
  refine lv_iconst (v := 0) hx hb dL_hinders_15 (by decide) ?_
  exact h_ret (by decide) (by decide) hx hb hr hlocks hS dL_hinders_16 hP
set_option maxHeartbeats 1000000 in
set_option maxRecDepth 100000 in
theorem h_L_hinders_T1 (l : Launch) (D : va_G) (y : Nat → ClassId) (X0 O : Nat) (a0 : Int32) (g : Nat → Int64) (w : va_W) {rm : Room} (hM : zT l yX3_hinders wsX3_hinders rm D y [.ref X0, .int a0] w "java/lang/IllegalArgumentException") (hrm : rm.cells = 1 ∧ rm.slots = 6 ∧ rm.frames ≤ 6 ∧ rm.locals ≤ 140) {fs : List Value} (h0 : w[0]? = some (X0, .inr (3, fs))) (sz : Nat) : zH l yL_hinders wsL_hinders D y [.ref X0, .int a0, .ref O] (w ++ [oC O y g]) sz 1 (w ++ [oC O y g]) := by
  refine zH.of (cc := cL_hinders) (maxL := 4) (ret := (some .int)) (own := RL) (by decide) rfl (Nat.le_of_ble_eq_true rfl) rfl ?_
  intro p e s m args below meth cd ls A hx hb hr hml hown hts hlocks hct hP hK hD hA hX hl
  have hl : lv_has ls 4 [(0, .ref X0), (1, .int a0), (2, .ref O)] := hl
  have hPw : va_P D vwCl w s.heap := z_sub_P hP (fun z h => List.mem_append_left _ h)
  have hDw : va_D (fun _ => True) w := z_D_m (l1 := []) (l2 := [oC O y g]) hD
  refine lv_aload_n hx hb dL_hinders_0 rfl (lv_at hl 2 rfl) ?_
  refine lv_iconst (v := 0) hx hb dL_hinders_1 (by decide) ?_
  refine lv_aload_n hx hb dL_hinders_2 rfl (lv_at hl 0 rfl) ?_
  refine lv_iload_n hx hb dL_hinders_3 rfl (lv_at hl 1 rfl) ?_
  refine zcTV (As := [.int a0]) (rest := [.int 0, .ref O]) ⟨hx, hb, hml, hown, hts⟩ hM (cwV 1 hts gL_hinders_X3_hinders rfl hrm.1 hrm.2.1 (by decide +kernel) ⟨by show rm.frames + 1 ≤ 7; omega, by show 8 + (2 + 11) + rm.locals ≤ 200; omega⟩) hK hPw (fun U hU hW => hX.1.moved hW hU) (ci := 3) (q0 := 0) rfl rfl h0 rfl hl.1 rfl (lv_room (Nat.le_of_ble_eq_true rfl)) dL_hinders_4 ⟨by decide, by decide⟩ (fun H1 q9 ce hz hk hce hcv hcl => ?_)
  refine vx_catch (name := "java/lang/IllegalArgumentException") hown [] ⟨0, 9, 12, 13⟩ [] (hct.trans rfl) (fun z h => nomatch h) (by decide) (by decide) (hts _ (by decide +kernel)) (h_cast hX (by decide)) hce hcv hcl ?_
  refine lv_astore_n (lv' := [(3, .ref q9), (0, .ref X0), (1, .int a0), (2, .ref O)]) hx hb dL_hinders_12 rfl hl (by decide) rfl (fun ls hl => ?_)
  refine lv_iconst (v := 1) hx hb dL_hinders_13 (by decide) ?_
  exact h_ret (by decide) (by decide) hx hb hr hlocks (⟨hz, fun q hq _ => hk q hq, fun _ h => nomatch h⟩ : va_S A s.heap H1 []) dL_hinders_14 (hP.kept (fun k q hq => hk q.1 (vx_lt hP hq)))
set_option maxHeartbeats 1000000 in
set_option maxRecDepth 100000 in
theorem h_L_pass (l : Launch) (D : va_G) (y : Nat → ClassId) (X0 O : Nat) (a0 : Int32) (g : Nat → Int64) (w w1 : va_W) (v : Int32) {rm : Room} (hM : ∀ sz, zM l yX3_pass wsX3_pass rm D y [.ref X0, .int a0] w sz (some (.int v)) w1 0 0) (hrm : rm.cells = 0 ∧ rm.slots = 0 ∧ rm.frames ≤ 6 ∧ rm.locals ≤ 140) {fs : List Value} (h0 : w[0]? = some (X0, .inr (3, fs))) (had : w1.map Prod.fst = w.map Prod.fst) (sz : Nat) : zH l yL_pass wsL_pass D y [.ref X0, .int a0, .ref O] (w ++ [oC O y g]) sz 0 (w1 ++ [oC O y (vp_updL g (0 : Int32).toNatClampNeg v.toInt64)]) := by
  refine zH.of (cc := cL_pass) (maxL := 4) (ret := (some .int)) (own := RL) (by decide) rfl (Nat.le_of_ble_eq_true rfl) rfl ?_
  intro p e s m args below meth cd ls A hx hb hr hml hown hts hlocks hct hP hK hD hA hX hl
  have hl : lv_has ls 4 [(0, .ref X0), (1, .int a0), (2, .ref O)] := hl
  have hPw : va_P D vwCl w s.heap := z_sub_P hP (fun z h => List.mem_append_left _ h)
  have hDw : va_D (fun _ => True) w := z_D_m (l1 := []) (l2 := [oC O y g]) hD
  refine lv_aload_n hx hb dL_pass_0 rfl (lv_at hl 2 rfl) ?_
  refine lv_iconst (v := 0) hx hb dL_pass_1 (by decide) ?_
  refine lv_aload_n hx hb dL_pass_2 rfl (lv_at hl 0 rfl) ?_
  refine lv_iload_n hx hb dL_pass_3 rfl (lv_at hl 1 rfl) ?_
  refine zcMV (As := [.int a0]) (rest := [.int 0, .ref O]) (st1 := [.int v, .int 0, .ref O]) (cells1 := 0) (slots1 := 0) ⟨hx, hb, hml, hown, hts⟩ (hM _) (cwV 1 hts gL_pass_X3_pass rfl hrm.1 hrm.2.1 (by decide +kernel) ⟨by show rm.frames + 1 ≤ 7; omega, by show 8 + (3 + 11) + rm.locals ≤ 200; omega⟩) hK hPw hDw (ci := 3) (q0 := 0) rfl rfl h0 rfl hl.1 rfl (lv_room (Nat.le_of_ble_eq_true rfl)) dL_pass_4 va_S.rf (z_sub_F hD va_S.rf hA (fun z h => List.mem_append_left _ h)) ⟨by decide, by decide⟩ rfl rfl rfl (fun H locs hP1 hz hfr hS => ?_)
  obtain ⟨hP, hD⟩ := z_seg (l1 := []) (w := w) (w1 := w1) (l2 := [oC O y g]) (ws1 := w1 ++ [oC O y g]) hP hD rfl rfl had hP1 hfr
  refine lv_i2l (v := v.toInt64) hx hb dL_pass_7 rfl ?_
  refine va_last hx hb hK hP hD hS (w1).length 3 (z_at_end _ _) rfl (i := 0) (by unfold vp_in; decide) dL_pass_8 (fun H locs hP hD hS => ?_)
  rw [z_set_end] at hP
  refine lv_goto (tgt := 15) hx hb dL_pass_9 (by decide) ?_
  refine lv_iconst (v := 0) hx hb dL_pass_15 (by decide) ?_
  exact h_ret (by decide) (by decide) hx hb hr hlocks hS dL_pass_16 hP
set_option maxHeartbeats 1000000 in
set_option maxRecDepth 100000 in
theorem h_L_pass_T1 (l : Launch) (D : va_G) (y : Nat → ClassId) (X0 O : Nat) (a0 : Int32) (g : Nat → Int64) (w : va_W) {rm : Room} (hM : zT l yX3_pass wsX3_pass rm D y [.ref X0, .int a0] w "java/lang/IllegalArgumentException") (hrm : rm.cells = 1 ∧ rm.slots = 6 ∧ rm.frames ≤ 6 ∧ rm.locals ≤ 140) {fs : List Value} (h0 : w[0]? = some (X0, .inr (3, fs))) (sz : Nat) : zH l yL_pass wsL_pass D y [.ref X0, .int a0, .ref O] (w ++ [oC O y g]) sz 1 (w ++ [oC O y g]) := by
  refine zH.of (cc := cL_pass) (maxL := 4) (ret := (some .int)) (own := RL) (by decide) rfl (Nat.le_of_ble_eq_true rfl) rfl ?_
  intro p e s m args below meth cd ls A hx hb hr hml hown hts hlocks hct hP hK hD hA hX hl
  have hl : lv_has ls 4 [(0, .ref X0), (1, .int a0), (2, .ref O)] := hl
  have hPw : va_P D vwCl w s.heap := z_sub_P hP (fun z h => List.mem_append_left _ h)
  have hDw : va_D (fun _ => True) w := z_D_m (l1 := []) (l2 := [oC O y g]) hD
  refine lv_aload_n hx hb dL_pass_0 rfl (lv_at hl 2 rfl) ?_
  refine lv_iconst (v := 0) hx hb dL_pass_1 (by decide) ?_
  refine lv_aload_n hx hb dL_pass_2 rfl (lv_at hl 0 rfl) ?_
  refine lv_iload_n hx hb dL_pass_3 rfl (lv_at hl 1 rfl) ?_
  refine zcTV (As := [.int a0]) (rest := [.int 0, .ref O]) ⟨hx, hb, hml, hown, hts⟩ hM (cwV 1 hts gL_pass_X3_pass rfl hrm.1 hrm.2.1 (by decide +kernel) ⟨by show rm.frames + 1 ≤ 7; omega, by show 8 + (3 + 11) + rm.locals ≤ 200; omega⟩) hK hPw (fun U hU hW => hX.1.moved hW hU) (ci := 3) (q0 := 0) rfl rfl h0 rfl hl.1 rfl (lv_room (Nat.le_of_ble_eq_true rfl)) dL_pass_4 ⟨by decide, by decide⟩ (fun H1 q9 ce hz hk hce hcv hcl => ?_)
  refine vx_catch (name := "java/lang/IllegalArgumentException") hown [] ⟨0, 9, 12, 13⟩ [] (hct.trans rfl) (fun z h => nomatch h) (by decide) (by decide) (hts _ (by decide +kernel)) (h_cast hX (by decide)) hce hcv hcl ?_
  refine lv_astore_n (lv' := [(3, .ref q9), (0, .ref X0), (1, .int a0), (2, .ref O)]) hx hb dL_pass_12 rfl hl (by decide) rfl (fun ls hl => ?_)
  refine lv_iconst (v := 1) hx hb dL_pass_13 (by decide) ?_
  exact h_ret (by decide) (by decide) hx hb hr hlocks (⟨hz, fun q hq _ => hk q hq, fun _ h => nomatch h⟩ : va_S A s.heap H1 []) dL_pass_14 (hP.kept (fun k q hq => hk q.1 (vx_lt hP hq)))
set_option maxHeartbeats 1000000 in
set_option maxRecDepth 100000 in
theorem h_L_catches (l : Launch) (D : va_G) (y : Nat → ClassId) (X0 O : Nat) (a0 : Int32) (g : Nat → Int64) (w w1 : va_W) (v : Int32) {rm : Room} (hM : ∀ sz, zM l yX3_catches wsX3_catches rm D y [.ref X0, .int a0] w sz (some (.int v)) w1 0 0) (hrm : rm.cells = 0 ∧ rm.slots = 0 ∧ rm.frames ≤ 6 ∧ rm.locals ≤ 140) {fs : List Value} (h0 : w[0]? = some (X0, .inr (3, fs))) (had : w1.map Prod.fst = w.map Prod.fst) (sz : Nat) : zH l yL_catches wsL_catches D y [.ref X0, .int a0, .ref O] (w ++ [oC O y g]) sz 0 (w1 ++ [oC O y (vp_updL g (0 : Int32).toNatClampNeg v.toInt64)]) := by
  refine zH.of (cc := cL_catches) (maxL := 4) (ret := (some .int)) (own := RL) (by decide) rfl (Nat.le_of_ble_eq_true rfl) rfl ?_
  intro p e s m args below meth cd ls A hx hb hr hml hown hts hlocks hct hP hK hD hA hX hl
  have hl : lv_has ls 4 [(0, .ref X0), (1, .int a0), (2, .ref O)] := hl
  have hPw : va_P D vwCl w s.heap := z_sub_P hP (fun z h => List.mem_append_left _ h)
  have hDw : va_D (fun _ => True) w := z_D_m (l1 := []) (l2 := [oC O y g]) hD
  refine lv_aload_n hx hb dL_catches_0 rfl (lv_at hl 2 rfl) ?_
  refine lv_iconst (v := 0) hx hb dL_catches_1 (by decide) ?_
  refine lv_aload_n hx hb dL_catches_2 rfl (lv_at hl 0 rfl) ?_
  refine lv_iload_n hx hb dL_catches_3 rfl (lv_at hl 1 rfl) ?_
  refine zcMV (As := [.int a0]) (rest := [.int 0, .ref O]) (st1 := [.int v, .int 0, .ref O]) (cells1 := 0) (slots1 := 0) ⟨hx, hb, hml, hown, hts⟩ (hM _) (cwV 1 hts gL_catches_X3_catches rfl hrm.1 hrm.2.1 (by decide +kernel) ⟨by show rm.frames + 1 ≤ 7; omega, by show 8 + (4 + 11) + rm.locals ≤ 200; omega⟩) hK hPw hDw (ci := 3) (q0 := 0) rfl rfl h0 rfl hl.1 rfl (lv_room (Nat.le_of_ble_eq_true rfl)) dL_catches_4 va_S.rf (z_sub_F hD va_S.rf hA (fun z h => List.mem_append_left _ h)) ⟨by decide, by decide⟩ rfl rfl rfl (fun H locs hP1 hz hfr hS => ?_)
  obtain ⟨hP, hD⟩ := z_seg (l1 := []) (w := w) (w1 := w1) (l2 := [oC O y g]) (ws1 := w1 ++ [oC O y g]) hP hD rfl rfl had hP1 hfr
  refine lv_i2l (v := v.toInt64) hx hb dL_catches_7 rfl ?_
  refine va_last hx hb hK hP hD hS (w1).length 3 (z_at_end _ _) rfl (i := 0) (by unfold vp_in; decide) dL_catches_8 (fun H locs hP hD hS => ?_)
  rw [z_set_end] at hP
  refine lv_goto (tgt := 15) hx hb dL_catches_9 (by decide) ?_
  refine lv_iconst (v := 0) hx hb dL_catches_15 (by decide) ?_
  exact h_ret (by decide) (by decide) hx hb hr hlocks hS dL_catches_16 hP
set_option maxHeartbeats 1000000 in
set_option maxRecDepth 100000 in
theorem h_L_catches_T1 (l : Launch) (D : va_G) (y : Nat → ClassId) (X0 O : Nat) (a0 : Int32) (g : Nat → Int64) (w : va_W) {rm : Room} (hM : zT l yX3_catches wsX3_catches rm D y [.ref X0, .int a0] w "java/lang/IndexOutOfBoundsException") (hrm : rm.cells = 1 ∧ rm.slots = 6 ∧ rm.frames ≤ 6 ∧ rm.locals ≤ 140) {fs : List Value} (h0 : w[0]? = some (X0, .inr (3, fs))) (sz : Nat) : zH l yL_catches wsL_catches D y [.ref X0, .int a0, .ref O] (w ++ [oC O y g]) sz 1 (w ++ [oC O y g]) := by
  refine zH.of (cc := cL_catches) (maxL := 4) (ret := (some .int)) (own := RL) (by decide) rfl (Nat.le_of_ble_eq_true rfl) rfl ?_
  intro p e s m args below meth cd ls A hx hb hr hml hown hts hlocks hct hP hK hD hA hX hl
  have hl : lv_has ls 4 [(0, .ref X0), (1, .int a0), (2, .ref O)] := hl
  have hPw : va_P D vwCl w s.heap := z_sub_P hP (fun z h => List.mem_append_left _ h)
  have hDw : va_D (fun _ => True) w := z_D_m (l1 := []) (l2 := [oC O y g]) hD
  refine lv_aload_n hx hb dL_catches_0 rfl (lv_at hl 2 rfl) ?_
  refine lv_iconst (v := 0) hx hb dL_catches_1 (by decide) ?_
  refine lv_aload_n hx hb dL_catches_2 rfl (lv_at hl 0 rfl) ?_
  refine lv_iload_n hx hb dL_catches_3 rfl (lv_at hl 1 rfl) ?_
  refine zcTV (As := [.int a0]) (rest := [.int 0, .ref O]) ⟨hx, hb, hml, hown, hts⟩ hM (cwV 1 hts gL_catches_X3_catches rfl hrm.1 hrm.2.1 (by decide +kernel) ⟨by show rm.frames + 1 ≤ 7; omega, by show 8 + (4 + 11) + rm.locals ≤ 200; omega⟩) hK hPw (fun U hU hW => hX.1.moved hW hU) (ci := 3) (q0 := 0) rfl rfl h0 rfl hl.1 rfl (lv_room (Nat.le_of_ble_eq_true rfl)) dL_catches_4 ⟨by decide, by decide⟩ (fun H1 q9 ce hz hk hce hcv hcl => ?_)
  refine vx_catch (name := "java/lang/IndexOutOfBoundsException") hown [] ⟨0, 9, 12, 21⟩ [] (hct.trans rfl) (fun z h => nomatch h) (by decide) (by decide) (hts _ (by decide +kernel)) (h_cast hX (by decide)) hce hcv hcl ?_
  refine lv_astore_n (lv' := [(3, .ref q9), (0, .ref X0), (1, .int a0), (2, .ref O)]) hx hb dL_catches_12 rfl hl (by decide) rfl (fun ls hl => ?_)
  refine lv_iconst (v := 1) hx hb dL_catches_13 (by decide) ?_
  exact h_ret (by decide) (by decide) hx hb hr hlocks (⟨hz, fun q hq _ => hk q hq, fun _ h => nomatch h⟩ : va_S A s.heap H1 []) dL_catches_14 (hP.kept (fun k q hq => hk q.1 (vx_lt hP hq)))
set_option maxHeartbeats 1000000 in
set_option maxRecDepth 100000 in
theorem h_L_arrives (l : Launch) (D : va_G) (y : Nat → ClassId) (X0 O : Nat) (a0 : Int32) (g : Nat → Int64) (w w1 : va_W) (v : Int32) {rm : Room} (hM : ∀ sz, zM l yX3_arrives wsX3_arrives rm D y [.ref X0, .int a0] w sz (some (.int v)) w1 0 0) (hrm : rm.cells = 0 ∧ rm.slots = 0 ∧ rm.frames ≤ 6 ∧ rm.locals ≤ 140) {fs : List Value} (h0 : w[0]? = some (X0, .inr (3, fs))) (had : w1.map Prod.fst = w.map Prod.fst) (sz : Nat) : zH l yL_arrives wsL_arrives D y [.ref X0, .int a0, .ref O] (w ++ [oC O y g]) sz 0 (w1 ++ [oC O y (vp_updL g (0 : Int32).toNatClampNeg v.toInt64)]) := by
  refine zH.of (cc := cL_arrives) (maxL := 4) (ret := (some .int)) (own := RL) (by decide) rfl (Nat.le_of_ble_eq_true rfl) rfl ?_
  intro p e s m args below meth cd ls A hx hb hr hml hown hts hlocks hct hP hK hD hA hX hl
  have hl : lv_has ls 4 [(0, .ref X0), (1, .int a0), (2, .ref O)] := hl
  have hPw : va_P D vwCl w s.heap := z_sub_P hP (fun z h => List.mem_append_left _ h)
  have hDw : va_D (fun _ => True) w := z_D_m (l1 := []) (l2 := [oC O y g]) hD
  refine lv_aload_n hx hb dL_arrives_0 rfl (lv_at hl 2 rfl) ?_
  refine lv_iconst (v := 0) hx hb dL_arrives_1 (by decide) ?_
  refine lv_aload_n hx hb dL_arrives_2 rfl (lv_at hl 0 rfl) ?_
  refine lv_iload_n hx hb dL_arrives_3 rfl (lv_at hl 1 rfl) ?_
  refine zcMV (As := [.int a0]) (rest := [.int 0, .ref O]) (st1 := [.int v, .int 0, .ref O]) (cells1 := 0) (slots1 := 0) ⟨hx, hb, hml, hown, hts⟩ (hM _) (cwV 1 hts gL_arrives_X3_arrives rfl hrm.1 hrm.2.1 (by decide +kernel) ⟨by show rm.frames + 1 ≤ 7; omega, by show 8 + (4 + 11) + rm.locals ≤ 200; omega⟩) hK hPw hDw (ci := 3) (q0 := 0) rfl rfl h0 rfl hl.1 rfl (lv_room (Nat.le_of_ble_eq_true rfl)) dL_arrives_4 va_S.rf (z_sub_F hD va_S.rf hA (fun z h => List.mem_append_left _ h)) ⟨by decide, by decide⟩ rfl rfl rfl (fun H locs hP1 hz hfr hS => ?_)
  obtain ⟨hP, hD⟩ := z_seg (l1 := []) (w := w) (w1 := w1) (l2 := [oC O y g]) (ws1 := w1 ++ [oC O y g]) hP hD rfl rfl had hP1 hfr
  refine lv_i2l (v := v.toInt64) hx hb dL_arrives_7 rfl ?_
  refine va_last hx hb hK hP hD hS (w1).length 3 (z_at_end _ _) rfl (i := 0) (by unfold vp_in; decide) dL_arrives_8 (fun H locs hP hD hS => ?_)
  rw [z_set_end] at hP
  refine lv_goto (tgt := 15) hx hb dL_arrives_9 (by decide) ?_
  refine lv_iconst (v := 0) hx hb dL_arrives_15 (by decide) ?_
  exact h_ret (by decide) (by decide) hx hb hr hlocks hS dL_arrives_16 hP
set_option maxHeartbeats 1000000 in
set_option maxRecDepth 100000 in
theorem h_L_arrives_T1 (l : Launch) (D : va_G) (y : Nat → ClassId) (X0 O : Nat) (a0 : Int32) (g : Nat → Int64) (w : va_W) {rm : Room} (hM : zT l yX3_arrives wsX3_arrives rm D y [.ref X0, .int a0] w "java/lang/IndexOutOfBoundsException") (hrm : rm.cells = 1 ∧ rm.slots = 6 ∧ rm.frames ≤ 6 ∧ rm.locals ≤ 140) {fs : List Value} (h0 : w[0]? = some (X0, .inr (3, fs))) (sz : Nat) : zH l yL_arrives wsL_arrives D y [.ref X0, .int a0, .ref O] (w ++ [oC O y g]) sz 1 (w ++ [oC O y g]) := by
  refine zH.of (cc := cL_arrives) (maxL := 4) (ret := (some .int)) (own := RL) (by decide) rfl (Nat.le_of_ble_eq_true rfl) rfl ?_
  intro p e s m args below meth cd ls A hx hb hr hml hown hts hlocks hct hP hK hD hA hX hl
  have hl : lv_has ls 4 [(0, .ref X0), (1, .int a0), (2, .ref O)] := hl
  have hPw : va_P D vwCl w s.heap := z_sub_P hP (fun z h => List.mem_append_left _ h)
  have hDw : va_D (fun _ => True) w := z_D_m (l1 := []) (l2 := [oC O y g]) hD
  refine lv_aload_n hx hb dL_arrives_0 rfl (lv_at hl 2 rfl) ?_
  refine lv_iconst (v := 0) hx hb dL_arrives_1 (by decide) ?_
  refine lv_aload_n hx hb dL_arrives_2 rfl (lv_at hl 0 rfl) ?_
  refine lv_iload_n hx hb dL_arrives_3 rfl (lv_at hl 1 rfl) ?_
  refine zcTV (As := [.int a0]) (rest := [.int 0, .ref O]) ⟨hx, hb, hml, hown, hts⟩ hM (cwV 1 hts gL_arrives_X3_arrives rfl hrm.1 hrm.2.1 (by decide +kernel) ⟨by show rm.frames + 1 ≤ 7; omega, by show 8 + (4 + 11) + rm.locals ≤ 200; omega⟩) hK hPw (fun U hU hW => hX.1.moved hW hU) (ci := 3) (q0 := 0) rfl rfl h0 rfl hl.1 rfl (lv_room (Nat.le_of_ble_eq_true rfl)) dL_arrives_4 ⟨by decide, by decide⟩ (fun H1 q9 ce hz hk hce hcv hcl => ?_)
  refine vx_catch (name := "java/lang/IndexOutOfBoundsException") hown [] ⟨0, 9, 12, 21⟩ [] (hct.trans rfl) (fun z h => nomatch h) (by decide) (by decide) (hts _ (by decide +kernel)) (h_cast hX (by decide)) hce hcv hcl ?_
  refine lv_astore_n (lv' := [(3, .ref q9), (0, .ref X0), (1, .int a0), (2, .ref O)]) hx hb dL_arrives_12 rfl hl (by decide) rfl (fun ls hl => ?_)
  refine lv_iconst (v := 1) hx hb dL_arrives_13 (by decide) ?_
  exact h_ret (by decide) (by decide) hx hb hr hlocks (⟨hz, fun q hq _ => hk q hq, fun _ h => nomatch h⟩ : va_S A s.heap H1 []) dL_arrives_14 (hP.kept (fun k q hq => hk q.1 (vx_lt hP hq)))
set_option maxHeartbeats 1000000 in
set_option maxRecDepth 100000 in
theorem h_L_lasts (l : Launch) (D : va_G) (y : Nat → ClassId) (X0 O : Nat) (a0 : Int32) (g : Nat → Int64) (w w1 : va_W) (v : Int32) {rm : Room} (hM : ∀ sz, zM l yX3_lasts wsX3_lasts rm D y [.ref X0, .int a0] w sz (some (.int v)) w1 0 0) (hrm : rm.cells = 0 ∧ rm.slots = 0 ∧ rm.frames ≤ 6 ∧ rm.locals ≤ 140) {fs : List Value} (h0 : w[0]? = some (X0, .inr (3, fs))) (had : w1.map Prod.fst = w.map Prod.fst) (sz : Nat) : zH l yL_lasts wsL_lasts D y [.ref X0, .int a0, .ref O] (w ++ [oC O y g]) sz 0 (w1 ++ [oC O y (vp_updL g (0 : Int32).toNatClampNeg v.toInt64)]) := by
  refine zH.of (cc := cL_lasts) (maxL := 4) (ret := (some .int)) (own := RL) (by decide) rfl (Nat.le_of_ble_eq_true rfl) rfl ?_
  intro p e s m args below meth cd ls A hx hb hr hml hown hts hlocks hct hP hK hD hA hX hl
  have hl : lv_has ls 4 [(0, .ref X0), (1, .int a0), (2, .ref O)] := hl
  have hPw : va_P D vwCl w s.heap := z_sub_P hP (fun z h => List.mem_append_left _ h)
  have hDw : va_D (fun _ => True) w := z_D_m (l1 := []) (l2 := [oC O y g]) hD
  refine lv_aload_n hx hb dL_lasts_0 rfl (lv_at hl 2 rfl) ?_
  refine lv_iconst (v := 0) hx hb dL_lasts_1 (by decide) ?_
  refine lv_aload_n hx hb dL_lasts_2 rfl (lv_at hl 0 rfl) ?_
  refine lv_iload_n hx hb dL_lasts_3 rfl (lv_at hl 1 rfl) ?_
  refine zcMV (As := [.int a0]) (rest := [.int 0, .ref O]) (st1 := [.int v, .int 0, .ref O]) (cells1 := 0) (slots1 := 0) ⟨hx, hb, hml, hown, hts⟩ (hM _) (cwV 1 hts gL_lasts_X3_lasts rfl hrm.1 hrm.2.1 (by decide +kernel) ⟨by show rm.frames + 1 ≤ 7; omega, by show 8 + (4 + 11) + rm.locals ≤ 200; omega⟩) hK hPw hDw (ci := 3) (q0 := 0) rfl rfl h0 rfl hl.1 rfl (lv_room (Nat.le_of_ble_eq_true rfl)) dL_lasts_4 va_S.rf (z_sub_F hD va_S.rf hA (fun z h => List.mem_append_left _ h)) ⟨by decide, by decide⟩ rfl rfl rfl (fun H locs hP1 hz hfr hS => ?_)
  obtain ⟨hP, hD⟩ := z_seg (l1 := []) (w := w) (w1 := w1) (l2 := [oC O y g]) (ws1 := w1 ++ [oC O y g]) hP hD rfl rfl had hP1 hfr
  refine lv_i2l (v := v.toInt64) hx hb dL_lasts_7 rfl ?_
  refine va_last hx hb hK hP hD hS (w1).length 3 (z_at_end _ _) rfl (i := 0) (by unfold vp_in; decide) dL_lasts_8 (fun H locs hP hD hS => ?_)
  rw [z_set_end] at hP
  refine lv_goto (tgt := 15) hx hb dL_lasts_9 (by decide) ?_
  refine lv_iconst (v := 0) hx hb dL_lasts_15 (by decide) ?_
  exact h_ret (by decide) (by decide) hx hb hr hlocks hS dL_lasts_16 hP
set_option maxHeartbeats 1000000 in
set_option maxRecDepth 100000 in
theorem h_L_lasts_T1 (l : Launch) (D : va_G) (y : Nat → ClassId) (X0 O : Nat) (a0 : Int32) (g : Nat → Int64) (w : va_W) {rm : Room} (hM : zT l yX3_lasts wsX3_lasts rm D y [.ref X0, .int a0] w "java/lang/IndexOutOfBoundsException") (hrm : rm.cells = 1 ∧ rm.slots = 6 ∧ rm.frames ≤ 6 ∧ rm.locals ≤ 140) {fs : List Value} (h0 : w[0]? = some (X0, .inr (3, fs))) (sz : Nat) : zH l yL_lasts wsL_lasts D y [.ref X0, .int a0, .ref O] (w ++ [oC O y g]) sz 1 (w ++ [oC O y g]) := by
  refine zH.of (cc := cL_lasts) (maxL := 4) (ret := (some .int)) (own := RL) (by decide) rfl (Nat.le_of_ble_eq_true rfl) rfl ?_
  intro p e s m args below meth cd ls A hx hb hr hml hown hts hlocks hct hP hK hD hA hX hl
  have hl : lv_has ls 4 [(0, .ref X0), (1, .int a0), (2, .ref O)] := hl
  have hPw : va_P D vwCl w s.heap := z_sub_P hP (fun z h => List.mem_append_left _ h)
  have hDw : va_D (fun _ => True) w := z_D_m (l1 := []) (l2 := [oC O y g]) hD
  refine lv_aload_n hx hb dL_lasts_0 rfl (lv_at hl 2 rfl) ?_
  refine lv_iconst (v := 0) hx hb dL_lasts_1 (by decide) ?_
  refine lv_aload_n hx hb dL_lasts_2 rfl (lv_at hl 0 rfl) ?_
  refine lv_iload_n hx hb dL_lasts_3 rfl (lv_at hl 1 rfl) ?_
  refine zcTV (As := [.int a0]) (rest := [.int 0, .ref O]) ⟨hx, hb, hml, hown, hts⟩ hM (cwV 1 hts gL_lasts_X3_lasts rfl hrm.1 hrm.2.1 (by decide +kernel) ⟨by show rm.frames + 1 ≤ 7; omega, by show 8 + (4 + 11) + rm.locals ≤ 200; omega⟩) hK hPw (fun U hU hW => hX.1.moved hW hU) (ci := 3) (q0 := 0) rfl rfl h0 rfl hl.1 rfl (lv_room (Nat.le_of_ble_eq_true rfl)) dL_lasts_4 ⟨by decide, by decide⟩ (fun H1 q9 ce hz hk hce hcv hcl => ?_)
  refine vx_catch (name := "java/lang/IndexOutOfBoundsException") hown [] ⟨0, 9, 12, 21⟩ [] (hct.trans rfl) (fun z h => nomatch h) (by decide) (by decide) (hts _ (by decide +kernel)) (h_cast hX (by decide)) hce hcv hcl ?_
  refine lv_astore_n (lv' := [(3, .ref q9), (0, .ref X0), (1, .int a0), (2, .ref O)]) hx hb dL_lasts_12 rfl hl (by decide) rfl (fun ls hl => ?_)
  refine lv_iconst (v := 1) hx hb dL_lasts_13 (by decide) ?_
  exact h_ret (by decide) (by decide) hx hb hr hlocks (⟨hz, fun q hq _ => hk q hq, fun _ h => nomatch h⟩ : va_S A s.heap H1 []) dL_lasts_14 (hP.kept (fun k q hq => hk q.1 (vx_lt hP hq)))
set_option maxHeartbeats 1000000 in
set_option maxRecDepth 100000 in
theorem h_L_foresee (l : Launch) (D : va_G) (y : Nat → ClassId) (X0 O : Nat) (a0 a1 : Int32) (g : Nat → Int64) (w w1 : va_W) (v : Int32) {rm : Room} (hM : ∀ sz, zM l yX3_foresee wsX3_foresee rm D y [.ref X0, .int a0, .int a1] w sz (some (.int v)) w1 0 0) (hrm : rm.cells = 0 ∧ rm.slots = 0 ∧ rm.frames ≤ 6 ∧ rm.locals ≤ 140) {fs : List Value} (h0 : w[0]? = some (X0, .inr (3, fs))) (had : w1.map Prod.fst = w.map Prod.fst) (sz : Nat) : zH l yL_foresee wsL_foresee D y [.ref X0, .int a0, .int a1, .ref O] (w ++ [oC O y g]) sz 0 (w1 ++ [oC O y (vp_updL g (0 : Int32).toNatClampNeg v.toInt64)]) := by
  refine zH.of (cc := cL_foresee) (maxL := 5) (ret := (some .int)) (own := RL) (by decide) rfl (Nat.le_of_ble_eq_true rfl) rfl ?_
  intro p e s m args below meth cd ls A hx hb hr hml hown hts hlocks hct hP hK hD hA hX hl
  have hl : lv_has ls 5 [(0, .ref X0), (1, .int a0), (2, .int a1), (3, .ref O)] := hl
  have hPw : va_P D vwCl w s.heap := z_sub_P hP (fun z h => List.mem_append_left _ h)
  have hDw : va_D (fun _ => True) w := z_D_m (l1 := []) (l2 := [oC O y g]) hD
  refine lv_aload_n hx hb dL_foresee_0 rfl (lv_at hl 3 rfl) ?_
  refine lv_iconst (v := 0) hx hb dL_foresee_1 (by decide) ?_
  refine lv_aload_n hx hb dL_foresee_2 rfl (lv_at hl 0 rfl) ?_
  refine lv_iload_n hx hb dL_foresee_3 rfl (lv_at hl 1 rfl) ?_
  refine lv_iload_n hx hb dL_foresee_4 rfl (lv_at hl 2 rfl) ?_
  refine zcMV (As := [.int a0, .int a1]) (rest := [.int 0, .ref O]) (st1 := [.int v, .int 0, .ref O]) (cells1 := 0) (slots1 := 0) ⟨hx, hb, hml, hown, hts⟩ (hM _) (cwV 2 hts gL_foresee_X3_foresee rfl hrm.1 hrm.2.1 (by decide +kernel) ⟨by show rm.frames + 1 ≤ 7; omega, by show 8 + (3 + 11) + rm.locals ≤ 200; omega⟩) hK hPw hDw (ci := 3) (q0 := 0) rfl rfl h0 rfl hl.1 rfl (lv_room (Nat.le_of_ble_eq_true rfl)) dL_foresee_5 va_S.rf (z_sub_F hD va_S.rf hA (fun z h => List.mem_append_left _ h)) ⟨by decide, by decide⟩ rfl rfl rfl (fun H locs hP1 hz hfr hS => ?_)
  obtain ⟨hP, hD⟩ := z_seg (l1 := []) (w := w) (w1 := w1) (l2 := [oC O y g]) (ws1 := w1 ++ [oC O y g]) hP hD rfl rfl had hP1 hfr
  refine lv_i2l (v := v.toInt64) hx hb dL_foresee_8 rfl ?_
  refine va_last hx hb hK hP hD hS (w1).length 3 (z_at_end _ _) rfl (i := 0) (by unfold vp_in; decide) dL_foresee_9 (fun H locs hP hD hS => ?_)
  rw [z_set_end] at hP
  refine lv_goto (tgt := 21) hx hb dL_foresee_10 (by decide) ?_
  refine lv_iconst (v := 0) hx hb dL_foresee_21 (by decide) ?_
  exact h_ret (by decide) (by decide) hx hb hr hlocks hS dL_foresee_22 hP
set_option maxHeartbeats 1000000 in
set_option maxRecDepth 100000 in
theorem h_L_foresee_T1 (l : Launch) (D : va_G) (y : Nat → ClassId) (X0 O : Nat) (a0 a1 : Int32) (g : Nat → Int64) (w : va_W) {rm : Room} (hM : zT l yX3_foresee wsX3_foresee rm D y [.ref X0, .int a0, .int a1] w "java/lang/IllegalArgumentException") (hrm : rm.cells = 1 ∧ rm.slots = 6 ∧ rm.frames ≤ 6 ∧ rm.locals ≤ 140) {fs : List Value} (h0 : w[0]? = some (X0, .inr (3, fs))) (sz : Nat) : zH l yL_foresee wsL_foresee D y [.ref X0, .int a0, .int a1, .ref O] (w ++ [oC O y g]) sz 1 (w ++ [oC O y g]) := by
  refine zH.of (cc := cL_foresee) (maxL := 5) (ret := (some .int)) (own := RL) (by decide) rfl (Nat.le_of_ble_eq_true rfl) rfl ?_
  intro p e s m args below meth cd ls A hx hb hr hml hown hts hlocks hct hP hK hD hA hX hl
  have hl : lv_has ls 5 [(0, .ref X0), (1, .int a0), (2, .int a1), (3, .ref O)] := hl
  have hPw : va_P D vwCl w s.heap := z_sub_P hP (fun z h => List.mem_append_left _ h)
  have hDw : va_D (fun _ => True) w := z_D_m (l1 := []) (l2 := [oC O y g]) hD
  refine lv_aload_n hx hb dL_foresee_0 rfl (lv_at hl 3 rfl) ?_
  refine lv_iconst (v := 0) hx hb dL_foresee_1 (by decide) ?_
  refine lv_aload_n hx hb dL_foresee_2 rfl (lv_at hl 0 rfl) ?_
  refine lv_iload_n hx hb dL_foresee_3 rfl (lv_at hl 1 rfl) ?_
  refine lv_iload_n hx hb dL_foresee_4 rfl (lv_at hl 2 rfl) ?_
  refine zcTV (As := [.int a0, .int a1]) (rest := [.int 0, .ref O]) ⟨hx, hb, hml, hown, hts⟩ hM (cwV 2 hts gL_foresee_X3_foresee rfl hrm.1 hrm.2.1 (by decide +kernel) ⟨by show rm.frames + 1 ≤ 7; omega, by show 8 + (3 + 11) + rm.locals ≤ 200; omega⟩) hK hPw (fun U hU hW => hX.1.moved hW hU) (ci := 3) (q0 := 0) rfl rfl h0 rfl hl.1 rfl (lv_room (Nat.le_of_ble_eq_true rfl)) dL_foresee_5 ⟨by decide, by decide⟩ (fun H1 q9 ce hz hk hce hcv hcl => ?_)
  refine vx_catch (name := "java/lang/IllegalArgumentException") hown [] ⟨0, 10, 13, 13⟩ [⟨0, 10, 17, 21⟩] (hct.trans rfl) (fun z h => nomatch h) (by decide) (by decide) (hts _ (by decide +kernel)) (h_cast hX (by decide)) hce hcv hcl ?_
  refine lv_astore (lv' := [(4, .ref q9), (0, .ref X0), (1, .int a0), (2, .int a1), (3, .ref O)]) hx hb dL_foresee_13 hl (by decide) rfl (fun ls hl => ?_)
  refine lv_iconst (v := 1) hx hb dL_foresee_15 (by decide) ?_
  exact h_ret (by decide) (by decide) hx hb hr hlocks (⟨hz, fun q hq _ => hk q hq, fun _ h => nomatch h⟩ : va_S A s.heap H1 []) dL_foresee_16 (hP.kept (fun k q hq => hk q.1 (vx_lt hP hq)))
set_option maxHeartbeats 1000000 in
set_option maxRecDepth 100000 in
theorem h_L_foresee_T2 (l : Launch) (D : va_G) (y : Nat → ClassId) (X0 O : Nat) (a0 a1 : Int32) (g : Nat → Int64) (w : va_W) {rm : Room} (hM : zT l yX3_foresee wsX3_foresee rm D y [.ref X0, .int a0, .int a1] w "java/lang/IndexOutOfBoundsException") (hrm : rm.cells = 1 ∧ rm.slots = 6 ∧ rm.frames ≤ 6 ∧ rm.locals ≤ 140) {fs : List Value} (h0 : w[0]? = some (X0, .inr (3, fs))) (sz : Nat) : zH l yL_foresee wsL_foresee D y [.ref X0, .int a0, .int a1, .ref O] (w ++ [oC O y g]) sz 2 (w ++ [oC O y g]) := by
  refine zH.of (cc := cL_foresee) (maxL := 5) (ret := (some .int)) (own := RL) (by decide) rfl (Nat.le_of_ble_eq_true rfl) rfl ?_
  intro p e s m args below meth cd ls A hx hb hr hml hown hts hlocks hct hP hK hD hA hX hl
  have hl : lv_has ls 5 [(0, .ref X0), (1, .int a0), (2, .int a1), (3, .ref O)] := hl
  have hPw : va_P D vwCl w s.heap := z_sub_P hP (fun z h => List.mem_append_left _ h)
  have hDw : va_D (fun _ => True) w := z_D_m (l1 := []) (l2 := [oC O y g]) hD
  refine lv_aload_n hx hb dL_foresee_0 rfl (lv_at hl 3 rfl) ?_
  refine lv_iconst (v := 0) hx hb dL_foresee_1 (by decide) ?_
  refine lv_aload_n hx hb dL_foresee_2 rfl (lv_at hl 0 rfl) ?_
  refine lv_iload_n hx hb dL_foresee_3 rfl (lv_at hl 1 rfl) ?_
  refine lv_iload_n hx hb dL_foresee_4 rfl (lv_at hl 2 rfl) ?_
  refine zcTV (As := [.int a0, .int a1]) (rest := [.int 0, .ref O]) ⟨hx, hb, hml, hown, hts⟩ hM (cwV 2 hts gL_foresee_X3_foresee rfl hrm.1 hrm.2.1 (by decide +kernel) ⟨by show rm.frames + 1 ≤ 7; omega, by show 8 + (3 + 11) + rm.locals ≤ 200; omega⟩) hK hPw (fun U hU hW => hX.1.moved hW hU) (ci := 3) (q0 := 0) rfl rfl h0 rfl hl.1 rfl (lv_room (Nat.le_of_ble_eq_true rfl)) dL_foresee_5 ⟨by decide, by decide⟩ (fun H1 q9 ce hz hk hce hcv hcl => ?_)
  refine vx_catch (name := "java/lang/IndexOutOfBoundsException") hown [⟨0, 10, 13, 13⟩] ⟨0, 10, 17, 21⟩ [] (hct.trans rfl) (List.forall_mem_cons.mpr ⟨Or.inr ⟨by decide, "java/lang/IllegalArgumentException", hts _ (by decide +kernel), hX.2 ("java/lang/IndexOutOfBoundsException", "java/lang/IllegalArgumentException") (by decide)⟩, (fun z h => nomatch h)⟩) (by decide) (by decide) (hts _ (by decide +kernel)) (h_cast hX (by decide)) hce hcv hcl ?_
  refine lv_astore (lv' := [(4, .ref q9), (0, .ref X0), (1, .int a0), (2, .int a1), (3, .ref O)]) hx hb dL_foresee_17 hl (by decide) rfl (fun ls hl => ?_)
  refine lv_iconst (v := 2) hx hb dL_foresee_19 (by decide) ?_
  exact h_ret (by decide) (by decide) hx hb hr hlocks (⟨hz, fun q hq _ => hk q hq, fun _ h => nomatch h⟩ : va_S A s.heap H1 []) dL_foresee_20 (hP.kept (fun k q hq => hk q.1 (vx_lt hP hq)))
set_option maxHeartbeats 1000000 in
set_option maxRecDepth 100000 in
theorem h_L_advise (l : Launch) (D : va_G) (y : Nat → ClassId) (X0 O : Nat) (a0 a1 : Int32) (g : Nat → Int64) (w w1 : va_W) (v : Int32) {rm : Room} (hM : ∀ sz, zM l yX3_advise wsX3_advise rm D y [.ref X0, .int a0, .int a1] w sz (some (.int v)) w1 0 0) (hrm : rm.cells = 0 ∧ rm.slots = 0 ∧ rm.frames ≤ 6 ∧ rm.locals ≤ 140) {fs : List Value} (h0 : w[0]? = some (X0, .inr (3, fs))) (had : w1.map Prod.fst = w.map Prod.fst) (sz : Nat) : zH l yL_advise wsL_advise D y [.ref X0, .int a0, .int a1, .ref O] (w ++ [oC O y g]) sz 0 (w1 ++ [oC O y (vp_updL g (0 : Int32).toNatClampNeg v.toInt64)]) := by
  refine zH.of (cc := cL_advise) (maxL := 5) (ret := (some .int)) (own := RL) (by decide) rfl (Nat.le_of_ble_eq_true rfl) rfl ?_
  intro p e s m args below meth cd ls A hx hb hr hml hown hts hlocks hct hP hK hD hA hX hl
  have hl : lv_has ls 5 [(0, .ref X0), (1, .int a0), (2, .int a1), (3, .ref O)] := hl
  have hPw : va_P D vwCl w s.heap := z_sub_P hP (fun z h => List.mem_append_left _ h)
  have hDw : va_D (fun _ => True) w := z_D_m (l1 := []) (l2 := [oC O y g]) hD
  refine lv_aload_n hx hb dL_advise_0 rfl (lv_at hl 3 rfl) ?_
  refine lv_iconst (v := 0) hx hb dL_advise_1 (by decide) ?_
  refine lv_aload_n hx hb dL_advise_2 rfl (lv_at hl 0 rfl) ?_
  refine lv_iload_n hx hb dL_advise_3 rfl (lv_at hl 1 rfl) ?_
  refine lv_iload_n hx hb dL_advise_4 rfl (lv_at hl 2 rfl) ?_
  refine zcMV (As := [.int a0, .int a1]) (rest := [.int 0, .ref O]) (st1 := [.int v, .int 0, .ref O]) (cells1 := 0) (slots1 := 0) ⟨hx, hb, hml, hown, hts⟩ (hM _) (cwV 2 hts gL_advise_X3_advise rfl hrm.1 hrm.2.1 (by decide +kernel) ⟨by show rm.frames + 1 ≤ 7; omega, by show 8 + (8 + 11) + rm.locals ≤ 200; omega⟩) hK hPw hDw (ci := 3) (q0 := 0) rfl rfl h0 rfl hl.1 rfl (lv_room (Nat.le_of_ble_eq_true rfl)) dL_advise_5 va_S.rf (z_sub_F hD va_S.rf hA (fun z h => List.mem_append_left _ h)) ⟨by decide, by decide⟩ rfl rfl rfl (fun H locs hP1 hz hfr hS => ?_)
  obtain ⟨hP, hD⟩ := z_seg (l1 := []) (w := w) (w1 := w1) (l2 := [oC O y g]) (ws1 := w1 ++ [oC O y g]) hP hD rfl rfl had hP1 hfr
  refine lv_i2l (v := v.toInt64) hx hb dL_advise_8 rfl ?_
  refine va_last hx hb hK hP hD hS (w1).length 3 (z_at_end _ _) rfl (i := 0) (by unfold vp_in; decide) dL_advise_9 (fun H locs hP hD hS => ?_)
  rw [z_set_end] at hP
  refine lv_goto (tgt := 21) hx hb dL_advise_10 (by decide) ?_
  refine lv_iconst (v := 0) hx hb dL_advise_21 (by decide) ?_
  exact h_ret (by decide) (by decide) hx hb hr hlocks hS dL_advise_22 hP
set_option maxHeartbeats 1000000 in
set_option maxRecDepth 100000 in
theorem h_L_advise_T1 (l : Launch) (D : va_G) (y : Nat → ClassId) (X0 O : Nat) (a0 a1 : Int32) (g : Nat → Int64) (w : va_W) {rm : Room} (hM : zT l yX3_advise wsX3_advise rm D y [.ref X0, .int a0, .int a1] w "java/lang/IndexOutOfBoundsException") (hrm : rm.cells = 1 ∧ rm.slots = 6 ∧ rm.frames ≤ 6 ∧ rm.locals ≤ 140) {fs : List Value} (h0 : w[0]? = some (X0, .inr (3, fs))) (sz : Nat) : zH l yL_advise wsL_advise D y [.ref X0, .int a0, .int a1, .ref O] (w ++ [oC O y g]) sz 1 (w ++ [oC O y g]) := by
  refine zH.of (cc := cL_advise) (maxL := 5) (ret := (some .int)) (own := RL) (by decide) rfl (Nat.le_of_ble_eq_true rfl) rfl ?_
  intro p e s m args below meth cd ls A hx hb hr hml hown hts hlocks hct hP hK hD hA hX hl
  have hl : lv_has ls 5 [(0, .ref X0), (1, .int a0), (2, .int a1), (3, .ref O)] := hl
  have hPw : va_P D vwCl w s.heap := z_sub_P hP (fun z h => List.mem_append_left _ h)
  have hDw : va_D (fun _ => True) w := z_D_m (l1 := []) (l2 := [oC O y g]) hD
  refine lv_aload_n hx hb dL_advise_0 rfl (lv_at hl 3 rfl) ?_
  refine lv_iconst (v := 0) hx hb dL_advise_1 (by decide) ?_
  refine lv_aload_n hx hb dL_advise_2 rfl (lv_at hl 0 rfl) ?_
  refine lv_iload_n hx hb dL_advise_3 rfl (lv_at hl 1 rfl) ?_
  refine lv_iload_n hx hb dL_advise_4 rfl (lv_at hl 2 rfl) ?_
  refine zcTV (As := [.int a0, .int a1]) (rest := [.int 0, .ref O]) ⟨hx, hb, hml, hown, hts⟩ hM (cwV 2 hts gL_advise_X3_advise rfl hrm.1 hrm.2.1 (by decide +kernel) ⟨by show rm.frames + 1 ≤ 7; omega, by show 8 + (8 + 11) + rm.locals ≤ 200; omega⟩) hK hPw (fun U hU hW => hX.1.moved hW hU) (ci := 3) (q0 := 0) rfl rfl h0 rfl hl.1 rfl (lv_room (Nat.le_of_ble_eq_true rfl)) dL_advise_5 ⟨by decide, by decide⟩ (fun H1 q9 ce hz hk hce hcv hcl => ?_)
  refine vx_catch (name := "java/lang/IndexOutOfBoundsException") hown [] ⟨0, 10, 13, 21⟩ [⟨0, 10, 17, 13⟩] (hct.trans rfl) (fun z h => nomatch h) (by decide) (by decide) (hts _ (by decide +kernel)) (h_cast hX (by decide)) hce hcv hcl ?_
  refine lv_astore (lv' := [(4, .ref q9), (0, .ref X0), (1, .int a0), (2, .int a1), (3, .ref O)]) hx hb dL_advise_13 hl (by decide) rfl (fun ls hl => ?_)
  refine lv_iconst (v := 1) hx hb dL_advise_15 (by decide) ?_
  exact h_ret (by decide) (by decide) hx hb hr hlocks (⟨hz, fun q hq _ => hk q hq, fun _ h => nomatch h⟩ : va_S A s.heap H1 []) dL_advise_16 (hP.kept (fun k q hq => hk q.1 (vx_lt hP hq)))
set_option maxHeartbeats 1000000 in
set_option maxRecDepth 100000 in
theorem h_L_advise_T2 (l : Launch) (D : va_G) (y : Nat → ClassId) (X0 O : Nat) (a0 a1 : Int32) (g : Nat → Int64) (w : va_W) {rm : Room} (hM : zT l yX3_advise wsX3_advise rm D y [.ref X0, .int a0, .int a1] w "java/lang/IllegalArgumentException") (hrm : rm.cells = 1 ∧ rm.slots = 6 ∧ rm.frames ≤ 6 ∧ rm.locals ≤ 140) {fs : List Value} (h0 : w[0]? = some (X0, .inr (3, fs))) (sz : Nat) : zH l yL_advise wsL_advise D y [.ref X0, .int a0, .int a1, .ref O] (w ++ [oC O y g]) sz 2 (w ++ [oC O y g]) := by
  refine zH.of (cc := cL_advise) (maxL := 5) (ret := (some .int)) (own := RL) (by decide) rfl (Nat.le_of_ble_eq_true rfl) rfl ?_
  intro p e s m args below meth cd ls A hx hb hr hml hown hts hlocks hct hP hK hD hA hX hl
  have hl : lv_has ls 5 [(0, .ref X0), (1, .int a0), (2, .int a1), (3, .ref O)] := hl
  have hPw : va_P D vwCl w s.heap := z_sub_P hP (fun z h => List.mem_append_left _ h)
  have hDw : va_D (fun _ => True) w := z_D_m (l1 := []) (l2 := [oC O y g]) hD
  refine lv_aload_n hx hb dL_advise_0 rfl (lv_at hl 3 rfl) ?_
  refine lv_iconst (v := 0) hx hb dL_advise_1 (by decide) ?_
  refine lv_aload_n hx hb dL_advise_2 rfl (lv_at hl 0 rfl) ?_
  refine lv_iload_n hx hb dL_advise_3 rfl (lv_at hl 1 rfl) ?_
  refine lv_iload_n hx hb dL_advise_4 rfl (lv_at hl 2 rfl) ?_
  refine zcTV (As := [.int a0, .int a1]) (rest := [.int 0, .ref O]) ⟨hx, hb, hml, hown, hts⟩ hM (cwV 2 hts gL_advise_X3_advise rfl hrm.1 hrm.2.1 (by decide +kernel) ⟨by show rm.frames + 1 ≤ 7; omega, by show 8 + (8 + 11) + rm.locals ≤ 200; omega⟩) hK hPw (fun U hU hW => hX.1.moved hW hU) (ci := 3) (q0 := 0) rfl rfl h0 rfl hl.1 rfl (lv_room (Nat.le_of_ble_eq_true rfl)) dL_advise_5 ⟨by decide, by decide⟩ (fun H1 q9 ce hz hk hce hcv hcl => ?_)
  refine vx_catch (name := "java/lang/IllegalArgumentException") hown [⟨0, 10, 13, 21⟩] ⟨0, 10, 17, 13⟩ [] (hct.trans rfl) (List.forall_mem_cons.mpr ⟨Or.inr ⟨by decide, "java/lang/IndexOutOfBoundsException", hts _ (by decide +kernel), hX.2 ("java/lang/IllegalArgumentException", "java/lang/IndexOutOfBoundsException") (by decide)⟩, (fun z h => nomatch h)⟩) (by decide) (by decide) (hts _ (by decide +kernel)) (h_cast hX (by decide)) hce hcv hcl ?_
  refine lv_astore (lv' := [(4, .ref q9), (0, .ref X0), (1, .int a0), (2, .int a1), (3, .ref O)]) hx hb dL_advise_17 hl (by decide) rfl (fun ls hl => ?_)
  refine lv_iconst (v := 2) hx hb dL_advise_19 (by decide) ?_
  exact h_ret (by decide) (by decide) hx hb hr hlocks (⟨hz, fun q hq _ => hk q hq, fun _ h => nomatch h⟩ : va_S A s.heap H1 []) dL_advise_20 (hP.kept (fun k q hq => hk q.1 (vx_lt hP hq)))
