set_option maxHeartbeats 1000000 in
set_option maxRecDepth 100000 in
theorem seg_weir {p : Program} {e : Env} {s : State} {m : MethodId} {below : List Frame} {meth : Method} {c : Code} {Q : State → Prop} (l : Launch) {b L : Nat} {xs : Nat → Int32} {D : va_G} {y : Nat → ClassId} (C : LCtx p s m c b L xs D y) {i : Nat} (hi : i + 4 ≤ L) {X0 Y0 O : Nat} {a1 a2 a3 : Int32} (e1 : xs (i + 1) = a1) (e2 : xs (i + 2) = a2) (e3 : xs (i + 3) = a3)
    {w w1 zw zw1 : va_W} {g g1 : Nat → Int64} {k v : Int32} {rm : Room} {mc ms : Nat}
    (hH : ∀ sz, zH l yL_weir wsL_weir D y [.ref X0, .int a1, .int a2, .int a3, .ref O] (w ++ [oC O y g]) sz k (w1 ++ [oC O y g1]))
    (hM : ∀ sz, zMN l yX5_weir wsX5_weir rm D y [.ref Y0, .int a1, .int a2, .int a3] zw sz (some (.int v)) zw1 mc ms) (hrc : rm.cells = mc) (hrs : rm.slots = ms) (hrm : rm.frames ≤ 8 ∧ rm.locals ≤ 200 ∧ mc ≤ 57 ∧ ms ≤ 400)
    (hT : zR l yX5_thrown wsX5_thrown { frames := 0, cells := 0, slots := 0, locals := 0 } D y [.ref Y0] zw1 (some (.int k))) (hv : k = 0 → g1 (0 : Int32).toNatClampNeg = v.toInt64)
    {fs fs1 : List Value} (h0 : zw[0]? = some (Y0, .inr (5, fs))) (h01 : zw1[0]? = some (Y0, .inr (5, fs1))) (had : w1.map Prod.fst = w.map Prod.fst) (hadz : zw1.map Prod.fst = zw.map Prod.fst)
    {H : Heap} {locs : List Loc} {ls : Array Slot} {cells slots : Nat} (hc : cells + 58 ≤ 601024 ∧ slots + 484 ≤ 7293034) (hP : va_P D vwCl ((w ++ [oC O y g]) ++ zw) H) (hD : va_D (lA s) ((w ++ [oC O y g]) ++ zw)) (hS : va_S (lA s) s.heap H locs) (hl : lv_has ls 9 [(4, .int (nI i)), (3, .ref O), (2, .ref Y0), (1, .ref X0), (0, .ref b)])
    (kk : ∀ (H1 : Heap) (locs1 : List Loc) (ls1 : Array Slot), va_P D vwCl ((w1 ++ [oC O y g1]) ++ zw1) H1 → va_D (lA s) ((w1 ++ [oC O y g1]) ++ zw1) → va_S (lA s) s.heap H1 locs1 → lv_has ls1 9 [(4, .int (nI i)), (3, .ref O), (2, .ref Y0), (1, .ref X0), (0, .ref b)] → W p l e room_1 s m #[Value.ref b] below meth c H1 locs1 (cells + 58) (slots + 484) Q (F0 m 1267 ls1 [])) : W p l e room_1 s m #[Value.ref b] below meth c H locs cells slots Q (F0 m 132 ls []) := by
  have hx := C.hx
  have hb := C.hb
  have hml := C.hml
  have hown := C.hown
  have hts := C.hts
  have hK := C.hK
  have hA : ∀ q : Nat, s.heap.size ≤ q → lA s q := fun q h => h
  have had2 : (w1 ++ [oC O y g1]).map Prod.fst = (w ++ [oC O y g]).map Prod.fst := by rw [List.map_append, List.map_append, had]; rfl
  refine lv_aload_n hx hb dL_law_132 rfl (lv_at hl 3 rfl) ?_
  refine l_arg (j := 1) (J := 1) C e1 (by omega) (by decide) dL_law_133 dL_law_134 dL_law_136 dL_law_137 dL_law_138 hS (lv_at hl 4 rfl) (lv_at hl 0 rfl) ?_
  refine l_arg (j := 2) (J := 2) C e2 (by omega) (by decide) dL_law_139 dL_law_140 dL_law_142 dL_law_143 dL_law_144 hS (lv_at hl 4 rfl) (lv_at hl 0 rfl) ?_
  refine l_arg (j := 3) (J := 3) C e3 (by omega) (by decide) dL_law_145 dL_law_146 dL_law_148 dL_law_149 dL_law_150 hS (lv_at hl 4 rfl) (lv_at hl 0 rfl) ?_
  refine lv_aload_n hx hb dL_law_151 rfl (lv_at hl 1 rfl) ?_
  refine zcHS (As := [.ref X0, .int a1, .int a2, .int a3, .ref O]) (rest := []) (st1 := [.int k]) (cells1 := cells + 1) (slots1 := slots + 6) (w := w ++ [oC O y g]) ⟨hx, hb, hml, hown, hts⟩ (hH _) (vx_cwSW 5 hts tL_weir rfl rfl rfl (by decide +kernel) ⟨(Nat.le_of_ble_eq_true rfl), (Nat.le_of_ble_eq_true rfl)⟩) (C.hX9 hS) hK (z_sub_P hP (fun z h => List.mem_append_left _ h)) (z_D_m (l1 := []) (l2 := zw) hD) rfl hl.1 rfl (lv_room (Nat.le_of_ble_eq_true rfl)) dL_law_152 hS (z_sub_F hD hS hA (fun z h => List.mem_append_left _ h)) ⟨by show cells + 1 ≤ 601024; omega, by show slots + 6 ≤ 7293034; omega⟩ rfl rfl rfl (fun H locs hP1 hz hfr hS => ?_)
  obtain ⟨hP, hD⟩ := z_seg (l1 := []) (w := w ++ [oC O y g]) (w1 := w1 ++ [oC O y g1]) (l2 := zw) (ws1 := ((w1 ++ [oC O y g1]) ++ zw)) hP hD rfl rfl had2 hP1 hfr
  refine lv_istore (lv' := [(5, .int k), (4, .int (nI i)), (3, .ref O), (2, .ref Y0), (1, .ref X0), (0, .ref b)]) hx hb dL_law_155 hl (by decide) rfl (fun ls hl => ?_)
  refine lv_aload_n hx hb dL_law_157 rfl (lv_at hl 3 rfl) ?_
  refine l_arg (j := 1) (J := 1) C e1 (by omega) (by decide) dL_law_158 dL_law_159 dL_law_161 dL_law_162 dL_law_163 hS (lv_at hl 5 rfl) (lv_at hl 1 rfl) ?_
  refine l_arg (j := 2) (J := 2) C e2 (by omega) (by decide) dL_law_164 dL_law_165 dL_law_167 dL_law_168 dL_law_169 hS (lv_at hl 5 rfl) (lv_at hl 1 rfl) ?_
  refine l_arg (j := 3) (J := 3) C e3 (by omega) (by decide) dL_law_170 dL_law_171 dL_law_173 dL_law_174 dL_law_175 hS (lv_at hl 5 rfl) (lv_at hl 1 rfl) ?_
  refine zcNMV (As := [.int a1, .int a2, .int a3]) (rest := []) (st1 := [.int v]) (cells1 := cells + 1 + mc) (slots1 := slots + 6 + ms) (w := zw) ⟨hx, hb, hml, hown, hts⟩ (hM _) (cwV 3 hts tX5_weir rfl hrc hrs (by decide +kernel) ⟨by show rm.frames + 1 ≤ 10; omega, by show 8 + (4 + 11) + rm.locals ≤ 372; omega⟩) C.hN hK (z_sub_P hP (fun z h => List.mem_append_right _ h)) (z_D_m (l1 := w1 ++ [oC O y g1]) (l2 := []) (by rw [List.append_nil]; exact hD)) (ci := 5) (q0 := 0) rfl rfl h0 rfl hl.1 rfl (lv_room (Nat.le_of_ble_eq_true rfl)) dL_law_176 hS (z_sub_F hD hS hA (fun z h => List.mem_append_right _ h)) ⟨by show cells + 1 + mc ≤ 601024; omega, by show slots + 6 + ms ≤ 7293034; omega⟩ rfl rfl rfl (fun H locs hP1 hz hfr hS => ?_)
  obtain ⟨hP, hD⟩ := z_seg (l1 := w1 ++ [oC O y g1]) (w := zw) (w1 := zw1) (l2 := []) (ws1 := ((w1 ++ [oC O y g1]) ++ zw1)) hP hD (by rw [List.append_nil]) (by rw [List.append_nil]) hadz hP1 hfr
  refine lv_istore (lv' := [(6, .int v), (5, .int k), (4, .int (nI i)), (3, .ref O), (2, .ref Y0), (1, .ref X0), (0, .ref b)]) hx hb dL_law_179 hl (by decide) rfl (fun ls hl => ?_)
  refine lv_aload_n hx hb dL_law_181 rfl (lv_at hl 4 rfl) ?_
  refine zcRV (As := []) (rest := []) (st1 := [.int k]) (w := zw1) ⟨hx, hb, hml, hown, hts⟩ hT (cwV 0 hts tX5_thrown rfl rfl rfl (by decide +kernel) ⟨(Nat.le_of_ble_eq_true rfl), (Nat.le_of_ble_eq_true rfl)⟩) hK (z_sub_P hP (fun z h => List.mem_append_right _ h)) (ci := 5) (q0 := 0) rfl rfl h01 rfl hl.1 rfl (lv_room (Nat.le_of_ble_eq_true rfl)) dL_law_182 ⟨by show cells + 1 + mc ≤ 601024; omega, by show slots + 6 + ms ≤ 7293034; omega⟩ rfl ?_
  refine lv_iload hx hb dL_law_185 (lv_at hl 1 rfl) ?_
  refine lv_icmp_eq (tgt := 192) hx hb dL_law_187 (by decide) (fun _ => ?_) (fun c9 => absurd rfl c9)
  refine lv_iload hx hb dL_law_192 (lv_at hl 1 rfl) ?_
  have last : ∀ ls : Array Slot, lv_has ls 9 [(6, .int v), (5, .int k), (4, .int (nI i)), (3, .ref O), (2, .ref Y0), (1, .ref X0), (0, .ref b)] → W p l e room_1 s m #[Value.ref b] below meth c H locs (cells + 1 + mc) (slots + 6 + ms) Q (F0 m 209 ls []) := by
    intro ls hl
    refine lv_goto (tgt := 1267) hx hb dL_law_209 (by decide) ?_
    refine W.widen (k := cells + 58) (n := slots + 484) (by omega) (by omega) ?_
    exact kk H locs ls hP hD hS (lv_sub hl [2, 3, 4, 5, 6] rfl)
  refine lv_if_ne (tgt := 209) hx hb dL_law_194 (by decide) (fun _ => last ls hl) (fun c9 => ?_)
  have k0 : k = 0 := c9
  refine lv_aload_n hx hb dL_law_197 rfl (lv_at hl 3 rfl) ?_
  refine lv_iconst (v := 0) hx hb dL_law_198 (by decide) ?_
  refine va_lald hx hb hK (ws := [oC O y g1]) (z_sub_P hP (fun z h => List.mem_append_left _ (List.mem_append_right _ h))) 0 3 rfl rfl (i := 0) (by unfold vp_in; decide) dL_law_199 ?_
  rw [hv k0]
  refine lv_iload hx hb dL_law_200 (lv_at hl 0 rfl) ?_
  refine lv_i2l (v := v.toInt64) hx hb dL_law_202 rfl ?_
  refine lv_lcmp0 hx hb dL_law_203 ?_
  exact lv_if_eq (tgt := 209) hx hb dL_law_204 (by decide) (fun _ => last ls hl) (fun c9 => absurd rfl c9)
set_option maxHeartbeats 1000000 in
set_option maxRecDepth 100000 in
theorem seg_gate {p : Program} {e : Env} {s : State} {m : MethodId} {below : List Frame} {meth : Method} {c : Code} {Q : State → Prop} (l : Launch) {b L : Nat} {xs : Nat → Int32} {D : va_G} {y : Nat → ClassId} (C : LCtx p s m c b L xs D y) {i : Nat} (hi : i + 4 ≤ L) {X0 Y0 O : Nat} {a1 : Int32} (e1 : xs (i + 1) = a1)
    {w w1 zw zw1 : va_W} {g g1 : Nat → Int64} {k v : Int32} {rm : Room} {mc ms : Nat}
    (hH : ∀ sz, zH l yL_gate wsL_gate D y [.ref X0, .int a1, .ref O] (w ++ [oC O y g]) sz k (w1 ++ [oC O y g1]))
    (hM : ∀ sz, zMN l yX5_gate wsX5_gate rm D y [.ref Y0, .int a1] zw sz (some (.int v)) zw1 mc ms) (hrc : rm.cells = mc) (hrs : rm.slots = ms) (hrm : rm.frames ≤ 8 ∧ rm.locals ≤ 200 ∧ mc ≤ 57 ∧ ms ≤ 400)
    (hT : zR l yX5_thrown wsX5_thrown { frames := 0, cells := 0, slots := 0, locals := 0 } D y [.ref Y0] zw1 (some (.int k))) (hv : k = 0 → g1 (0 : Int32).toNatClampNeg = (if v = 0 then 0 else 1))
    {fs fs1 : List Value} (h0 : zw[0]? = some (Y0, .inr (5, fs))) (h01 : zw1[0]? = some (Y0, .inr (5, fs1))) (had : w1.map Prod.fst = w.map Prod.fst) (hadz : zw1.map Prod.fst = zw.map Prod.fst)
    {H : Heap} {locs : List Loc} {ls : Array Slot} {cells slots : Nat} (hc : cells + 58 ≤ 601024 ∧ slots + 484 ≤ 7293034) (hP : va_P D vwCl ((w ++ [oC O y g]) ++ zw) H) (hD : va_D (lA s) ((w ++ [oC O y g]) ++ zw)) (hS : va_S (lA s) s.heap H locs) (hl : lv_has ls 9 [(4, .int (nI i)), (3, .ref O), (2, .ref Y0), (1, .ref X0), (0, .ref b)])
    (kk : ∀ (H1 : Heap) (locs1 : List Loc) (ls1 : Array Slot), va_P D vwCl ((w1 ++ [oC O y g1]) ++ zw1) H1 → va_D (lA s) ((w1 ++ [oC O y g1]) ++ zw1) → va_S (lA s) s.heap H1 locs1 → lv_has ls1 9 [(4, .int (nI i)), (3, .ref O), (2, .ref Y0), (1, .ref X0), (0, .ref b)] → W p l e room_1 s m #[Value.ref b] below meth c H1 locs1 (cells + 58) (slots + 484) Q (F0 m 1267 ls1 [])) : W p l e room_1 s m #[Value.ref b] below meth c H locs cells slots Q (F0 m 212 ls []) := by
  have hx := C.hx
  have hb := C.hb
  have hml := C.hml
  have hown := C.hown
  have hts := C.hts
  have hK := C.hK
  have hA : ∀ q : Nat, s.heap.size ≤ q → lA s q := fun q h => h
  have had2 : (w1 ++ [oC O y g1]).map Prod.fst = (w ++ [oC O y g]).map Prod.fst := by rw [List.map_append, List.map_append, had]; rfl
  refine lv_aload_n hx hb dL_law_212 rfl (lv_at hl 3 rfl) ?_
  refine l_arg (j := 1) (J := 1) C e1 (by omega) (by decide) dL_law_213 dL_law_214 dL_law_216 dL_law_217 dL_law_218 hS (lv_at hl 4 rfl) (lv_at hl 0 rfl) ?_
  refine lv_aload_n hx hb dL_law_219 rfl (lv_at hl 1 rfl) ?_
  refine zcHS (As := [.ref X0, .int a1, .ref O]) (rest := []) (st1 := [.int k]) (cells1 := cells + 1) (slots1 := slots + 6) (w := w ++ [oC O y g]) ⟨hx, hb, hml, hown, hts⟩ (hH _) (vx_cwSW 3 hts tL_gate rfl rfl rfl (by decide +kernel) ⟨(Nat.le_of_ble_eq_true rfl), (Nat.le_of_ble_eq_true rfl)⟩) (C.hX9 hS) hK (z_sub_P hP (fun z h => List.mem_append_left _ h)) (z_D_m (l1 := []) (l2 := zw) hD) rfl hl.1 rfl (lv_room (Nat.le_of_ble_eq_true rfl)) dL_law_220 hS (z_sub_F hD hS hA (fun z h => List.mem_append_left _ h)) ⟨by show cells + 1 ≤ 601024; omega, by show slots + 6 ≤ 7293034; omega⟩ rfl rfl rfl (fun H locs hP1 hz hfr hS => ?_)
  obtain ⟨hP, hD⟩ := z_seg (l1 := []) (w := w ++ [oC O y g]) (w1 := w1 ++ [oC O y g1]) (l2 := zw) (ws1 := ((w1 ++ [oC O y g1]) ++ zw)) hP hD rfl rfl had2 hP1 hfr
  refine lv_istore (lv' := [(5, .int k), (4, .int (nI i)), (3, .ref O), (2, .ref Y0), (1, .ref X0), (0, .ref b)]) hx hb dL_law_223 hl (by decide) rfl (fun ls hl => ?_)
  refine lv_aload_n hx hb dL_law_225 rfl (lv_at hl 3 rfl) ?_
  refine l_arg (j := 1) (J := 1) C e1 (by omega) (by decide) dL_law_226 dL_law_227 dL_law_229 dL_law_230 dL_law_231 hS (lv_at hl 5 rfl) (lv_at hl 1 rfl) ?_
  refine zcNMV (As := [.int a1]) (rest := []) (st1 := [.int v]) (cells1 := cells + 1 + mc) (slots1 := slots + 6 + ms) (w := zw) ⟨hx, hb, hml, hown, hts⟩ (hM _) (cwV 1 hts tX5_gate rfl hrc hrs (by decide +kernel) ⟨by show rm.frames + 1 ≤ 10; omega, by show 8 + (2 + 11) + rm.locals ≤ 372; omega⟩) C.hN hK (z_sub_P hP (fun z h => List.mem_append_right _ h)) (z_D_m (l1 := w1 ++ [oC O y g1]) (l2 := []) (by rw [List.append_nil]; exact hD)) (ci := 5) (q0 := 0) rfl rfl h0 rfl hl.1 rfl (lv_room (Nat.le_of_ble_eq_true rfl)) dL_law_232 hS (z_sub_F hD hS hA (fun z h => List.mem_append_right _ h)) ⟨by show cells + 1 + mc ≤ 601024; omega, by show slots + 6 + ms ≤ 7293034; omega⟩ rfl rfl rfl (fun H locs hP1 hz hfr hS => ?_)
  obtain ⟨hP, hD⟩ := z_seg (l1 := w1 ++ [oC O y g1]) (w := zw) (w1 := zw1) (l2 := []) (ws1 := ((w1 ++ [oC O y g1]) ++ zw1)) hP hD (by rw [List.append_nil]) (by rw [List.append_nil]) hadz hP1 hfr
  refine lv_istore (lv' := [(6, .int v), (5, .int k), (4, .int (nI i)), (3, .ref O), (2, .ref Y0), (1, .ref X0), (0, .ref b)]) hx hb dL_law_235 hl (by decide) rfl (fun ls hl => ?_)
  refine lv_aload_n hx hb dL_law_237 rfl (lv_at hl 4 rfl) ?_
  refine zcRV (As := []) (rest := []) (st1 := [.int k]) (w := zw1) ⟨hx, hb, hml, hown, hts⟩ hT (cwV 0 hts tX5_thrown rfl rfl rfl (by decide +kernel) ⟨(Nat.le_of_ble_eq_true rfl), (Nat.le_of_ble_eq_true rfl)⟩) hK (z_sub_P hP (fun z h => List.mem_append_right _ h)) (ci := 5) (q0 := 0) rfl rfl h01 rfl hl.1 rfl (lv_room (Nat.le_of_ble_eq_true rfl)) dL_law_238 ⟨by show cells + 1 + mc ≤ 601024; omega, by show slots + 6 + ms ≤ 7293034; omega⟩ rfl ?_
  refine lv_iload hx hb dL_law_241 (lv_at hl 1 rfl) ?_
  refine lv_icmp_eq (tgt := 248) hx hb dL_law_243 (by decide) (fun _ => ?_) (fun c9 => absurd rfl c9)
  refine lv_iload hx hb dL_law_248 (lv_at hl 1 rfl) ?_
  have last : ∀ ls : Array Slot, lv_has ls 9 [(6, .int v), (5, .int k), (4, .int (nI i)), (3, .ref O), (2, .ref Y0), (1, .ref X0), (0, .ref b)] → W p l e room_1 s m #[Value.ref b] below meth c H locs (cells + 1 + mc) (slots + 6 + ms) Q (F0 m 272 ls []) := by
    intro ls hl
    refine lv_goto (tgt := 1267) hx hb dL_law_272 (by decide) ?_
    refine W.widen (k := cells + 58) (n := slots + 484) (by omega) (by omega) ?_
    exact kk H locs ls hP hD hS (lv_sub hl [2, 3, 4, 5, 6] rfl)
  refine lv_if_ne (tgt := 272) hx hb dL_law_250 (by decide) (fun _ => last ls hl) (fun c9 => ?_)
  have k0 : k = 0 := c9
  refine lv_aload_n hx hb dL_law_253 rfl (lv_at hl 3 rfl) ?_
  refine lv_iconst (v := 0) hx hb dL_law_254 (by decide) ?_
  refine va_lald hx hb hK (ws := [oC O y g1]) (z_sub_P hP (fun z h => List.mem_append_left _ (List.mem_append_right _ h))) 0 3 rfl rfl (i := 0) (by unfold vp_in; decide) dL_law_255 ?_
  rw [hv k0]
  refine lv_iload hx hb dL_law_256 (lv_at hl 0 rfl) ?_
  refine lv_if_eq (tgt := 265) hx hb dL_law_258 (by decide) (fun c8 => ?_) (fun c8 => ?_)
  · rw [if_pos c8]
    refine lv_lconst (v := 0) hx hb dL_law_265 (by decide) ?_
    refine lv_lcmp0 hx hb dL_law_266 ?_
    exact lv_if_eq (tgt := 272) hx hb dL_law_267 (by decide) (fun _ => last ls hl) (fun c9 => absurd rfl c9)
  · rw [if_neg c8]
    refine lv_lconst (v := 1) hx hb dL_law_261 (by decide) ?_
    refine lv_goto (tgt := 266) hx hb dL_law_262 (by decide) ?_
    refine lv_lcmp0 hx hb dL_law_266 ?_
    exact lv_if_eq (tgt := 272) hx hb dL_law_267 (by decide) (fun _ => last ls hl) (fun c9 => absurd rfl c9)
set_option maxHeartbeats 1000000 in
set_option maxRecDepth 100000 in
theorem seg_mend {p : Program} {e : Env} {s : State} {m : MethodId} {below : List Frame} {meth : Method} {c : Code} {Q : State → Prop} (l : Launch) {b L : Nat} {xs : Nat → Int32} {D : va_G} {y : Nat → ClassId} (C : LCtx p s m c b L xs D y) {i : Nat} (hi : i + 4 ≤ L) {X0 Y0 O : Nat} {a1 a2 : Int32} (e1 : xs (i + 1) = a1) (e2 : xs (i + 2) = a2)
    {w w1 zw zw1 : va_W} {g g1 : Nat → Int64} {k v : Int32} {rm : Room} {mc ms : Nat}
    (hH : ∀ sz, zH l yL_mend wsL_mend D y [.ref X0, .int a1, .int a2, .ref O] (w ++ [oC O y g]) sz k (w1 ++ [oC O y g1]))
    (hM : ∀ sz, zMN l yX5_mend wsX5_mend rm D y [.ref Y0, .int a1, .int a2] zw sz (some (.int v)) zw1 mc ms) (hrc : rm.cells = mc) (hrs : rm.slots = ms) (hrm : rm.frames ≤ 8 ∧ rm.locals ≤ 200 ∧ mc ≤ 57 ∧ ms ≤ 400)
    (hT : zR l yX5_thrown wsX5_thrown { frames := 0, cells := 0, slots := 0, locals := 0 } D y [.ref Y0] zw1 (some (.int k))) (hv : k = 0 → g1 (0 : Int32).toNatClampNeg = v.toInt64)
    {fs fs1 : List Value} (h0 : zw[0]? = some (Y0, .inr (5, fs))) (h01 : zw1[0]? = some (Y0, .inr (5, fs1))) (had : w1.map Prod.fst = w.map Prod.fst) (hadz : zw1.map Prod.fst = zw.map Prod.fst)
    {H : Heap} {locs : List Loc} {ls : Array Slot} {cells slots : Nat} (hc : cells + 58 ≤ 601024 ∧ slots + 484 ≤ 7293034) (hP : va_P D vwCl ((w ++ [oC O y g]) ++ zw) H) (hD : va_D (lA s) ((w ++ [oC O y g]) ++ zw)) (hS : va_S (lA s) s.heap H locs) (hl : lv_has ls 9 [(4, .int (nI i)), (3, .ref O), (2, .ref Y0), (1, .ref X0), (0, .ref b)])
    (kk : ∀ (H1 : Heap) (locs1 : List Loc) (ls1 : Array Slot), va_P D vwCl ((w1 ++ [oC O y g1]) ++ zw1) H1 → va_D (lA s) ((w1 ++ [oC O y g1]) ++ zw1) → va_S (lA s) s.heap H1 locs1 → lv_has ls1 9 [(4, .int (nI i)), (3, .ref O), (2, .ref Y0), (1, .ref X0), (0, .ref b)] → W p l e room_1 s m #[Value.ref b] below meth c H1 locs1 (cells + 58) (slots + 484) Q (F0 m 1267 ls1 [])) : W p l e room_1 s m #[Value.ref b] below meth c H locs cells slots Q (F0 m 275 ls []) := by
  have hx := C.hx
  have hb := C.hb
  have hml := C.hml
  have hown := C.hown
  have hts := C.hts
  have hK := C.hK
  have hA : ∀ q : Nat, s.heap.size ≤ q → lA s q := fun q h => h
  have had2 : (w1 ++ [oC O y g1]).map Prod.fst = (w ++ [oC O y g]).map Prod.fst := by rw [List.map_append, List.map_append, had]; rfl
  refine lv_aload_n hx hb dL_law_275 rfl (lv_at hl 3 rfl) ?_
  refine l_arg (j := 1) (J := 1) C e1 (by omega) (by decide) dL_law_276 dL_law_277 dL_law_279 dL_law_280 dL_law_281 hS (lv_at hl 4 rfl) (lv_at hl 0 rfl) ?_
  refine l_arg (j := 2) (J := 2) C e2 (by omega) (by decide) dL_law_282 dL_law_283 dL_law_285 dL_law_286 dL_law_287 hS (lv_at hl 4 rfl) (lv_at hl 0 rfl) ?_
  refine lv_aload_n hx hb dL_law_288 rfl (lv_at hl 1 rfl) ?_
  refine zcHS (As := [.ref X0, .int a1, .int a2, .ref O]) (rest := []) (st1 := [.int k]) (cells1 := cells + 1) (slots1 := slots + 6) (w := w ++ [oC O y g]) ⟨hx, hb, hml, hown, hts⟩ (hH _) (vx_cwSW 4 hts tL_mend rfl rfl rfl (by decide +kernel) ⟨(Nat.le_of_ble_eq_true rfl), (Nat.le_of_ble_eq_true rfl)⟩) (C.hX9 hS) hK (z_sub_P hP (fun z h => List.mem_append_left _ h)) (z_D_m (l1 := []) (l2 := zw) hD) rfl hl.1 rfl (lv_room (Nat.le_of_ble_eq_true rfl)) dL_law_289 hS (z_sub_F hD hS hA (fun z h => List.mem_append_left _ h)) ⟨by show cells + 1 ≤ 601024; omega, by show slots + 6 ≤ 7293034; omega⟩ rfl rfl rfl (fun H locs hP1 hz hfr hS => ?_)
  obtain ⟨hP, hD⟩ := z_seg (l1 := []) (w := w ++ [oC O y g]) (w1 := w1 ++ [oC O y g1]) (l2 := zw) (ws1 := ((w1 ++ [oC O y g1]) ++ zw)) hP hD rfl rfl had2 hP1 hfr
  refine lv_istore (lv' := [(5, .int k), (4, .int (nI i)), (3, .ref O), (2, .ref Y0), (1, .ref X0), (0, .ref b)]) hx hb dL_law_292 hl (by decide) rfl (fun ls hl => ?_)
  refine lv_aload_n hx hb dL_law_294 rfl (lv_at hl 3 rfl) ?_
  refine l_arg (j := 1) (J := 1) C e1 (by omega) (by decide) dL_law_295 dL_law_296 dL_law_298 dL_law_299 dL_law_300 hS (lv_at hl 5 rfl) (lv_at hl 1 rfl) ?_
  refine l_arg (j := 2) (J := 2) C e2 (by omega) (by decide) dL_law_301 dL_law_302 dL_law_304 dL_law_305 dL_law_306 hS (lv_at hl 5 rfl) (lv_at hl 1 rfl) ?_
  refine zcNMV (As := [.int a1, .int a2]) (rest := []) (st1 := [.int v]) (cells1 := cells + 1 + mc) (slots1 := slots + 6 + ms) (w := zw) ⟨hx, hb, hml, hown, hts⟩ (hM _) (cwV 2 hts tX5_mend rfl hrc hrs (by decide +kernel) ⟨by show rm.frames + 1 ≤ 10; omega, by show 8 + (4 + 11) + rm.locals ≤ 372; omega⟩) C.hN hK (z_sub_P hP (fun z h => List.mem_append_right _ h)) (z_D_m (l1 := w1 ++ [oC O y g1]) (l2 := []) (by rw [List.append_nil]; exact hD)) (ci := 5) (q0 := 0) rfl rfl h0 rfl hl.1 rfl (lv_room (Nat.le_of_ble_eq_true rfl)) dL_law_307 hS (z_sub_F hD hS hA (fun z h => List.mem_append_right _ h)) ⟨by show cells + 1 + mc ≤ 601024; omega, by show slots + 6 + ms ≤ 7293034; omega⟩ rfl rfl rfl (fun H locs hP1 hz hfr hS => ?_)
  obtain ⟨hP, hD⟩ := z_seg (l1 := w1 ++ [oC O y g1]) (w := zw) (w1 := zw1) (l2 := []) (ws1 := ((w1 ++ [oC O y g1]) ++ zw1)) hP hD (by rw [List.append_nil]) (by rw [List.append_nil]) hadz hP1 hfr
  refine lv_istore (lv' := [(6, .int v), (5, .int k), (4, .int (nI i)), (3, .ref O), (2, .ref Y0), (1, .ref X0), (0, .ref b)]) hx hb dL_law_310 hl (by decide) rfl (fun ls hl => ?_)
  refine lv_aload_n hx hb dL_law_312 rfl (lv_at hl 4 rfl) ?_
  refine zcRV (As := []) (rest := []) (st1 := [.int k]) (w := zw1) ⟨hx, hb, hml, hown, hts⟩ hT (cwV 0 hts tX5_thrown rfl rfl rfl (by decide +kernel) ⟨(Nat.le_of_ble_eq_true rfl), (Nat.le_of_ble_eq_true rfl)⟩) hK (z_sub_P hP (fun z h => List.mem_append_right _ h)) (ci := 5) (q0 := 0) rfl rfl h01 rfl hl.1 rfl (lv_room (Nat.le_of_ble_eq_true rfl)) dL_law_313 ⟨by show cells + 1 + mc ≤ 601024; omega, by show slots + 6 + ms ≤ 7293034; omega⟩ rfl ?_
  refine lv_iload hx hb dL_law_316 (lv_at hl 1 rfl) ?_
  refine lv_icmp_eq (tgt := 323) hx hb dL_law_318 (by decide) (fun _ => ?_) (fun c9 => absurd rfl c9)
  refine lv_iload hx hb dL_law_323 (lv_at hl 1 rfl) ?_
  have last : ∀ ls : Array Slot, lv_has ls 9 [(6, .int v), (5, .int k), (4, .int (nI i)), (3, .ref O), (2, .ref Y0), (1, .ref X0), (0, .ref b)] → W p l e room_1 s m #[Value.ref b] below meth c H locs (cells + 1 + mc) (slots + 6 + ms) Q (F0 m 340 ls []) := by
    intro ls hl
    refine lv_goto (tgt := 1267) hx hb dL_law_340 (by decide) ?_
    refine W.widen (k := cells + 58) (n := slots + 484) (by omega) (by omega) ?_
    exact kk H locs ls hP hD hS (lv_sub hl [2, 3, 4, 5, 6] rfl)
  refine lv_if_ne (tgt := 340) hx hb dL_law_325 (by decide) (fun _ => last ls hl) (fun c9 => ?_)
  have k0 : k = 0 := c9
  refine lv_aload_n hx hb dL_law_328 rfl (lv_at hl 3 rfl) ?_
  refine lv_iconst (v := 0) hx hb dL_law_329 (by decide) ?_
  refine va_lald hx hb hK (ws := [oC O y g1]) (z_sub_P hP (fun z h => List.mem_append_left _ (List.mem_append_right _ h))) 0 3 rfl rfl (i := 0) (by unfold vp_in; decide) dL_law_330 ?_
  rw [hv k0]
  refine lv_iload hx hb dL_law_331 (lv_at hl 0 rfl) ?_
  refine lv_i2l (v := v.toInt64) hx hb dL_law_333 rfl ?_
  refine lv_lcmp0 hx hb dL_law_334 ?_
  exact lv_if_eq (tgt := 340) hx hb dL_law_335 (by decide) (fun _ => last ls hl) (fun c9 => absurd rfl c9)
set_option maxHeartbeats 1000000 in
set_option maxRecDepth 100000 in
theorem seg_drive {p : Program} {e : Env} {s : State} {m : MethodId} {below : List Frame} {meth : Method} {c : Code} {Q : State → Prop} (l : Launch) {b L : Nat} {xs : Nat → Int32} {D : va_G} {y : Nat → ClassId} (C : LCtx p s m c b L xs D y) {i : Nat} (hi : i + 4 ≤ L) {X0 Y0 O : Nat} {a1 a2 : Int32} (e1 : xs (i + 1) = a1) (e2 : xs (i + 2) = a2)
    {w w1 zw zw1 : va_W} {g g1 : Nat → Int64} {k v : Int32} {rm : Room} {mc ms : Nat}
    (hH : ∀ sz, zH l yL_drive wsL_drive D y [.ref X0, .int a1, .int a2, .ref O] (w ++ [oC O y g]) sz k (w1 ++ [oC O y g1]))
    (hM : ∀ sz, zMN l yX5_drive wsX5_drive rm D y [.ref Y0, .int a1, .int a2] zw sz (some (.int v)) zw1 mc ms) (hrc : rm.cells = mc) (hrs : rm.slots = ms) (hrm : rm.frames ≤ 8 ∧ rm.locals ≤ 200 ∧ mc ≤ 57 ∧ ms ≤ 400)
    (hT : zR l yX5_thrown wsX5_thrown { frames := 0, cells := 0, slots := 0, locals := 0 } D y [.ref Y0] zw1 (some (.int k))) (hv : k = 0 → g1 (0 : Int32).toNatClampNeg = v.toInt64)
    {fs fs1 : List Value} (h0 : zw[0]? = some (Y0, .inr (5, fs))) (h01 : zw1[0]? = some (Y0, .inr (5, fs1))) (had : w1.map Prod.fst = w.map Prod.fst) (hadz : zw1.map Prod.fst = zw.map Prod.fst)
    {H : Heap} {locs : List Loc} {ls : Array Slot} {cells slots : Nat} (hc : cells + 58 ≤ 601024 ∧ slots + 484 ≤ 7293034) (hP : va_P D vwCl ((w ++ [oC O y g]) ++ zw) H) (hD : va_D (lA s) ((w ++ [oC O y g]) ++ zw)) (hS : va_S (lA s) s.heap H locs) (hl : lv_has ls 9 [(4, .int (nI i)), (3, .ref O), (2, .ref Y0), (1, .ref X0), (0, .ref b)])
    (kk : ∀ (H1 : Heap) (locs1 : List Loc) (ls1 : Array Slot), va_P D vwCl ((w1 ++ [oC O y g1]) ++ zw1) H1 → va_D (lA s) ((w1 ++ [oC O y g1]) ++ zw1) → va_S (lA s) s.heap H1 locs1 → lv_has ls1 9 [(4, .int (nI i)), (3, .ref O), (2, .ref Y0), (1, .ref X0), (0, .ref b)] → W p l e room_1 s m #[Value.ref b] below meth c H1 locs1 (cells + 58) (slots + 484) Q (F0 m 1267 ls1 [])) : W p l e room_1 s m #[Value.ref b] below meth c H locs cells slots Q (F0 m 343 ls []) := by
  have hx := C.hx
  have hb := C.hb
  have hml := C.hml
  have hown := C.hown
  have hts := C.hts
  have hK := C.hK
  have hA : ∀ q : Nat, s.heap.size ≤ q → lA s q := fun q h => h
  have had2 : (w1 ++ [oC O y g1]).map Prod.fst = (w ++ [oC O y g]).map Prod.fst := by rw [List.map_append, List.map_append, had]; rfl
  refine lv_aload_n hx hb dL_law_343 rfl (lv_at hl 3 rfl) ?_
  refine l_arg (j := 1) (J := 1) C e1 (by omega) (by decide) dL_law_344 dL_law_345 dL_law_347 dL_law_348 dL_law_349 hS (lv_at hl 4 rfl) (lv_at hl 0 rfl) ?_
  refine l_arg (j := 2) (J := 2) C e2 (by omega) (by decide) dL_law_350 dL_law_351 dL_law_353 dL_law_354 dL_law_355 hS (lv_at hl 4 rfl) (lv_at hl 0 rfl) ?_
  refine lv_aload_n hx hb dL_law_356 rfl (lv_at hl 1 rfl) ?_
  refine zcHS (As := [.ref X0, .int a1, .int a2, .ref O]) (rest := []) (st1 := [.int k]) (cells1 := cells + 1) (slots1 := slots + 6) (w := w ++ [oC O y g]) ⟨hx, hb, hml, hown, hts⟩ (hH _) (vx_cwSW 4 hts tL_drive rfl rfl rfl (by decide +kernel) ⟨(Nat.le_of_ble_eq_true rfl), (Nat.le_of_ble_eq_true rfl)⟩) (C.hX9 hS) hK (z_sub_P hP (fun z h => List.mem_append_left _ h)) (z_D_m (l1 := []) (l2 := zw) hD) rfl hl.1 rfl (lv_room (Nat.le_of_ble_eq_true rfl)) dL_law_357 hS (z_sub_F hD hS hA (fun z h => List.mem_append_left _ h)) ⟨by show cells + 1 ≤ 601024; omega, by show slots + 6 ≤ 7293034; omega⟩ rfl rfl rfl (fun H locs hP1 hz hfr hS => ?_)
  obtain ⟨hP, hD⟩ := z_seg (l1 := []) (w := w ++ [oC O y g]) (w1 := w1 ++ [oC O y g1]) (l2 := zw) (ws1 := ((w1 ++ [oC O y g1]) ++ zw)) hP hD rfl rfl had2 hP1 hfr
  refine lv_istore (lv' := [(5, .int k), (4, .int (nI i)), (3, .ref O), (2, .ref Y0), (1, .ref X0), (0, .ref b)]) hx hb dL_law_360 hl (by decide) rfl (fun ls hl => ?_)
  refine lv_aload_n hx hb dL_law_362 rfl (lv_at hl 3 rfl) ?_
  refine l_arg (j := 1) (J := 1) C e1 (by omega) (by decide) dL_law_363 dL_law_364 dL_law_366 dL_law_367 dL_law_368 hS (lv_at hl 5 rfl) (lv_at hl 1 rfl) ?_
  refine l_arg (j := 2) (J := 2) C e2 (by omega) (by decide) dL_law_369 dL_law_370 dL_law_372 dL_law_373 dL_law_374 hS (lv_at hl 5 rfl) (lv_at hl 1 rfl) ?_
  refine zcNMV (As := [.int a1, .int a2]) (rest := []) (st1 := [.int v]) (cells1 := cells + 1 + mc) (slots1 := slots + 6 + ms) (w := zw) ⟨hx, hb, hml, hown, hts⟩ (hM _) (cwV 2 hts tX5_drive rfl hrc hrs (by decide +kernel) ⟨by show rm.frames + 1 ≤ 10; omega, by show 8 + (3 + 11) + rm.locals ≤ 372; omega⟩) C.hN hK (z_sub_P hP (fun z h => List.mem_append_right _ h)) (z_D_m (l1 := w1 ++ [oC O y g1]) (l2 := []) (by rw [List.append_nil]; exact hD)) (ci := 5) (q0 := 0) rfl rfl h0 rfl hl.1 rfl (lv_room (Nat.le_of_ble_eq_true rfl)) dL_law_375 hS (z_sub_F hD hS hA (fun z h => List.mem_append_right _ h)) ⟨by show cells + 1 + mc ≤ 601024; omega, by show slots + 6 + ms ≤ 7293034; omega⟩ rfl rfl rfl (fun H locs hP1 hz hfr hS => ?_)
  obtain ⟨hP, hD⟩ := z_seg (l1 := w1 ++ [oC O y g1]) (w := zw) (w1 := zw1) (l2 := []) (ws1 := ((w1 ++ [oC O y g1]) ++ zw1)) hP hD (by rw [List.append_nil]) (by rw [List.append_nil]) hadz hP1 hfr
  refine lv_istore (lv' := [(6, .int v), (5, .int k), (4, .int (nI i)), (3, .ref O), (2, .ref Y0), (1, .ref X0), (0, .ref b)]) hx hb dL_law_378 hl (by decide) rfl (fun ls hl => ?_)
  refine lv_aload_n hx hb dL_law_380 rfl (lv_at hl 4 rfl) ?_
  refine zcRV (As := []) (rest := []) (st1 := [.int k]) (w := zw1) ⟨hx, hb, hml, hown, hts⟩ hT (cwV 0 hts tX5_thrown rfl rfl rfl (by decide +kernel) ⟨(Nat.le_of_ble_eq_true rfl), (Nat.le_of_ble_eq_true rfl)⟩) hK (z_sub_P hP (fun z h => List.mem_append_right _ h)) (ci := 5) (q0 := 0) rfl rfl h01 rfl hl.1 rfl (lv_room (Nat.le_of_ble_eq_true rfl)) dL_law_381 ⟨by show cells + 1 + mc ≤ 601024; omega, by show slots + 6 + ms ≤ 7293034; omega⟩ rfl ?_
  refine lv_iload hx hb dL_law_384 (lv_at hl 1 rfl) ?_
  refine lv_icmp_eq (tgt := 391) hx hb dL_law_386 (by decide) (fun _ => ?_) (fun c9 => absurd rfl c9)
  refine lv_iload hx hb dL_law_391 (lv_at hl 1 rfl) ?_
  have last : ∀ ls : Array Slot, lv_has ls 9 [(6, .int v), (5, .int k), (4, .int (nI i)), (3, .ref O), (2, .ref Y0), (1, .ref X0), (0, .ref b)] → W p l e room_1 s m #[Value.ref b] below meth c H locs (cells + 1 + mc) (slots + 6 + ms) Q (F0 m 408 ls []) := by
    intro ls hl
    refine lv_goto (tgt := 1267) hx hb dL_law_408 (by decide) ?_
    refine W.widen (k := cells + 58) (n := slots + 484) (by omega) (by omega) ?_
    exact kk H locs ls hP hD hS (lv_sub hl [2, 3, 4, 5, 6] rfl)
  refine lv_if_ne (tgt := 408) hx hb dL_law_393 (by decide) (fun _ => last ls hl) (fun c9 => ?_)
  have k0 : k = 0 := c9
  refine lv_aload_n hx hb dL_law_396 rfl (lv_at hl 3 rfl) ?_
  refine lv_iconst (v := 0) hx hb dL_law_397 (by decide) ?_
  refine va_lald hx hb hK (ws := [oC O y g1]) (z_sub_P hP (fun z h => List.mem_append_left _ (List.mem_append_right _ h))) 0 3 rfl rfl (i := 0) (by unfold vp_in; decide) dL_law_398 ?_
  rw [hv k0]
  refine lv_iload hx hb dL_law_399 (lv_at hl 0 rfl) ?_
  refine lv_i2l (v := v.toInt64) hx hb dL_law_401 rfl ?_
  refine lv_lcmp0 hx hb dL_law_402 ?_
  exact lv_if_eq (tgt := 408) hx hb dL_law_403 (by decide) (fun _ => last ls hl) (fun c9 => absurd rfl c9)
set_option maxHeartbeats 1000000 in
set_option maxRecDepth 100000 in
theorem seg_sell {p : Program} {e : Env} {s : State} {m : MethodId} {below : List Frame} {meth : Method} {c : Code} {Q : State → Prop} (l : Launch) {b L : Nat} {xs : Nat → Int32} {D : va_G} {y : Nat → ClassId} (C : LCtx p s m c b L xs D y) {i : Nat} (hi : i + 4 ≤ L) {X0 Y0 O : Nat} {a1 : Int32} (e1 : xs (i + 1) = a1)
    {w w1 zw zw1 : va_W} {g g1 : Nat → Int64} {k v : Int32} {rm : Room} {mc ms : Nat}
    (hH : ∀ sz, zH l yL_sell wsL_sell D y [.ref X0, .int a1, .ref O] (w ++ [oC O y g]) sz k (w1 ++ [oC O y g1]))
    (hM : ∀ sz, zMN l yX5_sell wsX5_sell rm D y [.ref Y0, .int a1] zw sz (some (.int v)) zw1 mc ms) (hrc : rm.cells = mc) (hrs : rm.slots = ms) (hrm : rm.frames ≤ 8 ∧ rm.locals ≤ 200 ∧ mc ≤ 57 ∧ ms ≤ 400)
    (hT : zR l yX5_thrown wsX5_thrown { frames := 0, cells := 0, slots := 0, locals := 0 } D y [.ref Y0] zw1 (some (.int k))) (hv : k = 0 → g1 (0 : Int32).toNatClampNeg = v.toInt64)
    {fs fs1 : List Value} (h0 : zw[0]? = some (Y0, .inr (5, fs))) (h01 : zw1[0]? = some (Y0, .inr (5, fs1))) (had : w1.map Prod.fst = w.map Prod.fst) (hadz : zw1.map Prod.fst = zw.map Prod.fst)
    {H : Heap} {locs : List Loc} {ls : Array Slot} {cells slots : Nat} (hc : cells + 58 ≤ 601024 ∧ slots + 484 ≤ 7293034) (hP : va_P D vwCl ((w ++ [oC O y g]) ++ zw) H) (hD : va_D (lA s) ((w ++ [oC O y g]) ++ zw)) (hS : va_S (lA s) s.heap H locs) (hl : lv_has ls 9 [(4, .int (nI i)), (3, .ref O), (2, .ref Y0), (1, .ref X0), (0, .ref b)])
    (kk : ∀ (H1 : Heap) (locs1 : List Loc) (ls1 : Array Slot), va_P D vwCl ((w1 ++ [oC O y g1]) ++ zw1) H1 → va_D (lA s) ((w1 ++ [oC O y g1]) ++ zw1) → va_S (lA s) s.heap H1 locs1 → lv_has ls1 9 [(4, .int (nI i)), (3, .ref O), (2, .ref Y0), (1, .ref X0), (0, .ref b)] → W p l e room_1 s m #[Value.ref b] below meth c H1 locs1 (cells + 58) (slots + 484) Q (F0 m 1267 ls1 [])) : W p l e room_1 s m #[Value.ref b] below meth c H locs cells slots Q (F0 m 411 ls []) := by
  have hx := C.hx
  have hb := C.hb
  have hml := C.hml
  have hown := C.hown
  have hts := C.hts
  have hK := C.hK
  have hA : ∀ q : Nat, s.heap.size ≤ q → lA s q := fun q h => h
  have had2 : (w1 ++ [oC O y g1]).map Prod.fst = (w ++ [oC O y g]).map Prod.fst := by rw [List.map_append, List.map_append, had]; rfl
  refine lv_aload_n hx hb dL_law_411 rfl (lv_at hl 3 rfl) ?_
  refine l_arg (j := 1) (J := 1) C e1 (by omega) (by decide) dL_law_412 dL_law_413 dL_law_415 dL_law_416 dL_law_417 hS (lv_at hl 4 rfl) (lv_at hl 0 rfl) ?_
  refine lv_aload_n hx hb dL_law_418 rfl (lv_at hl 1 rfl) ?_
  refine zcHS (As := [.ref X0, .int a1, .ref O]) (rest := []) (st1 := [.int k]) (cells1 := cells + 1) (slots1 := slots + 6) (w := w ++ [oC O y g]) ⟨hx, hb, hml, hown, hts⟩ (hH _) (vx_cwSW 3 hts tL_sell rfl rfl rfl (by decide +kernel) ⟨(Nat.le_of_ble_eq_true rfl), (Nat.le_of_ble_eq_true rfl)⟩) (C.hX9 hS) hK (z_sub_P hP (fun z h => List.mem_append_left _ h)) (z_D_m (l1 := []) (l2 := zw) hD) rfl hl.1 rfl (lv_room (Nat.le_of_ble_eq_true rfl)) dL_law_419 hS (z_sub_F hD hS hA (fun z h => List.mem_append_left _ h)) ⟨by show cells + 1 ≤ 601024; omega, by show slots + 6 ≤ 7293034; omega⟩ rfl rfl rfl (fun H locs hP1 hz hfr hS => ?_)
  obtain ⟨hP, hD⟩ := z_seg (l1 := []) (w := w ++ [oC O y g]) (w1 := w1 ++ [oC O y g1]) (l2 := zw) (ws1 := ((w1 ++ [oC O y g1]) ++ zw)) hP hD rfl rfl had2 hP1 hfr
  refine lv_istore (lv' := [(5, .int k), (4, .int (nI i)), (3, .ref O), (2, .ref Y0), (1, .ref X0), (0, .ref b)]) hx hb dL_law_422 hl (by decide) rfl (fun ls hl => ?_)
  refine lv_aload_n hx hb dL_law_424 rfl (lv_at hl 3 rfl) ?_
  refine l_arg (j := 1) (J := 1) C e1 (by omega) (by decide) dL_law_425 dL_law_426 dL_law_428 dL_law_429 dL_law_430 hS (lv_at hl 5 rfl) (lv_at hl 1 rfl) ?_
  refine zcNMV (As := [.int a1]) (rest := []) (st1 := [.int v]) (cells1 := cells + 1 + mc) (slots1 := slots + 6 + ms) (w := zw) ⟨hx, hb, hml, hown, hts⟩ (hM _) (cwV 1 hts tX5_sell rfl hrc hrs (by decide +kernel) ⟨by show rm.frames + 1 ≤ 10; omega, by show 8 + (4 + 11) + rm.locals ≤ 372; omega⟩) C.hN hK (z_sub_P hP (fun z h => List.mem_append_right _ h)) (z_D_m (l1 := w1 ++ [oC O y g1]) (l2 := []) (by rw [List.append_nil]; exact hD)) (ci := 5) (q0 := 0) rfl rfl h0 rfl hl.1 rfl (lv_room (Nat.le_of_ble_eq_true rfl)) dL_law_431 hS (z_sub_F hD hS hA (fun z h => List.mem_append_right _ h)) ⟨by show cells + 1 + mc ≤ 601024; omega, by show slots + 6 + ms ≤ 7293034; omega⟩ rfl rfl rfl (fun H locs hP1 hz hfr hS => ?_)
  obtain ⟨hP, hD⟩ := z_seg (l1 := w1 ++ [oC O y g1]) (w := zw) (w1 := zw1) (l2 := []) (ws1 := ((w1 ++ [oC O y g1]) ++ zw1)) hP hD (by rw [List.append_nil]) (by rw [List.append_nil]) hadz hP1 hfr
  refine lv_istore (lv' := [(6, .int v), (5, .int k), (4, .int (nI i)), (3, .ref O), (2, .ref Y0), (1, .ref X0), (0, .ref b)]) hx hb dL_law_434 hl (by decide) rfl (fun ls hl => ?_)
  refine lv_aload_n hx hb dL_law_436 rfl (lv_at hl 4 rfl) ?_
  refine zcRV (As := []) (rest := []) (st1 := [.int k]) (w := zw1) ⟨hx, hb, hml, hown, hts⟩ hT (cwV 0 hts tX5_thrown rfl rfl rfl (by decide +kernel) ⟨(Nat.le_of_ble_eq_true rfl), (Nat.le_of_ble_eq_true rfl)⟩) hK (z_sub_P hP (fun z h => List.mem_append_right _ h)) (ci := 5) (q0 := 0) rfl rfl h01 rfl hl.1 rfl (lv_room (Nat.le_of_ble_eq_true rfl)) dL_law_437 ⟨by show cells + 1 + mc ≤ 601024; omega, by show slots + 6 + ms ≤ 7293034; omega⟩ rfl ?_
  refine lv_iload hx hb dL_law_440 (lv_at hl 1 rfl) ?_
  refine lv_icmp_eq (tgt := 447) hx hb dL_law_442 (by decide) (fun _ => ?_) (fun c9 => absurd rfl c9)
  refine lv_iload hx hb dL_law_447 (lv_at hl 1 rfl) ?_
  have last : ∀ ls : Array Slot, lv_has ls 9 [(6, .int v), (5, .int k), (4, .int (nI i)), (3, .ref O), (2, .ref Y0), (1, .ref X0), (0, .ref b)] → W p l e room_1 s m #[Value.ref b] below meth c H locs (cells + 1 + mc) (slots + 6 + ms) Q (F0 m 464 ls []) := by
    intro ls hl
    refine lv_goto (tgt := 1267) hx hb dL_law_464 (by decide) ?_
    refine W.widen (k := cells + 58) (n := slots + 484) (by omega) (by omega) ?_
    exact kk H locs ls hP hD hS (lv_sub hl [2, 3, 4, 5, 6] rfl)
  refine lv_if_ne (tgt := 464) hx hb dL_law_449 (by decide) (fun _ => last ls hl) (fun c9 => ?_)
  have k0 : k = 0 := c9
  refine lv_aload_n hx hb dL_law_452 rfl (lv_at hl 3 rfl) ?_
  refine lv_iconst (v := 0) hx hb dL_law_453 (by decide) ?_
  refine va_lald hx hb hK (ws := [oC O y g1]) (z_sub_P hP (fun z h => List.mem_append_left _ (List.mem_append_right _ h))) 0 3 rfl rfl (i := 0) (by unfold vp_in; decide) dL_law_454 ?_
  rw [hv k0]
  refine lv_iload hx hb dL_law_455 (lv_at hl 0 rfl) ?_
  refine lv_i2l (v := v.toInt64) hx hb dL_law_457 rfl ?_
  refine lv_lcmp0 hx hb dL_law_458 ?_
  exact lv_if_eq (tgt := 464) hx hb dL_law_459 (by decide) (fun _ => last ls hl) (fun c9 => absurd rfl c9)
set_option maxHeartbeats 1000000 in
set_option maxRecDepth 100000 in
theorem seg_setRun {p : Program} {e : Env} {s : State} {m : MethodId} {below : List Frame} {meth : Method} {c : Code} {Q : State → Prop} (l : Launch) {b L : Nat} {xs : Nat → Int32} {D : va_G} {y : Nat → ClassId} (C : LCtx p s m c b L xs D y) {i : Nat} (hi : i + 4 ≤ L) {X0 Y0 O : Nat} {a1 a2 : Int32} (e1 : xs (i + 1) = a1) (e2 : xs (i + 2) = a2)
    {w w1 zw zw1 : va_W} {g g1 : Nat → Int64} {k v : Int32} {rm : Room} {mc ms : Nat}
    (hH : ∀ sz, zH l yL_setRun wsL_setRun D y [.ref X0, .int a1, .int a2, .ref O] (w ++ [oC O y g]) sz k (w1 ++ [oC O y g1]))
    (hM : ∀ sz, zMN l yX5_setRun wsX5_setRun rm D y [.ref Y0, .int a1, .int a2] zw sz (some (.int v)) zw1 mc ms) (hrc : rm.cells = mc) (hrs : rm.slots = ms) (hrm : rm.frames ≤ 8 ∧ rm.locals ≤ 200 ∧ mc ≤ 57 ∧ ms ≤ 400)
    (hT : zR l yX5_thrown wsX5_thrown { frames := 0, cells := 0, slots := 0, locals := 0 } D y [.ref Y0] zw1 (some (.int k))) (hv : k = 0 → g1 (0 : Int32).toNatClampNeg = v.toInt64)
    {fs fs1 : List Value} (h0 : zw[0]? = some (Y0, .inr (5, fs))) (h01 : zw1[0]? = some (Y0, .inr (5, fs1))) (had : w1.map Prod.fst = w.map Prod.fst) (hadz : zw1.map Prod.fst = zw.map Prod.fst)
    {H : Heap} {locs : List Loc} {ls : Array Slot} {cells slots : Nat} (hc : cells + 58 ≤ 601024 ∧ slots + 484 ≤ 7293034) (hP : va_P D vwCl ((w ++ [oC O y g]) ++ zw) H) (hD : va_D (lA s) ((w ++ [oC O y g]) ++ zw)) (hS : va_S (lA s) s.heap H locs) (hl : lv_has ls 9 [(4, .int (nI i)), (3, .ref O), (2, .ref Y0), (1, .ref X0), (0, .ref b)])
    (kk : ∀ (H1 : Heap) (locs1 : List Loc) (ls1 : Array Slot), va_P D vwCl ((w1 ++ [oC O y g1]) ++ zw1) H1 → va_D (lA s) ((w1 ++ [oC O y g1]) ++ zw1) → va_S (lA s) s.heap H1 locs1 → lv_has ls1 9 [(4, .int (nI i)), (3, .ref O), (2, .ref Y0), (1, .ref X0), (0, .ref b)] → W p l e room_1 s m #[Value.ref b] below meth c H1 locs1 (cells + 58) (slots + 484) Q (F0 m 1267 ls1 [])) : W p l e room_1 s m #[Value.ref b] below meth c H locs cells slots Q (F0 m 467 ls []) := by
  have hx := C.hx
  have hb := C.hb
  have hml := C.hml
  have hown := C.hown
  have hts := C.hts
  have hK := C.hK
  have hA : ∀ q : Nat, s.heap.size ≤ q → lA s q := fun q h => h
  have had2 : (w1 ++ [oC O y g1]).map Prod.fst = (w ++ [oC O y g]).map Prod.fst := by rw [List.map_append, List.map_append, had]; rfl
  refine lv_aload_n hx hb dL_law_467 rfl (lv_at hl 3 rfl) ?_
  refine l_arg (j := 1) (J := 1) C e1 (by omega) (by decide) dL_law_468 dL_law_469 dL_law_471 dL_law_472 dL_law_473 hS (lv_at hl 4 rfl) (lv_at hl 0 rfl) ?_
  refine l_arg (j := 2) (J := 2) C e2 (by omega) (by decide) dL_law_474 dL_law_475 dL_law_477 dL_law_478 dL_law_479 hS (lv_at hl 4 rfl) (lv_at hl 0 rfl) ?_
  refine lv_aload_n hx hb dL_law_480 rfl (lv_at hl 1 rfl) ?_
  refine zcHS (As := [.ref X0, .int a1, .int a2, .ref O]) (rest := []) (st1 := [.int k]) (cells1 := cells + 1) (slots1 := slots + 6) (w := w ++ [oC O y g]) ⟨hx, hb, hml, hown, hts⟩ (hH _) (vx_cwSW 4 hts tL_setRun rfl rfl rfl (by decide +kernel) ⟨(Nat.le_of_ble_eq_true rfl), (Nat.le_of_ble_eq_true rfl)⟩) (C.hX9 hS) hK (z_sub_P hP (fun z h => List.mem_append_left _ h)) (z_D_m (l1 := []) (l2 := zw) hD) rfl hl.1 rfl (lv_room (Nat.le_of_ble_eq_true rfl)) dL_law_481 hS (z_sub_F hD hS hA (fun z h => List.mem_append_left _ h)) ⟨by show cells + 1 ≤ 601024; omega, by show slots + 6 ≤ 7293034; omega⟩ rfl rfl rfl (fun H locs hP1 hz hfr hS => ?_)
  obtain ⟨hP, hD⟩ := z_seg (l1 := []) (w := w ++ [oC O y g]) (w1 := w1 ++ [oC O y g1]) (l2 := zw) (ws1 := ((w1 ++ [oC O y g1]) ++ zw)) hP hD rfl rfl had2 hP1 hfr
  refine lv_istore (lv' := [(5, .int k), (4, .int (nI i)), (3, .ref O), (2, .ref Y0), (1, .ref X0), (0, .ref b)]) hx hb dL_law_484 hl (by decide) rfl (fun ls hl => ?_)
  refine lv_aload_n hx hb dL_law_486 rfl (lv_at hl 3 rfl) ?_
  refine l_arg (j := 1) (J := 1) C e1 (by omega) (by decide) dL_law_487 dL_law_488 dL_law_490 dL_law_491 dL_law_492 hS (lv_at hl 5 rfl) (lv_at hl 1 rfl) ?_
  refine l_arg (j := 2) (J := 2) C e2 (by omega) (by decide) dL_law_493 dL_law_494 dL_law_496 dL_law_497 dL_law_498 hS (lv_at hl 5 rfl) (lv_at hl 1 rfl) ?_
  refine zcNMV (As := [.int a1, .int a2]) (rest := []) (st1 := [.int v]) (cells1 := cells + 1 + mc) (slots1 := slots + 6 + ms) (w := zw) ⟨hx, hb, hml, hown, hts⟩ (hM _) (cwV 2 hts tX5_setRun rfl hrc hrs (by decide +kernel) ⟨by show rm.frames + 1 ≤ 10; omega, by show 8 + (4 + 11) + rm.locals ≤ 372; omega⟩) C.hN hK (z_sub_P hP (fun z h => List.mem_append_right _ h)) (z_D_m (l1 := w1 ++ [oC O y g1]) (l2 := []) (by rw [List.append_nil]; exact hD)) (ci := 5) (q0 := 0) rfl rfl h0 rfl hl.1 rfl (lv_room (Nat.le_of_ble_eq_true rfl)) dL_law_499 hS (z_sub_F hD hS hA (fun z h => List.mem_append_right _ h)) ⟨by show cells + 1 + mc ≤ 601024; omega, by show slots + 6 + ms ≤ 7293034; omega⟩ rfl rfl rfl (fun H locs hP1 hz hfr hS => ?_)
  obtain ⟨hP, hD⟩ := z_seg (l1 := w1 ++ [oC O y g1]) (w := zw) (w1 := zw1) (l2 := []) (ws1 := ((w1 ++ [oC O y g1]) ++ zw1)) hP hD (by rw [List.append_nil]) (by rw [List.append_nil]) hadz hP1 hfr
  refine lv_istore (lv' := [(6, .int v), (5, .int k), (4, .int (nI i)), (3, .ref O), (2, .ref Y0), (1, .ref X0), (0, .ref b)]) hx hb dL_law_502 hl (by decide) rfl (fun ls hl => ?_)
  refine lv_aload_n hx hb dL_law_504 rfl (lv_at hl 4 rfl) ?_
  refine zcRV (As := []) (rest := []) (st1 := [.int k]) (w := zw1) ⟨hx, hb, hml, hown, hts⟩ hT (cwV 0 hts tX5_thrown rfl rfl rfl (by decide +kernel) ⟨(Nat.le_of_ble_eq_true rfl), (Nat.le_of_ble_eq_true rfl)⟩) hK (z_sub_P hP (fun z h => List.mem_append_right _ h)) (ci := 5) (q0 := 0) rfl rfl h01 rfl hl.1 rfl (lv_room (Nat.le_of_ble_eq_true rfl)) dL_law_505 ⟨by show cells + 1 + mc ≤ 601024; omega, by show slots + 6 + ms ≤ 7293034; omega⟩ rfl ?_
  refine lv_iload hx hb dL_law_508 (lv_at hl 1 rfl) ?_
  refine lv_icmp_eq (tgt := 515) hx hb dL_law_510 (by decide) (fun _ => ?_) (fun c9 => absurd rfl c9)
  refine lv_iload hx hb dL_law_515 (lv_at hl 1 rfl) ?_
  have last : ∀ ls : Array Slot, lv_has ls 9 [(6, .int v), (5, .int k), (4, .int (nI i)), (3, .ref O), (2, .ref Y0), (1, .ref X0), (0, .ref b)] → W p l e room_1 s m #[Value.ref b] below meth c H locs (cells + 1 + mc) (slots + 6 + ms) Q (F0 m 532 ls []) := by
    intro ls hl
    refine lv_goto (tgt := 1267) hx hb dL_law_532 (by decide) ?_
    refine W.widen (k := cells + 58) (n := slots + 484) (by omega) (by omega) ?_
    exact kk H locs ls hP hD hS (lv_sub hl [2, 3, 4, 5, 6] rfl)
  refine lv_if_ne (tgt := 532) hx hb dL_law_517 (by decide) (fun _ => last ls hl) (fun c9 => ?_)
  have k0 : k = 0 := c9
  refine lv_aload_n hx hb dL_law_520 rfl (lv_at hl 3 rfl) ?_
  refine lv_iconst (v := 0) hx hb dL_law_521 (by decide) ?_
  refine va_lald hx hb hK (ws := [oC O y g1]) (z_sub_P hP (fun z h => List.mem_append_left _ (List.mem_append_right _ h))) 0 3 rfl rfl (i := 0) (by unfold vp_in; decide) dL_law_522 ?_
  rw [hv k0]
  refine lv_iload hx hb dL_law_523 (lv_at hl 0 rfl) ?_
  refine lv_i2l (v := v.toInt64) hx hb dL_law_525 rfl ?_
  refine lv_lcmp0 hx hb dL_law_526 ?_
  exact lv_if_eq (tgt := 532) hx hb dL_law_527 (by decide) (fun _ => last ls hl) (fun c9 => absurd rfl c9)
set_option maxHeartbeats 1000000 in
set_option maxRecDepth 100000 in
theorem seg_barge {p : Program} {e : Env} {s : State} {m : MethodId} {below : List Frame} {meth : Method} {c : Code} {Q : State → Prop} (l : Launch) {b L : Nat} {xs : Nat → Int32} {D : va_G} {y : Nat → ClassId} (C : LCtx p s m c b L xs D y) {i : Nat} (hi : i + 4 ≤ L) {X0 Y0 O : Nat} {a1 : Int32} (e1 : xs (i + 1) = a1)
    {w w1 zw zw1 : va_W} {g g1 : Nat → Int64} {k v : Int32} {rm : Room} {mc ms : Nat}
    (hH : ∀ sz, zH l yL_barge wsL_barge D y [.ref X0, .int a1, .ref O] (w ++ [oC O y g]) sz k (w1 ++ [oC O y g1]))
    (hM : ∀ sz, zMN l yX5_barge wsX5_barge rm D y [.ref Y0, .int a1] zw sz (some (.int v)) zw1 mc ms) (hrc : rm.cells = mc) (hrs : rm.slots = ms) (hrm : rm.frames ≤ 8 ∧ rm.locals ≤ 200 ∧ mc ≤ 57 ∧ ms ≤ 400)
    (hT : zR l yX5_thrown wsX5_thrown { frames := 0, cells := 0, slots := 0, locals := 0 } D y [.ref Y0] zw1 (some (.int k))) (hv : k = 0 → g1 (0 : Int32).toNatClampNeg = v.toInt64)
    {fs fs1 : List Value} (h0 : zw[0]? = some (Y0, .inr (5, fs))) (h01 : zw1[0]? = some (Y0, .inr (5, fs1))) (had : w1.map Prod.fst = w.map Prod.fst) (hadz : zw1.map Prod.fst = zw.map Prod.fst)
    {H : Heap} {locs : List Loc} {ls : Array Slot} {cells slots : Nat} (hc : cells + 58 ≤ 601024 ∧ slots + 484 ≤ 7293034) (hP : va_P D vwCl ((w ++ [oC O y g]) ++ zw) H) (hD : va_D (lA s) ((w ++ [oC O y g]) ++ zw)) (hS : va_S (lA s) s.heap H locs) (hl : lv_has ls 9 [(4, .int (nI i)), (3, .ref O), (2, .ref Y0), (1, .ref X0), (0, .ref b)])
    (kk : ∀ (H1 : Heap) (locs1 : List Loc) (ls1 : Array Slot), va_P D vwCl ((w1 ++ [oC O y g1]) ++ zw1) H1 → va_D (lA s) ((w1 ++ [oC O y g1]) ++ zw1) → va_S (lA s) s.heap H1 locs1 → lv_has ls1 9 [(4, .int (nI i)), (3, .ref O), (2, .ref Y0), (1, .ref X0), (0, .ref b)] → W p l e room_1 s m #[Value.ref b] below meth c H1 locs1 (cells + 58) (slots + 484) Q (F0 m 1267 ls1 [])) : W p l e room_1 s m #[Value.ref b] below meth c H locs cells slots Q (F0 m 535 ls []) := by
  have hx := C.hx
  have hb := C.hb
  have hml := C.hml
  have hown := C.hown
  have hts := C.hts
  have hK := C.hK
  have hA : ∀ q : Nat, s.heap.size ≤ q → lA s q := fun q h => h
  have had2 : (w1 ++ [oC O y g1]).map Prod.fst = (w ++ [oC O y g]).map Prod.fst := by rw [List.map_append, List.map_append, had]; rfl
  refine lv_aload_n hx hb dL_law_535 rfl (lv_at hl 3 rfl) ?_
  refine l_arg (j := 1) (J := 1) C e1 (by omega) (by decide) dL_law_536 dL_law_537 dL_law_539 dL_law_540 dL_law_541 hS (lv_at hl 4 rfl) (lv_at hl 0 rfl) ?_
  refine lv_aload_n hx hb dL_law_542 rfl (lv_at hl 1 rfl) ?_
  refine zcHS (As := [.ref X0, .int a1, .ref O]) (rest := []) (st1 := [.int k]) (cells1 := cells + 1) (slots1 := slots + 6) (w := w ++ [oC O y g]) ⟨hx, hb, hml, hown, hts⟩ (hH _) (vx_cwSW 3 hts tL_barge rfl rfl rfl (by decide +kernel) ⟨(Nat.le_of_ble_eq_true rfl), (Nat.le_of_ble_eq_true rfl)⟩) (C.hX9 hS) hK (z_sub_P hP (fun z h => List.mem_append_left _ h)) (z_D_m (l1 := []) (l2 := zw) hD) rfl hl.1 rfl (lv_room (Nat.le_of_ble_eq_true rfl)) dL_law_543 hS (z_sub_F hD hS hA (fun z h => List.mem_append_left _ h)) ⟨by show cells + 1 ≤ 601024; omega, by show slots + 6 ≤ 7293034; omega⟩ rfl rfl rfl (fun H locs hP1 hz hfr hS => ?_)
  obtain ⟨hP, hD⟩ := z_seg (l1 := []) (w := w ++ [oC O y g]) (w1 := w1 ++ [oC O y g1]) (l2 := zw) (ws1 := ((w1 ++ [oC O y g1]) ++ zw)) hP hD rfl rfl had2 hP1 hfr
  refine lv_istore (lv' := [(5, .int k), (4, .int (nI i)), (3, .ref O), (2, .ref Y0), (1, .ref X0), (0, .ref b)]) hx hb dL_law_546 hl (by decide) rfl (fun ls hl => ?_)
  refine lv_aload_n hx hb dL_law_548 rfl (lv_at hl 3 rfl) ?_
  refine l_arg (j := 1) (J := 1) C e1 (by omega) (by decide) dL_law_549 dL_law_550 dL_law_552 dL_law_553 dL_law_554 hS (lv_at hl 5 rfl) (lv_at hl 1 rfl) ?_
  refine zcNMV (As := [.int a1]) (rest := []) (st1 := [.int v]) (cells1 := cells + 1 + mc) (slots1 := slots + 6 + ms) (w := zw) ⟨hx, hb, hml, hown, hts⟩ (hM _) (cwV 1 hts tX5_barge rfl hrc hrs (by decide +kernel) ⟨by show rm.frames + 1 ≤ 10; omega, by show 8 + (2 + 11) + rm.locals ≤ 372; omega⟩) C.hN hK (z_sub_P hP (fun z h => List.mem_append_right _ h)) (z_D_m (l1 := w1 ++ [oC O y g1]) (l2 := []) (by rw [List.append_nil]; exact hD)) (ci := 5) (q0 := 0) rfl rfl h0 rfl hl.1 rfl (lv_room (Nat.le_of_ble_eq_true rfl)) dL_law_555 hS (z_sub_F hD hS hA (fun z h => List.mem_append_right _ h)) ⟨by show cells + 1 + mc ≤ 601024; omega, by show slots + 6 + ms ≤ 7293034; omega⟩ rfl rfl rfl (fun H locs hP1 hz hfr hS => ?_)
  obtain ⟨hP, hD⟩ := z_seg (l1 := w1 ++ [oC O y g1]) (w := zw) (w1 := zw1) (l2 := []) (ws1 := ((w1 ++ [oC O y g1]) ++ zw1)) hP hD (by rw [List.append_nil]) (by rw [List.append_nil]) hadz hP1 hfr
  refine lv_istore (lv' := [(6, .int v), (5, .int k), (4, .int (nI i)), (3, .ref O), (2, .ref Y0), (1, .ref X0), (0, .ref b)]) hx hb dL_law_558 hl (by decide) rfl (fun ls hl => ?_)
  refine lv_aload_n hx hb dL_law_560 rfl (lv_at hl 4 rfl) ?_
  refine zcRV (As := []) (rest := []) (st1 := [.int k]) (w := zw1) ⟨hx, hb, hml, hown, hts⟩ hT (cwV 0 hts tX5_thrown rfl rfl rfl (by decide +kernel) ⟨(Nat.le_of_ble_eq_true rfl), (Nat.le_of_ble_eq_true rfl)⟩) hK (z_sub_P hP (fun z h => List.mem_append_right _ h)) (ci := 5) (q0 := 0) rfl rfl h01 rfl hl.1 rfl (lv_room (Nat.le_of_ble_eq_true rfl)) dL_law_561 ⟨by show cells + 1 + mc ≤ 601024; omega, by show slots + 6 + ms ≤ 7293034; omega⟩ rfl ?_
  refine lv_iload hx hb dL_law_564 (lv_at hl 1 rfl) ?_
  refine lv_icmp_eq (tgt := 571) hx hb dL_law_566 (by decide) (fun _ => ?_) (fun c9 => absurd rfl c9)
  refine lv_iload hx hb dL_law_571 (lv_at hl 1 rfl) ?_
  have last : ∀ ls : Array Slot, lv_has ls 9 [(6, .int v), (5, .int k), (4, .int (nI i)), (3, .ref O), (2, .ref Y0), (1, .ref X0), (0, .ref b)] → W p l e room_1 s m #[Value.ref b] below meth c H locs (cells + 1 + mc) (slots + 6 + ms) Q (F0 m 588 ls []) := by
    intro ls hl
    refine lv_goto (tgt := 1267) hx hb dL_law_588 (by decide) ?_
    refine W.widen (k := cells + 58) (n := slots + 484) (by omega) (by omega) ?_
    exact kk H locs ls hP hD hS (lv_sub hl [2, 3, 4, 5, 6] rfl)
  refine lv_if_ne (tgt := 588) hx hb dL_law_573 (by decide) (fun _ => last ls hl) (fun c9 => ?_)
  have k0 : k = 0 := c9
  refine lv_aload_n hx hb dL_law_576 rfl (lv_at hl 3 rfl) ?_
  refine lv_iconst (v := 0) hx hb dL_law_577 (by decide) ?_
  refine va_lald hx hb hK (ws := [oC O y g1]) (z_sub_P hP (fun z h => List.mem_append_left _ (List.mem_append_right _ h))) 0 3 rfl rfl (i := 0) (by unfold vp_in; decide) dL_law_578 ?_
  rw [hv k0]
  refine lv_iload hx hb dL_law_579 (lv_at hl 0 rfl) ?_
  refine lv_i2l (v := v.toInt64) hx hb dL_law_581 rfl ?_
  refine lv_lcmp0 hx hb dL_law_582 ?_
  exact lv_if_eq (tgt := 588) hx hb dL_law_583 (by decide) (fun _ => last ls hl) (fun c9 => absurd rfl c9)
set_option maxHeartbeats 1000000 in
set_option maxRecDepth 100000 in
theorem seg_about {p : Program} {e : Env} {s : State} {m : MethodId} {below : List Frame} {meth : Method} {c : Code} {Q : State → Prop} (l : Launch) {b L : Nat} {xs : Nat → Int32} {D : va_G} {y : Nat → ClassId} (C : LCtx p s m c b L xs D y) {i : Nat} (hi : i + 4 ≤ L) {X0 Y0 O : Nat} {a1 a2 : Int32} (e1 : xs (i + 1) = a1) (e2 : xs (i + 2) = a2)
    {w w1 zw zw1 : va_W} {g g1 : Nat → Int64} {k v : Int32} {rm : Room} {mc ms : Nat}
    (hH : ∀ sz, zH l yL_about wsL_about D y [.ref X0, .int a1, .int a2, .ref O] (w ++ [oC O y g]) sz k (w1 ++ [oC O y g1]))
    (hM : ∀ sz, zMN l yX5_about wsX5_about rm D y [.ref Y0, .int a1, .int a2] zw sz (some (.int v)) zw1 mc ms) (hrc : rm.cells = mc) (hrs : rm.slots = ms) (hrm : rm.frames ≤ 8 ∧ rm.locals ≤ 200 ∧ mc ≤ 57 ∧ ms ≤ 400)
    (hT : zR l yX5_thrown wsX5_thrown { frames := 0, cells := 0, slots := 0, locals := 0 } D y [.ref Y0] zw1 (some (.int k))) (hv : k = 0 → g1 (0 : Int32).toNatClampNeg = v.toInt64)
    {fs fs1 : List Value} (h0 : zw[0]? = some (Y0, .inr (5, fs))) (h01 : zw1[0]? = some (Y0, .inr (5, fs1))) (had : w1.map Prod.fst = w.map Prod.fst) (hadz : zw1.map Prod.fst = zw.map Prod.fst)
    {H : Heap} {locs : List Loc} {ls : Array Slot} {cells slots : Nat} (hc : cells + 58 ≤ 601024 ∧ slots + 484 ≤ 7293034) (hP : va_P D vwCl ((w ++ [oC O y g]) ++ zw) H) (hD : va_D (lA s) ((w ++ [oC O y g]) ++ zw)) (hS : va_S (lA s) s.heap H locs) (hl : lv_has ls 9 [(4, .int (nI i)), (3, .ref O), (2, .ref Y0), (1, .ref X0), (0, .ref b)])
    (kk : ∀ (H1 : Heap) (locs1 : List Loc) (ls1 : Array Slot), va_P D vwCl ((w1 ++ [oC O y g1]) ++ zw1) H1 → va_D (lA s) ((w1 ++ [oC O y g1]) ++ zw1) → va_S (lA s) s.heap H1 locs1 → lv_has ls1 9 [(4, .int (nI i)), (3, .ref O), (2, .ref Y0), (1, .ref X0), (0, .ref b)] → W p l e room_1 s m #[Value.ref b] below meth c H1 locs1 (cells + 58) (slots + 484) Q (F0 m 1267 ls1 [])) : W p l e room_1 s m #[Value.ref b] below meth c H locs cells slots Q (F0 m 591 ls []) := by
  have hx := C.hx
  have hb := C.hb
  have hml := C.hml
  have hown := C.hown
  have hts := C.hts
  have hK := C.hK
  have hA : ∀ q : Nat, s.heap.size ≤ q → lA s q := fun q h => h
  have had2 : (w1 ++ [oC O y g1]).map Prod.fst = (w ++ [oC O y g]).map Prod.fst := by rw [List.map_append, List.map_append, had]; rfl
  refine lv_aload_n hx hb dL_law_591 rfl (lv_at hl 3 rfl) ?_
  refine l_arg (j := 1) (J := 1) C e1 (by omega) (by decide) dL_law_592 dL_law_593 dL_law_595 dL_law_596 dL_law_597 hS (lv_at hl 4 rfl) (lv_at hl 0 rfl) ?_
  refine l_arg (j := 2) (J := 2) C e2 (by omega) (by decide) dL_law_598 dL_law_599 dL_law_601 dL_law_602 dL_law_603 hS (lv_at hl 4 rfl) (lv_at hl 0 rfl) ?_
  refine lv_aload_n hx hb dL_law_604 rfl (lv_at hl 1 rfl) ?_
  refine zcHS (As := [.ref X0, .int a1, .int a2, .ref O]) (rest := []) (st1 := [.int k]) (cells1 := cells + 1) (slots1 := slots + 6) (w := w ++ [oC O y g]) ⟨hx, hb, hml, hown, hts⟩ (hH _) (vx_cwSW 4 hts tL_about rfl rfl rfl (by decide +kernel) ⟨(Nat.le_of_ble_eq_true rfl), (Nat.le_of_ble_eq_true rfl)⟩) (C.hX9 hS) hK (z_sub_P hP (fun z h => List.mem_append_left _ h)) (z_D_m (l1 := []) (l2 := zw) hD) rfl hl.1 rfl (lv_room (Nat.le_of_ble_eq_true rfl)) dL_law_605 hS (z_sub_F hD hS hA (fun z h => List.mem_append_left _ h)) ⟨by show cells + 1 ≤ 601024; omega, by show slots + 6 ≤ 7293034; omega⟩ rfl rfl rfl (fun H locs hP1 hz hfr hS => ?_)
  obtain ⟨hP, hD⟩ := z_seg (l1 := []) (w := w ++ [oC O y g]) (w1 := w1 ++ [oC O y g1]) (l2 := zw) (ws1 := ((w1 ++ [oC O y g1]) ++ zw)) hP hD rfl rfl had2 hP1 hfr
  refine lv_istore (lv' := [(5, .int k), (4, .int (nI i)), (3, .ref O), (2, .ref Y0), (1, .ref X0), (0, .ref b)]) hx hb dL_law_608 hl (by decide) rfl (fun ls hl => ?_)
  refine lv_aload_n hx hb dL_law_610 rfl (lv_at hl 3 rfl) ?_
  refine l_arg (j := 1) (J := 1) C e1 (by omega) (by decide) dL_law_611 dL_law_612 dL_law_614 dL_law_615 dL_law_616 hS (lv_at hl 5 rfl) (lv_at hl 1 rfl) ?_
  refine l_arg (j := 2) (J := 2) C e2 (by omega) (by decide) dL_law_617 dL_law_618 dL_law_620 dL_law_621 dL_law_622 hS (lv_at hl 5 rfl) (lv_at hl 1 rfl) ?_
  refine zcNMV (As := [.int a1, .int a2]) (rest := []) (st1 := [.int v]) (cells1 := cells + 1 + mc) (slots1 := slots + 6 + ms) (w := zw) ⟨hx, hb, hml, hown, hts⟩ (hM _) (cwV 2 hts tX5_about rfl hrc hrs (by decide +kernel) ⟨by show rm.frames + 1 ≤ 10; omega, by show 8 + (3 + 11) + rm.locals ≤ 372; omega⟩) C.hN hK (z_sub_P hP (fun z h => List.mem_append_right _ h)) (z_D_m (l1 := w1 ++ [oC O y g1]) (l2 := []) (by rw [List.append_nil]; exact hD)) (ci := 5) (q0 := 0) rfl rfl h0 rfl hl.1 rfl (lv_room (Nat.le_of_ble_eq_true rfl)) dL_law_623 hS (z_sub_F hD hS hA (fun z h => List.mem_append_right _ h)) ⟨by show cells + 1 + mc ≤ 601024; omega, by show slots + 6 + ms ≤ 7293034; omega⟩ rfl rfl rfl (fun H locs hP1 hz hfr hS => ?_)
  obtain ⟨hP, hD⟩ := z_seg (l1 := w1 ++ [oC O y g1]) (w := zw) (w1 := zw1) (l2 := []) (ws1 := ((w1 ++ [oC O y g1]) ++ zw1)) hP hD (by rw [List.append_nil]) (by rw [List.append_nil]) hadz hP1 hfr
  refine lv_istore (lv' := [(6, .int v), (5, .int k), (4, .int (nI i)), (3, .ref O), (2, .ref Y0), (1, .ref X0), (0, .ref b)]) hx hb dL_law_626 hl (by decide) rfl (fun ls hl => ?_)
  refine lv_aload_n hx hb dL_law_628 rfl (lv_at hl 4 rfl) ?_
  refine zcRV (As := []) (rest := []) (st1 := [.int k]) (w := zw1) ⟨hx, hb, hml, hown, hts⟩ hT (cwV 0 hts tX5_thrown rfl rfl rfl (by decide +kernel) ⟨(Nat.le_of_ble_eq_true rfl), (Nat.le_of_ble_eq_true rfl)⟩) hK (z_sub_P hP (fun z h => List.mem_append_right _ h)) (ci := 5) (q0 := 0) rfl rfl h01 rfl hl.1 rfl (lv_room (Nat.le_of_ble_eq_true rfl)) dL_law_629 ⟨by show cells + 1 + mc ≤ 601024; omega, by show slots + 6 + ms ≤ 7293034; omega⟩ rfl ?_
  refine lv_iload hx hb dL_law_632 (lv_at hl 1 rfl) ?_
  refine lv_icmp_eq (tgt := 639) hx hb dL_law_634 (by decide) (fun _ => ?_) (fun c9 => absurd rfl c9)
  refine lv_iload hx hb dL_law_639 (lv_at hl 1 rfl) ?_
  have last : ∀ ls : Array Slot, lv_has ls 9 [(6, .int v), (5, .int k), (4, .int (nI i)), (3, .ref O), (2, .ref Y0), (1, .ref X0), (0, .ref b)] → W p l e room_1 s m #[Value.ref b] below meth c H locs (cells + 1 + mc) (slots + 6 + ms) Q (F0 m 656 ls []) := by
    intro ls hl
    refine lv_goto (tgt := 1267) hx hb dL_law_656 (by decide) ?_
    refine W.widen (k := cells + 58) (n := slots + 484) (by omega) (by omega) ?_
    exact kk H locs ls hP hD hS (lv_sub hl [2, 3, 4, 5, 6] rfl)
  refine lv_if_ne (tgt := 656) hx hb dL_law_641 (by decide) (fun _ => last ls hl) (fun c9 => ?_)
  have k0 : k = 0 := c9
  refine lv_aload_n hx hb dL_law_644 rfl (lv_at hl 3 rfl) ?_
  refine lv_iconst (v := 0) hx hb dL_law_645 (by decide) ?_
  refine va_lald hx hb hK (ws := [oC O y g1]) (z_sub_P hP (fun z h => List.mem_append_left _ (List.mem_append_right _ h))) 0 3 rfl rfl (i := 0) (by unfold vp_in; decide) dL_law_646 ?_
  rw [hv k0]
  refine lv_iload hx hb dL_law_647 (lv_at hl 0 rfl) ?_
  refine lv_i2l (v := v.toInt64) hx hb dL_law_649 rfl ?_
  refine lv_lcmp0 hx hb dL_law_650 ?_
  exact lv_if_eq (tgt := 656) hx hb dL_law_651 (by decide) (fun _ => last ls hl) (fun c9 => absurd rfl c9)
set_option maxHeartbeats 1000000 in
set_option maxRecDepth 100000 in
theorem seg_told {p : Program} {e : Env} {s : State} {m : MethodId} {below : List Frame} {meth : Method} {c : Code} {Q : State → Prop} (l : Launch) {b L : Nat} {xs : Nat → Int32} {D : va_G} {y : Nat → ClassId} (C : LCtx p s m c b L xs D y) {i : Nat} (hi : i + 4 ≤ L) {X0 Y0 O : Nat} {a1 a2 : Int32} (e1 : xs (i + 1) = a1) (e2 : xs (i + 2) = a2)
    {w w1 zw zw1 : va_W} {g g1 : Nat → Int64} {k v : Int32} {rm : Room} {mc ms : Nat}
    (hH : ∀ sz, zH l yL_told wsL_told D y [.ref X0, .int a1, .int a2, .ref O] (w ++ [oC O y g]) sz k (w1 ++ [oC O y g1]))
    (hM : ∀ sz, zMN l yX5_told wsX5_told rm D y [.ref Y0, .int a1, .int a2] zw sz (some (.int v)) zw1 mc ms) (hrc : rm.cells = mc) (hrs : rm.slots = ms) (hrm : rm.frames ≤ 8 ∧ rm.locals ≤ 200 ∧ mc ≤ 57 ∧ ms ≤ 400)
    (hT : zR l yX5_thrown wsX5_thrown { frames := 0, cells := 0, slots := 0, locals := 0 } D y [.ref Y0] zw1 (some (.int k))) (hv : k = 0 → g1 (0 : Int32).toNatClampNeg = v.toInt64)
    {fs fs1 : List Value} (h0 : zw[0]? = some (Y0, .inr (5, fs))) (h01 : zw1[0]? = some (Y0, .inr (5, fs1))) (had : w1.map Prod.fst = w.map Prod.fst) (hadz : zw1.map Prod.fst = zw.map Prod.fst)
    {H : Heap} {locs : List Loc} {ls : Array Slot} {cells slots : Nat} (hc : cells + 58 ≤ 601024 ∧ slots + 484 ≤ 7293034) (hP : va_P D vwCl ((w ++ [oC O y g]) ++ zw) H) (hD : va_D (lA s) ((w ++ [oC O y g]) ++ zw)) (hS : va_S (lA s) s.heap H locs) (hl : lv_has ls 9 [(4, .int (nI i)), (3, .ref O), (2, .ref Y0), (1, .ref X0), (0, .ref b)])
    (kk : ∀ (H1 : Heap) (locs1 : List Loc) (ls1 : Array Slot), va_P D vwCl ((w1 ++ [oC O y g1]) ++ zw1) H1 → va_D (lA s) ((w1 ++ [oC O y g1]) ++ zw1) → va_S (lA s) s.heap H1 locs1 → lv_has ls1 9 [(4, .int (nI i)), (3, .ref O), (2, .ref Y0), (1, .ref X0), (0, .ref b)] → W p l e room_1 s m #[Value.ref b] below meth c H1 locs1 (cells + 58) (slots + 484) Q (F0 m 1267 ls1 [])) : W p l e room_1 s m #[Value.ref b] below meth c H locs cells slots Q (F0 m 659 ls []) := by
  have hx := C.hx
  have hb := C.hb
  have hml := C.hml
  have hown := C.hown
  have hts := C.hts
  have hK := C.hK
  have hA : ∀ q : Nat, s.heap.size ≤ q → lA s q := fun q h => h
  have had2 : (w1 ++ [oC O y g1]).map Prod.fst = (w ++ [oC O y g]).map Prod.fst := by rw [List.map_append, List.map_append, had]; rfl
  refine lv_aload_n hx hb dL_law_659 rfl (lv_at hl 3 rfl) ?_
  refine l_arg (j := 1) (J := 1) C e1 (by omega) (by decide) dL_law_660 dL_law_661 dL_law_663 dL_law_664 dL_law_665 hS (lv_at hl 4 rfl) (lv_at hl 0 rfl) ?_
  refine l_arg (j := 2) (J := 2) C e2 (by omega) (by decide) dL_law_666 dL_law_667 dL_law_669 dL_law_670 dL_law_671 hS (lv_at hl 4 rfl) (lv_at hl 0 rfl) ?_
  refine lv_aload_n hx hb dL_law_672 rfl (lv_at hl 1 rfl) ?_
  refine zcHS (As := [.ref X0, .int a1, .int a2, .ref O]) (rest := []) (st1 := [.int k]) (cells1 := cells + 1) (slots1 := slots + 6) (w := w ++ [oC O y g]) ⟨hx, hb, hml, hown, hts⟩ (hH _) (vx_cwSW 4 hts tL_told rfl rfl rfl (by decide +kernel) ⟨(Nat.le_of_ble_eq_true rfl), (Nat.le_of_ble_eq_true rfl)⟩) (C.hX9 hS) hK (z_sub_P hP (fun z h => List.mem_append_left _ h)) (z_D_m (l1 := []) (l2 := zw) hD) rfl hl.1 rfl (lv_room (Nat.le_of_ble_eq_true rfl)) dL_law_673 hS (z_sub_F hD hS hA (fun z h => List.mem_append_left _ h)) ⟨by show cells + 1 ≤ 601024; omega, by show slots + 6 ≤ 7293034; omega⟩ rfl rfl rfl (fun H locs hP1 hz hfr hS => ?_)
  obtain ⟨hP, hD⟩ := z_seg (l1 := []) (w := w ++ [oC O y g]) (w1 := w1 ++ [oC O y g1]) (l2 := zw) (ws1 := ((w1 ++ [oC O y g1]) ++ zw)) hP hD rfl rfl had2 hP1 hfr
  refine lv_istore (lv' := [(5, .int k), (4, .int (nI i)), (3, .ref O), (2, .ref Y0), (1, .ref X0), (0, .ref b)]) hx hb dL_law_676 hl (by decide) rfl (fun ls hl => ?_)
  refine lv_aload_n hx hb dL_law_678 rfl (lv_at hl 3 rfl) ?_
  refine l_arg (j := 1) (J := 1) C e1 (by omega) (by decide) dL_law_679 dL_law_680 dL_law_682 dL_law_683 dL_law_684 hS (lv_at hl 5 rfl) (lv_at hl 1 rfl) ?_
  refine l_arg (j := 2) (J := 2) C e2 (by omega) (by decide) dL_law_685 dL_law_686 dL_law_688 dL_law_689 dL_law_690 hS (lv_at hl 5 rfl) (lv_at hl 1 rfl) ?_
  refine zcNMV (As := [.int a1, .int a2]) (rest := []) (st1 := [.int v]) (cells1 := cells + 1 + mc) (slots1 := slots + 6 + ms) (w := zw) ⟨hx, hb, hml, hown, hts⟩ (hM _) (cwV 2 hts tX5_told rfl hrc hrs (by decide +kernel) ⟨by show rm.frames + 1 ≤ 10; omega, by show 8 + (3 + 11) + rm.locals ≤ 372; omega⟩) C.hN hK (z_sub_P hP (fun z h => List.mem_append_right _ h)) (z_D_m (l1 := w1 ++ [oC O y g1]) (l2 := []) (by rw [List.append_nil]; exact hD)) (ci := 5) (q0 := 0) rfl rfl h0 rfl hl.1 rfl (lv_room (Nat.le_of_ble_eq_true rfl)) dL_law_691 hS (z_sub_F hD hS hA (fun z h => List.mem_append_right _ h)) ⟨by show cells + 1 + mc ≤ 601024; omega, by show slots + 6 + ms ≤ 7293034; omega⟩ rfl rfl rfl (fun H locs hP1 hz hfr hS => ?_)
  obtain ⟨hP, hD⟩ := z_seg (l1 := w1 ++ [oC O y g1]) (w := zw) (w1 := zw1) (l2 := []) (ws1 := ((w1 ++ [oC O y g1]) ++ zw1)) hP hD (by rw [List.append_nil]) (by rw [List.append_nil]) hadz hP1 hfr
  refine lv_istore (lv' := [(6, .int v), (5, .int k), (4, .int (nI i)), (3, .ref O), (2, .ref Y0), (1, .ref X0), (0, .ref b)]) hx hb dL_law_694 hl (by decide) rfl (fun ls hl => ?_)
  refine lv_aload_n hx hb dL_law_696 rfl (lv_at hl 4 rfl) ?_
  refine zcRV (As := []) (rest := []) (st1 := [.int k]) (w := zw1) ⟨hx, hb, hml, hown, hts⟩ hT (cwV 0 hts tX5_thrown rfl rfl rfl (by decide +kernel) ⟨(Nat.le_of_ble_eq_true rfl), (Nat.le_of_ble_eq_true rfl)⟩) hK (z_sub_P hP (fun z h => List.mem_append_right _ h)) (ci := 5) (q0 := 0) rfl rfl h01 rfl hl.1 rfl (lv_room (Nat.le_of_ble_eq_true rfl)) dL_law_697 ⟨by show cells + 1 + mc ≤ 601024; omega, by show slots + 6 + ms ≤ 7293034; omega⟩ rfl ?_
  refine lv_iload hx hb dL_law_700 (lv_at hl 1 rfl) ?_
  refine lv_icmp_eq (tgt := 707) hx hb dL_law_702 (by decide) (fun _ => ?_) (fun c9 => absurd rfl c9)
  refine lv_iload hx hb dL_law_707 (lv_at hl 1 rfl) ?_
  have last : ∀ ls : Array Slot, lv_has ls 9 [(6, .int v), (5, .int k), (4, .int (nI i)), (3, .ref O), (2, .ref Y0), (1, .ref X0), (0, .ref b)] → W p l e room_1 s m #[Value.ref b] below meth c H locs (cells + 1 + mc) (slots + 6 + ms) Q (F0 m 724 ls []) := by
    intro ls hl
    refine lv_goto (tgt := 1267) hx hb dL_law_724 (by decide) ?_
    refine W.widen (k := cells + 58) (n := slots + 484) (by omega) (by omega) ?_
    exact kk H locs ls hP hD hS (lv_sub hl [2, 3, 4, 5, 6] rfl)
  refine lv_if_ne (tgt := 724) hx hb dL_law_709 (by decide) (fun _ => last ls hl) (fun c9 => ?_)
  have k0 : k = 0 := c9
  refine lv_aload_n hx hb dL_law_712 rfl (lv_at hl 3 rfl) ?_
  refine lv_iconst (v := 0) hx hb dL_law_713 (by decide) ?_
  refine va_lald hx hb hK (ws := [oC O y g1]) (z_sub_P hP (fun z h => List.mem_append_left _ (List.mem_append_right _ h))) 0 3 rfl rfl (i := 0) (by unfold vp_in; decide) dL_law_714 ?_
  rw [hv k0]
  refine lv_iload hx hb dL_law_715 (lv_at hl 0 rfl) ?_
  refine lv_i2l (v := v.toInt64) hx hb dL_law_717 rfl ?_
  refine lv_lcmp0 hx hb dL_law_718 ?_
  exact lv_if_eq (tgt := 724) hx hb dL_law_719 (by decide) (fun _ => last ls hl) (fun c9 => absurd rfl c9)
