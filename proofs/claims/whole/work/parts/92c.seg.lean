set_option maxHeartbeats 1000000 in
set_option maxRecDepth 100000 in
theorem seg_richest {p : Program} {e : Env} {s : State} {m : MethodId} {below : List Frame} {meth : Method} {c : Code} {Q : State → Prop} (l : Launch) {b L : Nat} {xs : Nat → Int32} {D : va_G} {y : Nat → ClassId} (C : LCtx p s m c b L xs D y) {i : Nat} (hi : i + 4 ≤ L) {X0 Y0 O : Nat} {w zw zw1 : va_W} {g : Nat → Int64} {v : Int32} {rmX rm : Room} {mc ms : Nat}
    (hH : zR l yX3_richest wsX3_richest rmX D y [.ref X0] w (some (.int v))) (hrx : rmX.cells = 0 ∧ rmX.slots = 0 ∧ rmX.frames ≤ 8 ∧ rmX.locals ≤ 200)
    (hM : ∀ sz, zMN l yX5_richest wsX5_richest rm D y [.ref Y0] zw sz (some (.int v)) zw1 mc ms) (hrc : rm.cells = mc) (hrs : rm.slots = ms) (hrm : rm.frames ≤ 8 ∧ rm.locals ≤ 200 ∧ mc ≤ 58 ∧ ms ≤ 484)
    {fs fx : List Value} (h0 : zw[0]? = some (Y0, .inr (5, fs))) (hw0 : w[0]? = some (X0, .inr (3, fx))) (hadz : zw1.map Prod.fst = zw.map Prod.fst)
    {H : Heap} {locs : List Loc} {ls : Array Slot} {cells slots : Nat} (hc : cells + 58 ≤ 601024 ∧ slots + 484 ≤ 7293034) (hP : va_P D vwCl ((w ++ [oC O y g]) ++ zw) H) (hD : va_D (lA s) ((w ++ [oC O y g]) ++ zw)) (hS : va_S (lA s) s.heap H locs) (hl : lv_has ls 9 [(4, .int (nI i)), (3, .ref O), (2, .ref Y0), (1, .ref X0), (0, .ref b)])
    (kk : ∀ (H1 : Heap) (locs1 : List Loc) (ls1 : Array Slot), va_P D vwCl ((w ++ [oC O y g]) ++ zw1) H1 → va_D (lA s) ((w ++ [oC O y g]) ++ zw1) → va_S (lA s) s.heap H1 locs1 → lv_has ls1 9 [(4, .int (nI i)), (3, .ref O), (2, .ref Y0), (1, .ref X0), (0, .ref b)] → W p l e room_1 s m #[Value.ref b] below meth c H1 locs1 (cells + 58) (slots + 484) Q (F0 m 1267 ls1 [])) : W p l e room_1 s m #[Value.ref b] below meth c H locs cells slots Q (F0 m 839 ls []) := by
  have hx := C.hx
  have hb := C.hb
  have hml := C.hml
  have hown := C.hown
  have hts := C.hts
  have hK := C.hK
  have hA : ∀ q : Nat, s.heap.size ≤ q → lA s q := fun q h => h
  refine lv_aload_n hx hb dL_law_839 rfl (lv_at hl 3 rfl) ?_
  refine zcRV (As := []) (rest := []) (st1 := [.int v]) (w := w) ⟨hx, hb, hml, hown, hts⟩ hH (cwV 0 hts tX3_richest rfl hrx.1 hrx.2.1 (by decide +kernel) ⟨by show rmX.frames + 1 ≤ 10; omega, by show 8 + (1 + 11) + rmX.locals ≤ 372; omega⟩) hK (z_sub_P hP (fun z h => List.mem_append_left _ (List.mem_append_left _ h))) (ci := 3) (q0 := 0) rfl rfl hw0 rfl hl.1 rfl (lv_room (Nat.le_of_ble_eq_true rfl)) dL_law_840 ⟨by show cells ≤ 601024; omega, by show slots ≤ 7293034; omega⟩ rfl ?_
  refine lv_aload_n hx hb dL_law_843 rfl (lv_at hl 2 rfl) ?_
  refine zcNMV (As := []) (rest := [.int v]) (st1 := [.int v, .int v]) (cells1 := cells + mc) (slots1 := slots + ms) (w := zw) ⟨hx, hb, hml, hown, hts⟩ (hM _) (cwV 0 hts tX5_richest rfl hrc hrs (by decide +kernel) ⟨by show rm.frames + 1 ≤ 10; omega, by show 8 + (3 + 11) + rm.locals ≤ 372; omega⟩) C.hN hK (z_sub_P hP (fun z h => List.mem_append_right _ h)) (z_D_m (l1 := w ++ [oC O y g]) (l2 := []) (by rw [List.append_nil]; exact hD)) (ci := 5) (q0 := 0) rfl rfl h0 rfl hl.1 rfl (lv_room (Nat.le_of_ble_eq_true rfl)) dL_law_844 hS (z_sub_F hD hS hA (fun z h => List.mem_append_right _ h)) ⟨by show cells + mc ≤ 601024; omega, by show slots + ms ≤ 7293034; omega⟩ rfl rfl rfl (fun H locs hP1 hz hfr hS => ?_)
  obtain ⟨hP, hD⟩ := z_seg (l1 := w ++ [oC O y g]) (w := zw) (w1 := zw1) (l2 := []) (ws1 := ((w ++ [oC O y g]) ++ zw1)) hP hD (by rw [List.append_nil]) (by rw [List.append_nil]) hadz hP1 hfr
  have last : W p l e room_1 s m #[Value.ref b] below meth c H locs (cells + mc) (slots + ms) Q (F0 m 1267 ls []) := by
    refine W.widen (k := cells + 58) (n := slots + 484) (by omega) (by omega) ?_
    exact kk H locs ls hP hD hS (lv_sub hl [0, 1, 2, 3, 4] rfl)
  exact lv_icmp_eq (tgt := 1267) hx hb dL_law_847 (by decide) (fun _ => last) (fun c9 => absurd rfl c9)
set_option maxHeartbeats 1000000 in
set_option maxRecDepth 100000 in
theorem seg_digest {p : Program} {e : Env} {s : State} {m : MethodId} {below : List Frame} {meth : Method} {c : Code} {Q : State → Prop} (l : Launch) {b L : Nat} {xs : Nat → Int32} {D : va_G} {y : Nat → ClassId} (C : LCtx p s m c b L xs D y) {i : Nat} (hi : i + 4 ≤ L) {X0 Y0 O : Nat} {w zw zw1 : va_W} {g : Nat → Int64} {v : Int64} {rmX rm : Room} {mc ms : Nat}
    (hH : zR l yX3_digest wsX3_digest rmX D y [.ref X0] w (some (.long v))) (hrx : rmX.cells = 0 ∧ rmX.slots = 0 ∧ rmX.frames ≤ 8 ∧ rmX.locals ≤ 200)
    (hM : ∀ sz, zMN l yX5_digest wsX5_digest rm D y [.ref Y0] zw sz (some (.long v)) zw1 mc ms) (hrc : rm.cells = mc) (hrs : rm.slots = ms) (hrm : rm.frames ≤ 8 ∧ rm.locals ≤ 200 ∧ mc ≤ 58 ∧ ms ≤ 484)
    {fs fx : List Value} (h0 : zw[0]? = some (Y0, .inr (5, fs))) (hw0 : w[0]? = some (X0, .inr (3, fx))) (hadz : zw1.map Prod.fst = zw.map Prod.fst)
    {H : Heap} {locs : List Loc} {ls : Array Slot} {cells slots : Nat} (hc : cells + 58 ≤ 601024 ∧ slots + 484 ≤ 7293034) (hP : va_P D vwCl ((w ++ [oC O y g]) ++ zw) H) (hD : va_D (lA s) ((w ++ [oC O y g]) ++ zw)) (hS : va_S (lA s) s.heap H locs) (hl : lv_has ls 9 [(4, .int (nI i)), (3, .ref O), (2, .ref Y0), (1, .ref X0), (0, .ref b)])
    (kk : ∀ (H1 : Heap) (locs1 : List Loc) (ls1 : Array Slot), va_P D vwCl ((w ++ [oC O y g]) ++ zw1) H1 → va_D (lA s) ((w ++ [oC O y g]) ++ zw1) → va_S (lA s) s.heap H1 locs1 → lv_has ls1 9 [(4, .int (nI i)), (3, .ref O), (2, .ref Y0), (1, .ref X0), (0, .ref b)] → W p l e room_1 s m #[Value.ref b] below meth c H1 locs1 (cells + 58) (slots + 484) Q (F0 m 1267 ls1 [])) : W p l e room_1 s m #[Value.ref b] below meth c H locs cells slots Q (F0 m 1253 ls []) := by
  have hx := C.hx
  have hb := C.hb
  have hml := C.hml
  have hown := C.hown
  have hts := C.hts
  have hK := C.hK
  have hA : ∀ q : Nat, s.heap.size ≤ q → lA s q := fun q h => h
  refine lv_aload_n hx hb dL_law_1253 rfl (lv_at hl 3 rfl) ?_
  refine zcRV (As := []) (rest := []) (st1 := [.long v]) (w := w) ⟨hx, hb, hml, hown, hts⟩ hH (cwV 0 hts tX3_digest rfl hrx.1 hrx.2.1 (by decide +kernel) ⟨by show rmX.frames + 1 ≤ 10; omega, by show 8 + (4 + 11) + rmX.locals ≤ 372; omega⟩) hK (z_sub_P hP (fun z h => List.mem_append_left _ (List.mem_append_left _ h))) (ci := 3) (q0 := 0) rfl rfl hw0 rfl hl.1 rfl (lv_room (Nat.le_of_ble_eq_true rfl)) dL_law_1254 ⟨by show cells ≤ 601024; omega, by show slots ≤ 7293034; omega⟩ rfl ?_
  refine lv_aload_n hx hb dL_law_1257 rfl (lv_at hl 2 rfl) ?_
  refine zcNMV (As := []) (rest := [.long v]) (st1 := [.long v, .long v]) (cells1 := cells + mc) (slots1 := slots + ms) (w := zw) ⟨hx, hb, hml, hown, hts⟩ (hM _) (cwV 0 hts tX5_digest rfl hrc hrs (by decide +kernel) ⟨by show rm.frames + 1 ≤ 10; omega, by show 8 + (7 + 11) + rm.locals ≤ 372; omega⟩) C.hN hK (z_sub_P hP (fun z h => List.mem_append_right _ h)) (z_D_m (l1 := w ++ [oC O y g]) (l2 := []) (by rw [List.append_nil]; exact hD)) (ci := 5) (q0 := 0) rfl rfl h0 rfl hl.1 rfl (lv_room (Nat.le_of_ble_eq_true rfl)) dL_law_1258 hS (z_sub_F hD hS hA (fun z h => List.mem_append_right _ h)) ⟨by show cells + mc ≤ 601024; omega, by show slots + ms ≤ 7293034; omega⟩ rfl rfl rfl (fun H locs hP1 hz hfr hS => ?_)
  obtain ⟨hP, hD⟩ := z_seg (l1 := w ++ [oC O y g]) (w := zw) (w1 := zw1) (l2 := []) (ws1 := ((w ++ [oC O y g]) ++ zw1)) hP hD (by rw [List.append_nil]) (by rw [List.append_nil]) hadz hP1 hfr
  have last : W p l e room_1 s m #[Value.ref b] below meth c H locs (cells + mc) (slots + ms) Q (F0 m 1267 ls []) := by
    refine W.widen (k := cells + 58) (n := slots + 484) (by omega) (by omega) ?_
    exact kk H locs ls hP hD hS (lv_sub hl [0, 1, 2, 3, 4] rfl)
  refine lv_lcmp0 hx hb dL_law_1261 ?_
  exact lv_if_eq (tgt := 1267) hx hb dL_law_1262 (by decide) (fun _ => last) (fun c9 => absurd rfl c9)
set_option maxHeartbeats 1000000 in
set_option maxRecDepth 100000 in
theorem seg_mean {p : Program} {e : Env} {s : State} {m : MethodId} {below : List Frame} {meth : Method} {c : Code} {Q : State → Prop} (l : Launch) {b L : Nat} {xs : Nat → Int32} {D : va_G} {y : Nat → ClassId} (C : LCtx p s m c b L xs D y) {i : Nat} (hi : i + 4 ≤ L) {X0 Y0 O : Nat} {w zw zw1 : va_W} {g : Nat → Int64} {v : UInt64} {rmX rm : Room} {mc ms : Nat}
    (hH : zR l yX3_mean wsX3_mean rmX D y [.ref X0] w (some (.double v))) (hrx : rmX.cells = 0 ∧ rmX.slots = 0 ∧ rmX.frames ≤ 8 ∧ rmX.locals ≤ 200)
    (hM : ∀ sz, zMN l yX5_mean wsX5_mean rm D y [.ref Y0] zw sz (some (.double v)) zw1 mc ms) (hrc : rm.cells = mc) (hrs : rm.slots = ms) (hrm : rm.frames ≤ 8 ∧ rm.locals ≤ 200 ∧ mc ≤ 58 ∧ ms ≤ 484)
    {fs fx : List Value} (h0 : zw[0]? = some (Y0, .inr (5, fs))) (hw0 : w[0]? = some (X0, .inr (3, fx))) (hadz : zw1.map Prod.fst = zw.map Prod.fst)
    {H : Heap} {locs : List Loc} {ls : Array Slot} {cells slots : Nat} (hc : cells + 58 ≤ 601024 ∧ slots + 484 ≤ 7293034) (hP : va_P D vwCl ((w ++ [oC O y g]) ++ zw) H) (hD : va_D (lA s) ((w ++ [oC O y g]) ++ zw)) (hS : va_S (lA s) s.heap H locs) (hl : lv_has ls 9 [(4, .int (nI i)), (3, .ref O), (2, .ref Y0), (1, .ref X0), (0, .ref b)])
    (kk : ∀ (H1 : Heap) (locs1 : List Loc) (ls1 : Array Slot), va_P D vwCl ((w ++ [oC O y g]) ++ zw1) H1 → va_D (lA s) ((w ++ [oC O y g]) ++ zw1) → va_S (lA s) s.heap H1 locs1 → lv_has ls1 9 [(4, .int (nI i)), (3, .ref O), (2, .ref Y0), (1, .ref X0), (0, .ref b)] → W p l e room_1 s m #[Value.ref b] below meth c H1 locs1 (cells + 58) (slots + 484) Q (F0 m 1267 ls1 [])) : W p l e room_1 s m #[Value.ref b] below meth c H locs cells slots Q (F0 m 1212 ls []) := by
  have hx := C.hx
  have hb := C.hb
  have hml := C.hml
  have hown := C.hown
  have hts := C.hts
  have hK := C.hK
  have hA : ∀ q : Nat, s.heap.size ≤ q → lA s q := fun q h => h
  refine lv_aload_n hx hb dL_law_1212 rfl (lv_at hl 3 rfl) ?_
  refine zcRV (As := []) (rest := []) (st1 := [.double v]) (w := w) ⟨hx, hb, hml, hown, hts⟩ hH (cwV 0 hts tX3_mean rfl hrx.1 hrx.2.1 (by decide +kernel) ⟨by show rmX.frames + 1 ≤ 10; omega, by show 8 + (2 + 11) + rmX.locals ≤ 372; omega⟩) hK (z_sub_P hP (fun z h => List.mem_append_left _ (List.mem_append_left _ h))) (ci := 3) (q0 := 0) rfl rfl hw0 rfl hl.1 rfl (lv_room (Nat.le_of_ble_eq_true rfl)) dL_law_1213 ⟨by show cells ≤ 601024; omega, by show slots ≤ 7293034; omega⟩ rfl ?_
  refine lv_dstore (lv' := [(5, .double v), (4, .int (nI i)), (3, .ref O), (2, .ref Y0), (1, .ref X0), (0, .ref b)]) hx hb dL_law_1216 hl (by decide) rfl (fun ls hl => ?_)
  refine lv_aload_n hx hb dL_law_1218 rfl (lv_at hl 3 rfl) ?_
  refine zcNMV (As := []) (rest := []) (st1 := [.double v]) (cells1 := cells + mc) (slots1 := slots + ms) (w := zw) ⟨hx, hb, hml, hown, hts⟩ (hM _) (cwV 0 hts tX5_mean rfl hrc hrs (by decide +kernel) ⟨by show rm.frames + 1 ≤ 10; omega, by show 8 + (3 + 11) + rm.locals ≤ 372; omega⟩) C.hN hK (z_sub_P hP (fun z h => List.mem_append_right _ h)) (z_D_m (l1 := w ++ [oC O y g]) (l2 := []) (by rw [List.append_nil]; exact hD)) (ci := 5) (q0 := 0) rfl rfl h0 rfl hl.1 rfl (lv_room (Nat.le_of_ble_eq_true rfl)) dL_law_1219 hS (z_sub_F hD hS hA (fun z h => List.mem_append_right _ h)) ⟨by show cells + mc ≤ 601024; omega, by show slots + ms ≤ 7293034; omega⟩ rfl rfl rfl (fun H locs hP1 hz hfr hS => ?_)
  obtain ⟨hP, hD⟩ := z_seg (l1 := w ++ [oC O y g]) (w := zw) (w1 := zw1) (l2 := []) (ws1 := ((w ++ [oC O y g]) ++ zw1)) hP hD (by rw [List.append_nil]) (by rw [List.append_nil]) hadz hP1 hfr
  refine lv_dstore (lv' := [(7, .double v), (5, .double v), (4, .int (nI i)), (3, .ref O), (2, .ref Y0), (1, .ref X0), (0, .ref b)]) hx hb dL_law_1222 hl (by decide) rfl (fun ls hl => ?_)
  have last : W p l e room_1 s m #[Value.ref b] below meth c H locs (cells + mc) (slots + ms) Q (F0 m 1250 ls []) := by
    refine lv_goto (tgt := 1267) hx hb dL_law_1250 (by decide) ?_
    refine W.widen (k := cells + 58) (n := slots + 484) (by omega) (by omega) ?_
    exact kk H locs ls hP hD hS (lv_sub hl [2, 3, 4, 5, 6] rfl)
  refine lv_dload hx hb dL_law_1224 (lv_at hl 1 rfl) ?_
  refine lv_dload hx hb dL_law_1226 (lv_at hl 0 rfl) ?_
  refine lv_dcmp hx hb dL_law_1228 ?_
  refine lv_if_eq (tgt := 1250) hx hb dL_law_1229 (by decide) (fun _ => last) (fun c8 => ?_)
  refine lv_dload hx hb dL_law_1232 (lv_at hl 1 rfl) ?_
  refine lv_dload hx hb dL_law_1234 (lv_at hl 1 rfl) ?_
  refine lv_dcmp hx hb dL_law_1236 ?_
  refine lv_if_eq (tgt := 1248) hx hb dL_law_1237 (by decide) (fun c9 => absurd c9 c8) (fun _ => ?_)
  refine lv_dload hx hb dL_law_1240 (lv_at hl 0 rfl) ?_
  refine lv_dload hx hb dL_law_1242 (lv_at hl 0 rfl) ?_
  refine lv_dcmp hx hb dL_law_1244 ?_
  exact lv_if_ne (tgt := 1250) hx hb dL_law_1245 (by decide) (fun _ => last) (fun c9 => absurd c9 c8)
