set_option maxHeartbeats 1000000 in
set_option maxRecDepth 100000 in
theorem seg_count {p : Program} {e : Env} {s : State} {m : MethodId} {below : List Frame} {meth : Method} {c : Code} {Q : State → Prop} (l : Launch) {b L : Nat} {xs : Nat → Int32} {D : va_G} {y : Nat → ClassId} (C : LCtx p s m c b L xs D y) {i : Nat} (hi : i + 4 ≤ L) {X0 Y0 O : Nat} {a1 : Int32} (e1 : xs (i + 1) = a1)
    {w w1 zw zw1 : va_W} {g g1 : Nat → Int64} {k v : Int32} {rm : Room} {mc ms : Nat}
    (hH : ∀ sz, zH l yL_count wsL_count D y [.ref X0, .int a1, .ref O] (w ++ [oC O y g]) sz k (w1 ++ [oC O y g1]))
    (hM : ∀ sz, zMN l yX5_count wsX5_count rm D y [.ref Y0, .int a1] zw sz (some (.int v)) zw1 mc ms) (hrc : rm.cells = mc) (hrs : rm.slots = ms) (hrm : rm.frames ≤ 8 ∧ rm.locals ≤ 200 ∧ mc ≤ 57 ∧ ms ≤ 400)
    (hT : zR l yX5_thrown wsX5_thrown { frames := 0, cells := 0, slots := 0, locals := 0 } D y [.ref Y0] zw1 (some (.int k))) (hv : k = 0 → g1 (0 : Int32).toNatClampNeg = v.toInt64)
    {fs fs1 : List Value} (h0 : zw[0]? = some (Y0, .inr (5, fs))) (h01 : zw1[0]? = some (Y0, .inr (5, fs1))) (had : w1.map Prod.fst = w.map Prod.fst) (hadz : zw1.map Prod.fst = zw.map Prod.fst)
    {H : Heap} {locs : List Loc} {ls : Array Slot} {cells slots : Nat} (hc : cells + 58 ≤ 601024 ∧ slots + 484 ≤ 7293034) (hP : va_P D vwCl ((w ++ [oC O y g]) ++ zw) H) (hD : va_D (lA s) ((w ++ [oC O y g]) ++ zw)) (hS : va_S (lA s) s.heap H locs) (hl : lv_has ls 9 [(4, .int (nI i)), (3, .ref O), (2, .ref Y0), (1, .ref X0), (0, .ref b)])
    (kk : ∀ (H1 : Heap) (locs1 : List Loc) (ls1 : Array Slot), va_P D vwCl ((w1 ++ [oC O y g1]) ++ zw1) H1 → va_D (lA s) ((w1 ++ [oC O y g1]) ++ zw1) → va_S (lA s) s.heap H1 locs1 → lv_has ls1 9 [(4, .int (nI i)), (3, .ref O), (2, .ref Y0), (1, .ref X0), (0, .ref b)] → W p l e room_1 s m #[Value.ref b] below meth c H1 locs1 (cells + 58) (slots + 484) Q (F0 m 1267 ls1 [])) : W p l e room_1 s m #[Value.ref b] below meth c H locs cells slots Q (F0 m 727 ls []) := by
  have hx := C.hx
  have hb := C.hb
  have hml := C.hml
  have hown := C.hown
  have hts := C.hts
  have hK := C.hK
  have hA : ∀ q : Nat, s.heap.size ≤ q → lA s q := fun q h => h
  have had2 : (w1 ++ [oC O y g1]).map Prod.fst = (w ++ [oC O y g]).map Prod.fst := by rw [List.map_append, List.map_append, had]; rfl
  refine lv_aload_n hx hb dL_law_727 rfl (lv_at hl 3 rfl) ?_
  refine l_arg (j := 1) (J := 1) C e1 (by omega) (by decide) dL_law_728 dL_law_729 dL_law_731 dL_law_732 dL_law_733 hS (lv_at hl 4 rfl) (lv_at hl 0 rfl) ?_
  refine lv_aload_n hx hb dL_law_734 rfl (lv_at hl 1 rfl) ?_
  refine zcHS (As := [.ref X0, .int a1, .ref O]) (rest := []) (st1 := [.int k]) (cells1 := cells + 1) (slots1 := slots + 6) (w := w ++ [oC O y g]) ⟨hx, hb, hml, hown, hts⟩ (hH _) (vx_cwSW 3 hts tL_count rfl rfl rfl (by decide +kernel) ⟨(Nat.le_of_ble_eq_true rfl), (Nat.le_of_ble_eq_true rfl)⟩) (C.hX9 hS) hK (z_sub_P hP (fun z h => List.mem_append_left _ h)) (z_D_m (l1 := []) (l2 := zw) hD) rfl hl.1 rfl (lv_room (Nat.le_of_ble_eq_true rfl)) dL_law_735 hS (z_sub_F hD hS hA (fun z h => List.mem_append_left _ h)) ⟨by show cells + 1 ≤ 601024; omega, by show slots + 6 ≤ 7293034; omega⟩ rfl rfl rfl (fun H locs hP1 hz hfr hS => ?_)
  obtain ⟨hP, hD⟩ := z_seg (l1 := []) (w := w ++ [oC O y g]) (w1 := w1 ++ [oC O y g1]) (l2 := zw) (ws1 := ((w1 ++ [oC O y g1]) ++ zw)) hP hD rfl rfl had2 hP1 hfr
  refine lv_istore (lv' := [(5, .int k), (4, .int (nI i)), (3, .ref O), (2, .ref Y0), (1, .ref X0), (0, .ref b)]) hx hb dL_law_738 hl (by decide) rfl (fun ls hl => ?_)
  refine lv_aload_n hx hb dL_law_740 rfl (lv_at hl 3 rfl) ?_
  refine l_arg (j := 1) (J := 1) C e1 (by omega) (by decide) dL_law_741 dL_law_742 dL_law_744 dL_law_745 dL_law_746 hS (lv_at hl 5 rfl) (lv_at hl 1 rfl) ?_
  refine zcNMV (As := [.int a1]) (rest := []) (st1 := [.int v]) (cells1 := cells + 1 + mc) (slots1 := slots + 6 + ms) (w := zw) ⟨hx, hb, hml, hown, hts⟩ (hM _) (cwV 1 hts tX5_count rfl hrc hrs (by decide +kernel) ⟨by show rm.frames + 1 ≤ 10; omega, by show 8 + (2 + 11) + rm.locals ≤ 372; omega⟩) C.hN hK (z_sub_P hP (fun z h => List.mem_append_right _ h)) (z_D_m (l1 := w1 ++ [oC O y g1]) (l2 := []) (by rw [List.append_nil]; exact hD)) (ci := 5) (q0 := 0) rfl rfl h0 rfl hl.1 rfl (lv_room (Nat.le_of_ble_eq_true rfl)) dL_law_747 hS (z_sub_F hD hS hA (fun z h => List.mem_append_right _ h)) ⟨by show cells + 1 + mc ≤ 601024; omega, by show slots + 6 + ms ≤ 7293034; omega⟩ rfl rfl rfl (fun H locs hP1 hz hfr hS => ?_)
  obtain ⟨hP, hD⟩ := z_seg (l1 := w1 ++ [oC O y g1]) (w := zw) (w1 := zw1) (l2 := []) (ws1 := ((w1 ++ [oC O y g1]) ++ zw1)) hP hD (by rw [List.append_nil]) (by rw [List.append_nil]) hadz hP1 hfr
  refine lv_istore (lv' := [(6, .int v), (5, .int k), (4, .int (nI i)), (3, .ref O), (2, .ref Y0), (1, .ref X0), (0, .ref b)]) hx hb dL_law_750 hl (by decide) rfl (fun ls hl => ?_)
  refine lv_aload_n hx hb dL_law_752 rfl (lv_at hl 4 rfl) ?_
  refine zcRV (As := []) (rest := []) (st1 := [.int k]) (w := zw1) ⟨hx, hb, hml, hown, hts⟩ hT (cwV 0 hts tX5_thrown rfl rfl rfl (by decide +kernel) ⟨(Nat.le_of_ble_eq_true rfl), (Nat.le_of_ble_eq_true rfl)⟩) hK (z_sub_P hP (fun z h => List.mem_append_right _ h)) (ci := 5) (q0 := 0) rfl rfl h01 rfl hl.1 rfl (lv_room (Nat.le_of_ble_eq_true rfl)) dL_law_753 ⟨by show cells + 1 + mc ≤ 601024; omega, by show slots + 6 + ms ≤ 7293034; omega⟩ rfl ?_
  refine lv_iload hx hb dL_law_756 (lv_at hl 1 rfl) ?_
  refine lv_icmp_eq (tgt := 763) hx hb dL_law_758 (by decide) (fun _ => ?_) (fun c9 => absurd rfl c9)
  refine lv_iload hx hb dL_law_763 (lv_at hl 1 rfl) ?_
  have last : ∀ ls : Array Slot, lv_has ls 9 [(6, .int v), (5, .int k), (4, .int (nI i)), (3, .ref O), (2, .ref Y0), (1, .ref X0), (0, .ref b)] → W p l e room_1 s m #[Value.ref b] below meth c H locs (cells + 1 + mc) (slots + 6 + ms) Q (F0 m 780 ls []) := by
    intro ls hl
    refine lv_goto (tgt := 1267) hx hb dL_law_780 (by decide) ?_
    refine W.widen (k := cells + 58) (n := slots + 484) (by omega) (by omega) ?_
    exact kk H locs ls hP hD hS (lv_sub hl [2, 3, 4, 5, 6] rfl)
  refine lv_if_ne (tgt := 780) hx hb dL_law_765 (by decide) (fun _ => last ls hl) (fun c9 => ?_)
  have k0 : k = 0 := c9
  refine lv_aload_n hx hb dL_law_768 rfl (lv_at hl 3 rfl) ?_
  refine lv_iconst (v := 0) hx hb dL_law_769 (by decide) ?_
  refine va_lald hx hb hK (ws := [oC O y g1]) (z_sub_P hP (fun z h => List.mem_append_left _ (List.mem_append_right _ h))) 0 3 rfl rfl (i := 0) (by unfold vp_in; decide) dL_law_770 ?_
  rw [hv k0]
  refine lv_iload hx hb dL_law_771 (lv_at hl 0 rfl) ?_
  refine lv_i2l (v := v.toInt64) hx hb dL_law_773 rfl ?_
  refine lv_lcmp0 hx hb dL_law_774 ?_
  exact lv_if_eq (tgt := 780) hx hb dL_law_775 (by decide) (fun _ => last ls hl) (fun c9 => absurd rfl c9)
set_option maxHeartbeats 1000000 in
set_option maxRecDepth 100000 in
theorem seg_hinders {p : Program} {e : Env} {s : State} {m : MethodId} {below : List Frame} {meth : Method} {c : Code} {Q : State → Prop} (l : Launch) {b L : Nat} {xs : Nat → Int32} {D : va_G} {y : Nat → ClassId} (C : LCtx p s m c b L xs D y) {i : Nat} (hi : i + 4 ≤ L) {X0 Y0 O : Nat} {a1 : Int32} (e1 : xs (i + 1) = a1)
    {w w1 zw zw1 : va_W} {g g1 : Nat → Int64} {k v : Int32} {rm : Room} {mc ms : Nat}
    (hH : ∀ sz, zH l yL_hinders wsL_hinders D y [.ref X0, .int a1, .ref O] (w ++ [oC O y g]) sz k (w1 ++ [oC O y g1]))
    (hM : ∀ sz, zMN l yX5_hinders wsX5_hinders rm D y [.ref Y0, .int a1] zw sz (some (.int v)) zw1 mc ms) (hrc : rm.cells = mc) (hrs : rm.slots = ms) (hrm : rm.frames ≤ 8 ∧ rm.locals ≤ 200 ∧ mc ≤ 57 ∧ ms ≤ 400)
    (hT : zR l yX5_thrown wsX5_thrown { frames := 0, cells := 0, slots := 0, locals := 0 } D y [.ref Y0] zw1 (some (.int k))) (hv : k = 0 → g1 (0 : Int32).toNatClampNeg = v.toInt64)
    {fs fs1 : List Value} (h0 : zw[0]? = some (Y0, .inr (5, fs))) (h01 : zw1[0]? = some (Y0, .inr (5, fs1))) (had : w1.map Prod.fst = w.map Prod.fst) (hadz : zw1.map Prod.fst = zw.map Prod.fst)
    {H : Heap} {locs : List Loc} {ls : Array Slot} {cells slots : Nat} (hc : cells + 58 ≤ 601024 ∧ slots + 484 ≤ 7293034) (hP : va_P D vwCl ((w ++ [oC O y g]) ++ zw) H) (hD : va_D (lA s) ((w ++ [oC O y g]) ++ zw)) (hS : va_S (lA s) s.heap H locs) (hl : lv_has ls 9 [(4, .int (nI i)), (3, .ref O), (2, .ref Y0), (1, .ref X0), (0, .ref b)])
    (kk : ∀ (H1 : Heap) (locs1 : List Loc) (ls1 : Array Slot), va_P D vwCl ((w1 ++ [oC O y g1]) ++ zw1) H1 → va_D (lA s) ((w1 ++ [oC O y g1]) ++ zw1) → va_S (lA s) s.heap H1 locs1 → lv_has ls1 9 [(4, .int (nI i)), (3, .ref O), (2, .ref Y0), (1, .ref X0), (0, .ref b)] → W p l e room_1 s m #[Value.ref b] below meth c H1 locs1 (cells + 58) (slots + 484) Q (F0 m 1267 ls1 [])) : W p l e room_1 s m #[Value.ref b] below meth c H locs cells slots Q (F0 m 783 ls []) := by
  have hx := C.hx
  have hb := C.hb
  have hml := C.hml
  have hown := C.hown
  have hts := C.hts
  have hK := C.hK
  have hA : ∀ q : Nat, s.heap.size ≤ q → lA s q := fun q h => h
  have had2 : (w1 ++ [oC O y g1]).map Prod.fst = (w ++ [oC O y g]).map Prod.fst := by rw [List.map_append, List.map_append, had]; rfl
  refine lv_aload_n hx hb dL_law_783 rfl (lv_at hl 3 rfl) ?_
  refine l_arg (j := 1) (J := 1) C e1 (by omega) (by decide) dL_law_784 dL_law_785 dL_law_787 dL_law_788 dL_law_789 hS (lv_at hl 4 rfl) (lv_at hl 0 rfl) ?_
  refine lv_aload_n hx hb dL_law_790 rfl (lv_at hl 1 rfl) ?_
  refine zcHS (As := [.ref X0, .int a1, .ref O]) (rest := []) (st1 := [.int k]) (cells1 := cells + 1) (slots1 := slots + 6) (w := w ++ [oC O y g]) ⟨hx, hb, hml, hown, hts⟩ (hH _) (vx_cwSW 3 hts tL_hinders rfl rfl rfl (by decide +kernel) ⟨(Nat.le_of_ble_eq_true rfl), (Nat.le_of_ble_eq_true rfl)⟩) (C.hX9 hS) hK (z_sub_P hP (fun z h => List.mem_append_left _ h)) (z_D_m (l1 := []) (l2 := zw) hD) rfl hl.1 rfl (lv_room (Nat.le_of_ble_eq_true rfl)) dL_law_791 hS (z_sub_F hD hS hA (fun z h => List.mem_append_left _ h)) ⟨by show cells + 1 ≤ 601024; omega, by show slots + 6 ≤ 7293034; omega⟩ rfl rfl rfl (fun H locs hP1 hz hfr hS => ?_)
  obtain ⟨hP, hD⟩ := z_seg (l1 := []) (w := w ++ [oC O y g]) (w1 := w1 ++ [oC O y g1]) (l2 := zw) (ws1 := ((w1 ++ [oC O y g1]) ++ zw)) hP hD rfl rfl had2 hP1 hfr
  refine lv_istore (lv' := [(5, .int k), (4, .int (nI i)), (3, .ref O), (2, .ref Y0), (1, .ref X0), (0, .ref b)]) hx hb dL_law_794 hl (by decide) rfl (fun ls hl => ?_)
  refine lv_aload_n hx hb dL_law_796 rfl (lv_at hl 3 rfl) ?_
  refine l_arg (j := 1) (J := 1) C e1 (by omega) (by decide) dL_law_797 dL_law_798 dL_law_800 dL_law_801 dL_law_802 hS (lv_at hl 5 rfl) (lv_at hl 1 rfl) ?_
  refine zcNMV (As := [.int a1]) (rest := []) (st1 := [.int v]) (cells1 := cells + 1 + mc) (slots1 := slots + 6 + ms) (w := zw) ⟨hx, hb, hml, hown, hts⟩ (hM _) (cwV 1 hts tX5_hinders rfl hrc hrs (by decide +kernel) ⟨by show rm.frames + 1 ≤ 10; omega, by show 8 + (4 + 11) + rm.locals ≤ 372; omega⟩) C.hN hK (z_sub_P hP (fun z h => List.mem_append_right _ h)) (z_D_m (l1 := w1 ++ [oC O y g1]) (l2 := []) (by rw [List.append_nil]; exact hD)) (ci := 5) (q0 := 0) rfl rfl h0 rfl hl.1 rfl (lv_room (Nat.le_of_ble_eq_true rfl)) dL_law_803 hS (z_sub_F hD hS hA (fun z h => List.mem_append_right _ h)) ⟨by show cells + 1 + mc ≤ 601024; omega, by show slots + 6 + ms ≤ 7293034; omega⟩ rfl rfl rfl (fun H locs hP1 hz hfr hS => ?_)
  obtain ⟨hP, hD⟩ := z_seg (l1 := w1 ++ [oC O y g1]) (w := zw) (w1 := zw1) (l2 := []) (ws1 := ((w1 ++ [oC O y g1]) ++ zw1)) hP hD (by rw [List.append_nil]) (by rw [List.append_nil]) hadz hP1 hfr
  refine lv_istore (lv' := [(6, .int v), (5, .int k), (4, .int (nI i)), (3, .ref O), (2, .ref Y0), (1, .ref X0), (0, .ref b)]) hx hb dL_law_806 hl (by decide) rfl (fun ls hl => ?_)
  refine lv_aload_n hx hb dL_law_808 rfl (lv_at hl 4 rfl) ?_
  refine zcRV (As := []) (rest := []) (st1 := [.int k]) (w := zw1) ⟨hx, hb, hml, hown, hts⟩ hT (cwV 0 hts tX5_thrown rfl rfl rfl (by decide +kernel) ⟨(Nat.le_of_ble_eq_true rfl), (Nat.le_of_ble_eq_true rfl)⟩) hK (z_sub_P hP (fun z h => List.mem_append_right _ h)) (ci := 5) (q0 := 0) rfl rfl h01 rfl hl.1 rfl (lv_room (Nat.le_of_ble_eq_true rfl)) dL_law_809 ⟨by show cells + 1 + mc ≤ 601024; omega, by show slots + 6 + ms ≤ 7293034; omega⟩ rfl ?_
  refine lv_iload hx hb dL_law_812 (lv_at hl 1 rfl) ?_
  refine lv_icmp_eq (tgt := 819) hx hb dL_law_814 (by decide) (fun _ => ?_) (fun c9 => absurd rfl c9)
  refine lv_iload hx hb dL_law_819 (lv_at hl 1 rfl) ?_
  have last : ∀ ls : Array Slot, lv_has ls 9 [(6, .int v), (5, .int k), (4, .int (nI i)), (3, .ref O), (2, .ref Y0), (1, .ref X0), (0, .ref b)] → W p l e room_1 s m #[Value.ref b] below meth c H locs (cells + 1 + mc) (slots + 6 + ms) Q (F0 m 836 ls []) := by
    intro ls hl
    refine lv_goto (tgt := 1267) hx hb dL_law_836 (by decide) ?_
    refine W.widen (k := cells + 58) (n := slots + 484) (by omega) (by omega) ?_
    exact kk H locs ls hP hD hS (lv_sub hl [2, 3, 4, 5, 6] rfl)
  refine lv_if_ne (tgt := 836) hx hb dL_law_821 (by decide) (fun _ => last ls hl) (fun c9 => ?_)
  have k0 : k = 0 := c9
  refine lv_aload_n hx hb dL_law_824 rfl (lv_at hl 3 rfl) ?_
  refine lv_iconst (v := 0) hx hb dL_law_825 (by decide) ?_
  refine va_lald hx hb hK (ws := [oC O y g1]) (z_sub_P hP (fun z h => List.mem_append_left _ (List.mem_append_right _ h))) 0 3 rfl rfl (i := 0) (by unfold vp_in; decide) dL_law_826 ?_
  rw [hv k0]
  refine lv_iload hx hb dL_law_827 (lv_at hl 0 rfl) ?_
  refine lv_i2l (v := v.toInt64) hx hb dL_law_829 rfl ?_
  refine lv_lcmp0 hx hb dL_law_830 ?_
  exact lv_if_eq (tgt := 836) hx hb dL_law_831 (by decide) (fun _ => last ls hl) (fun c9 => absurd rfl c9)
set_option maxHeartbeats 1000000 in
set_option maxRecDepth 100000 in
theorem seg_pass {p : Program} {e : Env} {s : State} {m : MethodId} {below : List Frame} {meth : Method} {c : Code} {Q : State → Prop} (l : Launch) {b L : Nat} {xs : Nat → Int32} {D : va_G} {y : Nat → ClassId} (C : LCtx p s m c b L xs D y) {i : Nat} (hi : i + 4 ≤ L) {X0 Y0 O : Nat} {a1 : Int32} (e1 : xs (i + 1) = a1)
    {w w1 zw zw1 : va_W} {g g1 : Nat → Int64} {k v : Int32} {rm : Room} {mc ms : Nat}
    (hH : ∀ sz, zH l yL_pass wsL_pass D y [.ref X0, .int a1, .ref O] (w ++ [oC O y g]) sz k (w1 ++ [oC O y g1]))
    (hM : ∀ sz, zMN l yX5_pass wsX5_pass rm D y [.ref Y0, .int a1] zw sz (some (.int v)) zw1 mc ms) (hrc : rm.cells = mc) (hrs : rm.slots = ms) (hrm : rm.frames ≤ 8 ∧ rm.locals ≤ 200 ∧ mc ≤ 57 ∧ ms ≤ 400)
    (hT : zR l yX5_thrown wsX5_thrown { frames := 0, cells := 0, slots := 0, locals := 0 } D y [.ref Y0] zw1 (some (.int k))) (hv : k = 0 → g1 (0 : Int32).toNatClampNeg = v.toInt64)
    {fs fs1 : List Value} (h0 : zw[0]? = some (Y0, .inr (5, fs))) (h01 : zw1[0]? = some (Y0, .inr (5, fs1))) (had : w1.map Prod.fst = w.map Prod.fst) (hadz : zw1.map Prod.fst = zw.map Prod.fst)
    {H : Heap} {locs : List Loc} {ls : Array Slot} {cells slots : Nat} (hc : cells + 58 ≤ 601024 ∧ slots + 484 ≤ 7293034) (hP : va_P D vwCl ((w ++ [oC O y g]) ++ zw) H) (hD : va_D (lA s) ((w ++ [oC O y g]) ++ zw)) (hS : va_S (lA s) s.heap H locs) (hl : lv_has ls 9 [(4, .int (nI i)), (3, .ref O), (2, .ref Y0), (1, .ref X0), (0, .ref b)])
    (kk : ∀ (H1 : Heap) (locs1 : List Loc) (ls1 : Array Slot), va_P D vwCl ((w1 ++ [oC O y g1]) ++ zw1) H1 → va_D (lA s) ((w1 ++ [oC O y g1]) ++ zw1) → va_S (lA s) s.heap H1 locs1 → lv_has ls1 9 [(4, .int (nI i)), (3, .ref O), (2, .ref Y0), (1, .ref X0), (0, .ref b)] → W p l e room_1 s m #[Value.ref b] below meth c H1 locs1 (cells + 58) (slots + 484) Q (F0 m 1267 ls1 [])) : W p l e room_1 s m #[Value.ref b] below meth c H locs cells slots Q (F0 m 852 ls []) := by
  have hx := C.hx
  have hb := C.hb
  have hml := C.hml
  have hown := C.hown
  have hts := C.hts
  have hK := C.hK
  have hA : ∀ q : Nat, s.heap.size ≤ q → lA s q := fun q h => h
  have had2 : (w1 ++ [oC O y g1]).map Prod.fst = (w ++ [oC O y g]).map Prod.fst := by rw [List.map_append, List.map_append, had]; rfl
  refine lv_aload_n hx hb dL_law_852 rfl (lv_at hl 3 rfl) ?_
  refine l_arg (j := 1) (J := 1) C e1 (by omega) (by decide) dL_law_853 dL_law_854 dL_law_856 dL_law_857 dL_law_858 hS (lv_at hl 4 rfl) (lv_at hl 0 rfl) ?_
  refine lv_aload_n hx hb dL_law_859 rfl (lv_at hl 1 rfl) ?_
  refine zcHS (As := [.ref X0, .int a1, .ref O]) (rest := []) (st1 := [.int k]) (cells1 := cells + 1) (slots1 := slots + 6) (w := w ++ [oC O y g]) ⟨hx, hb, hml, hown, hts⟩ (hH _) (vx_cwSW 3 hts tL_pass rfl rfl rfl (by decide +kernel) ⟨(Nat.le_of_ble_eq_true rfl), (Nat.le_of_ble_eq_true rfl)⟩) (C.hX9 hS) hK (z_sub_P hP (fun z h => List.mem_append_left _ h)) (z_D_m (l1 := []) (l2 := zw) hD) rfl hl.1 rfl (lv_room (Nat.le_of_ble_eq_true rfl)) dL_law_860 hS (z_sub_F hD hS hA (fun z h => List.mem_append_left _ h)) ⟨by show cells + 1 ≤ 601024; omega, by show slots + 6 ≤ 7293034; omega⟩ rfl rfl rfl (fun H locs hP1 hz hfr hS => ?_)
  obtain ⟨hP, hD⟩ := z_seg (l1 := []) (w := w ++ [oC O y g]) (w1 := w1 ++ [oC O y g1]) (l2 := zw) (ws1 := ((w1 ++ [oC O y g1]) ++ zw)) hP hD rfl rfl had2 hP1 hfr
  refine lv_istore (lv' := [(5, .int k), (4, .int (nI i)), (3, .ref O), (2, .ref Y0), (1, .ref X0), (0, .ref b)]) hx hb dL_law_863 hl (by decide) rfl (fun ls hl => ?_)
  refine lv_aload_n hx hb dL_law_865 rfl (lv_at hl 3 rfl) ?_
  refine l_arg (j := 1) (J := 1) C e1 (by omega) (by decide) dL_law_866 dL_law_867 dL_law_869 dL_law_870 dL_law_871 hS (lv_at hl 5 rfl) (lv_at hl 1 rfl) ?_
  refine zcNMV (As := [.int a1]) (rest := []) (st1 := [.int v]) (cells1 := cells + 1 + mc) (slots1 := slots + 6 + ms) (w := zw) ⟨hx, hb, hml, hown, hts⟩ (hM _) (cwV 1 hts tX5_pass rfl hrc hrs (by decide +kernel) ⟨by show rm.frames + 1 ≤ 10; omega, by show 8 + (3 + 11) + rm.locals ≤ 372; omega⟩) C.hN hK (z_sub_P hP (fun z h => List.mem_append_right _ h)) (z_D_m (l1 := w1 ++ [oC O y g1]) (l2 := []) (by rw [List.append_nil]; exact hD)) (ci := 5) (q0 := 0) rfl rfl h0 rfl hl.1 rfl (lv_room (Nat.le_of_ble_eq_true rfl)) dL_law_872 hS (z_sub_F hD hS hA (fun z h => List.mem_append_right _ h)) ⟨by show cells + 1 + mc ≤ 601024; omega, by show slots + 6 + ms ≤ 7293034; omega⟩ rfl rfl rfl (fun H locs hP1 hz hfr hS => ?_)
  obtain ⟨hP, hD⟩ := z_seg (l1 := w1 ++ [oC O y g1]) (w := zw) (w1 := zw1) (l2 := []) (ws1 := ((w1 ++ [oC O y g1]) ++ zw1)) hP hD (by rw [List.append_nil]) (by rw [List.append_nil]) hadz hP1 hfr
  refine lv_istore (lv' := [(6, .int v), (5, .int k), (4, .int (nI i)), (3, .ref O), (2, .ref Y0), (1, .ref X0), (0, .ref b)]) hx hb dL_law_875 hl (by decide) rfl (fun ls hl => ?_)
  refine lv_aload_n hx hb dL_law_877 rfl (lv_at hl 4 rfl) ?_
  refine zcRV (As := []) (rest := []) (st1 := [.int k]) (w := zw1) ⟨hx, hb, hml, hown, hts⟩ hT (cwV 0 hts tX5_thrown rfl rfl rfl (by decide +kernel) ⟨(Nat.le_of_ble_eq_true rfl), (Nat.le_of_ble_eq_true rfl)⟩) hK (z_sub_P hP (fun z h => List.mem_append_right _ h)) (ci := 5) (q0 := 0) rfl rfl h01 rfl hl.1 rfl (lv_room (Nat.le_of_ble_eq_true rfl)) dL_law_878 ⟨by show cells + 1 + mc ≤ 601024; omega, by show slots + 6 + ms ≤ 7293034; omega⟩ rfl ?_
  refine lv_iload hx hb dL_law_881 (lv_at hl 1 rfl) ?_
  refine lv_icmp_eq (tgt := 888) hx hb dL_law_883 (by decide) (fun _ => ?_) (fun c9 => absurd rfl c9)
  refine lv_iload hx hb dL_law_888 (lv_at hl 1 rfl) ?_
  have last : ∀ ls : Array Slot, lv_has ls 9 [(6, .int v), (5, .int k), (4, .int (nI i)), (3, .ref O), (2, .ref Y0), (1, .ref X0), (0, .ref b)] → W p l e room_1 s m #[Value.ref b] below meth c H locs (cells + 1 + mc) (slots + 6 + ms) Q (F0 m 905 ls []) := by
    intro ls hl
    refine lv_goto (tgt := 1267) hx hb dL_law_905 (by decide) ?_
    refine W.widen (k := cells + 58) (n := slots + 484) (by omega) (by omega) ?_
    exact kk H locs ls hP hD hS (lv_sub hl [2, 3, 4, 5, 6] rfl)
  refine lv_if_ne (tgt := 905) hx hb dL_law_890 (by decide) (fun _ => last ls hl) (fun c9 => ?_)
  have k0 : k = 0 := c9
  refine lv_aload_n hx hb dL_law_893 rfl (lv_at hl 3 rfl) ?_
  refine lv_iconst (v := 0) hx hb dL_law_894 (by decide) ?_
  refine va_lald hx hb hK (ws := [oC O y g1]) (z_sub_P hP (fun z h => List.mem_append_left _ (List.mem_append_right _ h))) 0 3 rfl rfl (i := 0) (by unfold vp_in; decide) dL_law_895 ?_
  rw [hv k0]
  refine lv_iload hx hb dL_law_896 (lv_at hl 0 rfl) ?_
  refine lv_i2l (v := v.toInt64) hx hb dL_law_898 rfl ?_
  refine lv_lcmp0 hx hb dL_law_899 ?_
  exact lv_if_eq (tgt := 905) hx hb dL_law_900 (by decide) (fun _ => last ls hl) (fun c9 => absurd rfl c9)
set_option maxHeartbeats 1000000 in
set_option maxRecDepth 100000 in
theorem seg_catches {p : Program} {e : Env} {s : State} {m : MethodId} {below : List Frame} {meth : Method} {c : Code} {Q : State → Prop} (l : Launch) {b L : Nat} {xs : Nat → Int32} {D : va_G} {y : Nat → ClassId} (C : LCtx p s m c b L xs D y) {i : Nat} (hi : i + 4 ≤ L) {X0 Y0 O : Nat} {a1 : Int32} (e1 : xs (i + 1) = a1)
    {w w1 zw zw1 : va_W} {g g1 : Nat → Int64} {k v : Int32} {rm : Room} {mc ms : Nat}
    (hH : ∀ sz, zH l yL_catches wsL_catches D y [.ref X0, .int a1, .ref O] (w ++ [oC O y g]) sz k (w1 ++ [oC O y g1]))
    (hM : ∀ sz, zMN l yX5_catches wsX5_catches rm D y [.ref Y0, .int a1] zw sz (some (.int v)) zw1 mc ms) (hrc : rm.cells = mc) (hrs : rm.slots = ms) (hrm : rm.frames ≤ 8 ∧ rm.locals ≤ 200 ∧ mc ≤ 57 ∧ ms ≤ 400)
    (hT : zR l yX5_thrown wsX5_thrown { frames := 0, cells := 0, slots := 0, locals := 0 } D y [.ref Y0] zw1 (some (.int k))) (hv : k = 0 → g1 (0 : Int32).toNatClampNeg = v.toInt64)
    {fs fs1 : List Value} (h0 : zw[0]? = some (Y0, .inr (5, fs))) (h01 : zw1[0]? = some (Y0, .inr (5, fs1))) (had : w1.map Prod.fst = w.map Prod.fst) (hadz : zw1.map Prod.fst = zw.map Prod.fst)
    {H : Heap} {locs : List Loc} {ls : Array Slot} {cells slots : Nat} (hc : cells + 58 ≤ 601024 ∧ slots + 484 ≤ 7293034) (hP : va_P D vwCl ((w ++ [oC O y g]) ++ zw) H) (hD : va_D (lA s) ((w ++ [oC O y g]) ++ zw)) (hS : va_S (lA s) s.heap H locs) (hl : lv_has ls 9 [(4, .int (nI i)), (3, .ref O), (2, .ref Y0), (1, .ref X0), (0, .ref b)])
    (kk : ∀ (H1 : Heap) (locs1 : List Loc) (ls1 : Array Slot), va_P D vwCl ((w1 ++ [oC O y g1]) ++ zw1) H1 → va_D (lA s) ((w1 ++ [oC O y g1]) ++ zw1) → va_S (lA s) s.heap H1 locs1 → lv_has ls1 9 [(4, .int (nI i)), (3, .ref O), (2, .ref Y0), (1, .ref X0), (0, .ref b)] → W p l e room_1 s m #[Value.ref b] below meth c H1 locs1 (cells + 58) (slots + 484) Q (F0 m 1267 ls1 [])) : W p l e room_1 s m #[Value.ref b] below meth c H locs cells slots Q (F0 m 908 ls []) := by
  have hx := C.hx
  have hb := C.hb
  have hml := C.hml
  have hown := C.hown
  have hts := C.hts
  have hK := C.hK
  have hA : ∀ q : Nat, s.heap.size ≤ q → lA s q := fun q h => h
  have had2 : (w1 ++ [oC O y g1]).map Prod.fst = (w ++ [oC O y g]).map Prod.fst := by rw [List.map_append, List.map_append, had]; rfl
  refine lv_aload_n hx hb dL_law_908 rfl (lv_at hl 3 rfl) ?_
  refine l_arg (j := 1) (J := 1) C e1 (by omega) (by decide) dL_law_909 dL_law_910 dL_law_912 dL_law_913 dL_law_914 hS (lv_at hl 4 rfl) (lv_at hl 0 rfl) ?_
  refine lv_aload_n hx hb dL_law_915 rfl (lv_at hl 1 rfl) ?_
  refine zcHS (As := [.ref X0, .int a1, .ref O]) (rest := []) (st1 := [.int k]) (cells1 := cells + 1) (slots1 := slots + 6) (w := w ++ [oC O y g]) ⟨hx, hb, hml, hown, hts⟩ (hH _) (vx_cwSW 3 hts tL_catches rfl rfl rfl (by decide +kernel) ⟨(Nat.le_of_ble_eq_true rfl), (Nat.le_of_ble_eq_true rfl)⟩) (C.hX9 hS) hK (z_sub_P hP (fun z h => List.mem_append_left _ h)) (z_D_m (l1 := []) (l2 := zw) hD) rfl hl.1 rfl (lv_room (Nat.le_of_ble_eq_true rfl)) dL_law_916 hS (z_sub_F hD hS hA (fun z h => List.mem_append_left _ h)) ⟨by show cells + 1 ≤ 601024; omega, by show slots + 6 ≤ 7293034; omega⟩ rfl rfl rfl (fun H locs hP1 hz hfr hS => ?_)
  obtain ⟨hP, hD⟩ := z_seg (l1 := []) (w := w ++ [oC O y g]) (w1 := w1 ++ [oC O y g1]) (l2 := zw) (ws1 := ((w1 ++ [oC O y g1]) ++ zw)) hP hD rfl rfl had2 hP1 hfr
  refine lv_istore (lv' := [(5, .int k), (4, .int (nI i)), (3, .ref O), (2, .ref Y0), (1, .ref X0), (0, .ref b)]) hx hb dL_law_919 hl (by decide) rfl (fun ls hl => ?_)
  refine lv_aload_n hx hb dL_law_921 rfl (lv_at hl 3 rfl) ?_
  refine l_arg (j := 1) (J := 1) C e1 (by omega) (by decide) dL_law_922 dL_law_923 dL_law_925 dL_law_926 dL_law_927 hS (lv_at hl 5 rfl) (lv_at hl 1 rfl) ?_
  refine zcNMV (As := [.int a1]) (rest := []) (st1 := [.int v]) (cells1 := cells + 1 + mc) (slots1 := slots + 6 + ms) (w := zw) ⟨hx, hb, hml, hown, hts⟩ (hM _) (cwV 1 hts tX5_catches rfl hrc hrs (by decide +kernel) ⟨by show rm.frames + 1 ≤ 10; omega, by show 8 + (2 + 11) + rm.locals ≤ 372; omega⟩) C.hN hK (z_sub_P hP (fun z h => List.mem_append_right _ h)) (z_D_m (l1 := w1 ++ [oC O y g1]) (l2 := []) (by rw [List.append_nil]; exact hD)) (ci := 5) (q0 := 0) rfl rfl h0 rfl hl.1 rfl (lv_room (Nat.le_of_ble_eq_true rfl)) dL_law_928 hS (z_sub_F hD hS hA (fun z h => List.mem_append_right _ h)) ⟨by show cells + 1 + mc ≤ 601024; omega, by show slots + 6 + ms ≤ 7293034; omega⟩ rfl rfl rfl (fun H locs hP1 hz hfr hS => ?_)
  obtain ⟨hP, hD⟩ := z_seg (l1 := w1 ++ [oC O y g1]) (w := zw) (w1 := zw1) (l2 := []) (ws1 := ((w1 ++ [oC O y g1]) ++ zw1)) hP hD (by rw [List.append_nil]) (by rw [List.append_nil]) hadz hP1 hfr
  refine lv_istore (lv' := [(6, .int v), (5, .int k), (4, .int (nI i)), (3, .ref O), (2, .ref Y0), (1, .ref X0), (0, .ref b)]) hx hb dL_law_931 hl (by decide) rfl (fun ls hl => ?_)
  refine lv_aload_n hx hb dL_law_933 rfl (lv_at hl 4 rfl) ?_
  refine zcRV (As := []) (rest := []) (st1 := [.int k]) (w := zw1) ⟨hx, hb, hml, hown, hts⟩ hT (cwV 0 hts tX5_thrown rfl rfl rfl (by decide +kernel) ⟨(Nat.le_of_ble_eq_true rfl), (Nat.le_of_ble_eq_true rfl)⟩) hK (z_sub_P hP (fun z h => List.mem_append_right _ h)) (ci := 5) (q0 := 0) rfl rfl h01 rfl hl.1 rfl (lv_room (Nat.le_of_ble_eq_true rfl)) dL_law_934 ⟨by show cells + 1 + mc ≤ 601024; omega, by show slots + 6 + ms ≤ 7293034; omega⟩ rfl ?_
  refine lv_iload hx hb dL_law_937 (lv_at hl 1 rfl) ?_
  refine lv_icmp_eq (tgt := 944) hx hb dL_law_939 (by decide) (fun _ => ?_) (fun c9 => absurd rfl c9)
  refine lv_iload hx hb dL_law_944 (lv_at hl 1 rfl) ?_
  have last : ∀ ls : Array Slot, lv_has ls 9 [(6, .int v), (5, .int k), (4, .int (nI i)), (3, .ref O), (2, .ref Y0), (1, .ref X0), (0, .ref b)] → W p l e room_1 s m #[Value.ref b] below meth c H locs (cells + 1 + mc) (slots + 6 + ms) Q (F0 m 961 ls []) := by
    intro ls hl
    refine lv_goto (tgt := 1267) hx hb dL_law_961 (by decide) ?_
    refine W.widen (k := cells + 58) (n := slots + 484) (by omega) (by omega) ?_
    exact kk H locs ls hP hD hS (lv_sub hl [2, 3, 4, 5, 6] rfl)
  refine lv_if_ne (tgt := 961) hx hb dL_law_946 (by decide) (fun _ => last ls hl) (fun c9 => ?_)
  have k0 : k = 0 := c9
  refine lv_aload_n hx hb dL_law_949 rfl (lv_at hl 3 rfl) ?_
  refine lv_iconst (v := 0) hx hb dL_law_950 (by decide) ?_
  refine va_lald hx hb hK (ws := [oC O y g1]) (z_sub_P hP (fun z h => List.mem_append_left _ (List.mem_append_right _ h))) 0 3 rfl rfl (i := 0) (by unfold vp_in; decide) dL_law_951 ?_
  rw [hv k0]
  refine lv_iload hx hb dL_law_952 (lv_at hl 0 rfl) ?_
  refine lv_i2l (v := v.toInt64) hx hb dL_law_954 rfl ?_
  refine lv_lcmp0 hx hb dL_law_955 ?_
  exact lv_if_eq (tgt := 961) hx hb dL_law_956 (by decide) (fun _ => last ls hl) (fun c9 => absurd rfl c9)
set_option maxHeartbeats 1000000 in
set_option maxRecDepth 100000 in
theorem seg_arrives {p : Program} {e : Env} {s : State} {m : MethodId} {below : List Frame} {meth : Method} {c : Code} {Q : State → Prop} (l : Launch) {b L : Nat} {xs : Nat → Int32} {D : va_G} {y : Nat → ClassId} (C : LCtx p s m c b L xs D y) {i : Nat} (hi : i + 4 ≤ L) {X0 Y0 O : Nat} {a1 : Int32} (e1 : xs (i + 1) = a1)
    {w w1 zw zw1 : va_W} {g g1 : Nat → Int64} {k v : Int32} {rm : Room} {mc ms : Nat}
    (hH : ∀ sz, zH l yL_arrives wsL_arrives D y [.ref X0, .int a1, .ref O] (w ++ [oC O y g]) sz k (w1 ++ [oC O y g1]))
    (hM : ∀ sz, zMN l yX5_arrives wsX5_arrives rm D y [.ref Y0, .int a1] zw sz (some (.int v)) zw1 mc ms) (hrc : rm.cells = mc) (hrs : rm.slots = ms) (hrm : rm.frames ≤ 8 ∧ rm.locals ≤ 200 ∧ mc ≤ 57 ∧ ms ≤ 400)
    (hT : zR l yX5_thrown wsX5_thrown { frames := 0, cells := 0, slots := 0, locals := 0 } D y [.ref Y0] zw1 (some (.int k))) (hv : k = 0 → g1 (0 : Int32).toNatClampNeg = v.toInt64)
    {fs fs1 : List Value} (h0 : zw[0]? = some (Y0, .inr (5, fs))) (h01 : zw1[0]? = some (Y0, .inr (5, fs1))) (had : w1.map Prod.fst = w.map Prod.fst) (hadz : zw1.map Prod.fst = zw.map Prod.fst)
    {H : Heap} {locs : List Loc} {ls : Array Slot} {cells slots : Nat} (hc : cells + 58 ≤ 601024 ∧ slots + 484 ≤ 7293034) (hP : va_P D vwCl ((w ++ [oC O y g]) ++ zw) H) (hD : va_D (lA s) ((w ++ [oC O y g]) ++ zw)) (hS : va_S (lA s) s.heap H locs) (hl : lv_has ls 9 [(4, .int (nI i)), (3, .ref O), (2, .ref Y0), (1, .ref X0), (0, .ref b)])
    (kk : ∀ (H1 : Heap) (locs1 : List Loc) (ls1 : Array Slot), va_P D vwCl ((w1 ++ [oC O y g1]) ++ zw1) H1 → va_D (lA s) ((w1 ++ [oC O y g1]) ++ zw1) → va_S (lA s) s.heap H1 locs1 → lv_has ls1 9 [(4, .int (nI i)), (3, .ref O), (2, .ref Y0), (1, .ref X0), (0, .ref b)] → W p l e room_1 s m #[Value.ref b] below meth c H1 locs1 (cells + 58) (slots + 484) Q (F0 m 1267 ls1 [])) : W p l e room_1 s m #[Value.ref b] below meth c H locs cells slots Q (F0 m 964 ls []) := by
  have hx := C.hx
  have hb := C.hb
  have hml := C.hml
  have hown := C.hown
  have hts := C.hts
  have hK := C.hK
  have hA : ∀ q : Nat, s.heap.size ≤ q → lA s q := fun q h => h
  have had2 : (w1 ++ [oC O y g1]).map Prod.fst = (w ++ [oC O y g]).map Prod.fst := by rw [List.map_append, List.map_append, had]; rfl
  refine lv_aload_n hx hb dL_law_964 rfl (lv_at hl 3 rfl) ?_
  refine l_arg (j := 1) (J := 1) C e1 (by omega) (by decide) dL_law_965 dL_law_966 dL_law_968 dL_law_969 dL_law_970 hS (lv_at hl 4 rfl) (lv_at hl 0 rfl) ?_
  refine lv_aload_n hx hb dL_law_971 rfl (lv_at hl 1 rfl) ?_
  refine zcHS (As := [.ref X0, .int a1, .ref O]) (rest := []) (st1 := [.int k]) (cells1 := cells + 1) (slots1 := slots + 6) (w := w ++ [oC O y g]) ⟨hx, hb, hml, hown, hts⟩ (hH _) (vx_cwSW 3 hts tL_arrives rfl rfl rfl (by decide +kernel) ⟨(Nat.le_of_ble_eq_true rfl), (Nat.le_of_ble_eq_true rfl)⟩) (C.hX9 hS) hK (z_sub_P hP (fun z h => List.mem_append_left _ h)) (z_D_m (l1 := []) (l2 := zw) hD) rfl hl.1 rfl (lv_room (Nat.le_of_ble_eq_true rfl)) dL_law_972 hS (z_sub_F hD hS hA (fun z h => List.mem_append_left _ h)) ⟨by show cells + 1 ≤ 601024; omega, by show slots + 6 ≤ 7293034; omega⟩ rfl rfl rfl (fun H locs hP1 hz hfr hS => ?_)
  obtain ⟨hP, hD⟩ := z_seg (l1 := []) (w := w ++ [oC O y g]) (w1 := w1 ++ [oC O y g1]) (l2 := zw) (ws1 := ((w1 ++ [oC O y g1]) ++ zw)) hP hD rfl rfl had2 hP1 hfr
  refine lv_istore (lv' := [(5, .int k), (4, .int (nI i)), (3, .ref O), (2, .ref Y0), (1, .ref X0), (0, .ref b)]) hx hb dL_law_975 hl (by decide) rfl (fun ls hl => ?_)
  refine lv_aload_n hx hb dL_law_977 rfl (lv_at hl 3 rfl) ?_
  refine l_arg (j := 1) (J := 1) C e1 (by omega) (by decide) dL_law_978 dL_law_979 dL_law_981 dL_law_982 dL_law_983 hS (lv_at hl 5 rfl) (lv_at hl 1 rfl) ?_
  refine zcNMV (As := [.int a1]) (rest := []) (st1 := [.int v]) (cells1 := cells + 1 + mc) (slots1 := slots + 6 + ms) (w := zw) ⟨hx, hb, hml, hown, hts⟩ (hM _) (cwV 1 hts tX5_arrives rfl hrc hrs (by decide +kernel) ⟨by show rm.frames + 1 ≤ 10; omega, by show 8 + (3 + 11) + rm.locals ≤ 372; omega⟩) C.hN hK (z_sub_P hP (fun z h => List.mem_append_right _ h)) (z_D_m (l1 := w1 ++ [oC O y g1]) (l2 := []) (by rw [List.append_nil]; exact hD)) (ci := 5) (q0 := 0) rfl rfl h0 rfl hl.1 rfl (lv_room (Nat.le_of_ble_eq_true rfl)) dL_law_984 hS (z_sub_F hD hS hA (fun z h => List.mem_append_right _ h)) ⟨by show cells + 1 + mc ≤ 601024; omega, by show slots + 6 + ms ≤ 7293034; omega⟩ rfl rfl rfl (fun H locs hP1 hz hfr hS => ?_)
  obtain ⟨hP, hD⟩ := z_seg (l1 := w1 ++ [oC O y g1]) (w := zw) (w1 := zw1) (l2 := []) (ws1 := ((w1 ++ [oC O y g1]) ++ zw1)) hP hD (by rw [List.append_nil]) (by rw [List.append_nil]) hadz hP1 hfr
  refine lv_istore (lv' := [(6, .int v), (5, .int k), (4, .int (nI i)), (3, .ref O), (2, .ref Y0), (1, .ref X0), (0, .ref b)]) hx hb dL_law_987 hl (by decide) rfl (fun ls hl => ?_)
  refine lv_aload_n hx hb dL_law_989 rfl (lv_at hl 4 rfl) ?_
  refine zcRV (As := []) (rest := []) (st1 := [.int k]) (w := zw1) ⟨hx, hb, hml, hown, hts⟩ hT (cwV 0 hts tX5_thrown rfl rfl rfl (by decide +kernel) ⟨(Nat.le_of_ble_eq_true rfl), (Nat.le_of_ble_eq_true rfl)⟩) hK (z_sub_P hP (fun z h => List.mem_append_right _ h)) (ci := 5) (q0 := 0) rfl rfl h01 rfl hl.1 rfl (lv_room (Nat.le_of_ble_eq_true rfl)) dL_law_990 ⟨by show cells + 1 + mc ≤ 601024; omega, by show slots + 6 + ms ≤ 7293034; omega⟩ rfl ?_
  refine lv_iload hx hb dL_law_993 (lv_at hl 1 rfl) ?_
  refine lv_icmp_eq (tgt := 1000) hx hb dL_law_995 (by decide) (fun _ => ?_) (fun c9 => absurd rfl c9)
  refine lv_iload hx hb dL_law_1000 (lv_at hl 1 rfl) ?_
  have last : ∀ ls : Array Slot, lv_has ls 9 [(6, .int v), (5, .int k), (4, .int (nI i)), (3, .ref O), (2, .ref Y0), (1, .ref X0), (0, .ref b)] → W p l e room_1 s m #[Value.ref b] below meth c H locs (cells + 1 + mc) (slots + 6 + ms) Q (F0 m 1017 ls []) := by
    intro ls hl
    refine lv_goto (tgt := 1267) hx hb dL_law_1017 (by decide) ?_
    refine W.widen (k := cells + 58) (n := slots + 484) (by omega) (by omega) ?_
    exact kk H locs ls hP hD hS (lv_sub hl [2, 3, 4, 5, 6] rfl)
  refine lv_if_ne (tgt := 1017) hx hb dL_law_1002 (by decide) (fun _ => last ls hl) (fun c9 => ?_)
  have k0 : k = 0 := c9
  refine lv_aload_n hx hb dL_law_1005 rfl (lv_at hl 3 rfl) ?_
  refine lv_iconst (v := 0) hx hb dL_law_1006 (by decide) ?_
  refine va_lald hx hb hK (ws := [oC O y g1]) (z_sub_P hP (fun z h => List.mem_append_left _ (List.mem_append_right _ h))) 0 3 rfl rfl (i := 0) (by unfold vp_in; decide) dL_law_1007 ?_
  rw [hv k0]
  refine lv_iload hx hb dL_law_1008 (lv_at hl 0 rfl) ?_
  refine lv_i2l (v := v.toInt64) hx hb dL_law_1010 rfl ?_
  refine lv_lcmp0 hx hb dL_law_1011 ?_
  exact lv_if_eq (tgt := 1017) hx hb dL_law_1012 (by decide) (fun _ => last ls hl) (fun c9 => absurd rfl c9)
set_option maxHeartbeats 1000000 in
set_option maxRecDepth 100000 in
theorem seg_lasts {p : Program} {e : Env} {s : State} {m : MethodId} {below : List Frame} {meth : Method} {c : Code} {Q : State → Prop} (l : Launch) {b L : Nat} {xs : Nat → Int32} {D : va_G} {y : Nat → ClassId} (C : LCtx p s m c b L xs D y) {i : Nat} (hi : i + 4 ≤ L) {X0 Y0 O : Nat} {a1 : Int32} (e1 : xs (i + 1) = a1)
    {w w1 zw zw1 : va_W} {g g1 : Nat → Int64} {k v : Int32} {rm : Room} {mc ms : Nat}
    (hH : ∀ sz, zH l yL_lasts wsL_lasts D y [.ref X0, .int a1, .ref O] (w ++ [oC O y g]) sz k (w1 ++ [oC O y g1]))
    (hM : ∀ sz, zMN l yX5_lasts wsX5_lasts rm D y [.ref Y0, .int a1] zw sz (some (.int v)) zw1 mc ms) (hrc : rm.cells = mc) (hrs : rm.slots = ms) (hrm : rm.frames ≤ 8 ∧ rm.locals ≤ 200 ∧ mc ≤ 57 ∧ ms ≤ 400)
    (hT : zR l yX5_thrown wsX5_thrown { frames := 0, cells := 0, slots := 0, locals := 0 } D y [.ref Y0] zw1 (some (.int k))) (hv : k = 0 → g1 (0 : Int32).toNatClampNeg = v.toInt64)
    {fs fs1 : List Value} (h0 : zw[0]? = some (Y0, .inr (5, fs))) (h01 : zw1[0]? = some (Y0, .inr (5, fs1))) (had : w1.map Prod.fst = w.map Prod.fst) (hadz : zw1.map Prod.fst = zw.map Prod.fst)
    {H : Heap} {locs : List Loc} {ls : Array Slot} {cells slots : Nat} (hc : cells + 58 ≤ 601024 ∧ slots + 484 ≤ 7293034) (hP : va_P D vwCl ((w ++ [oC O y g]) ++ zw) H) (hD : va_D (lA s) ((w ++ [oC O y g]) ++ zw)) (hS : va_S (lA s) s.heap H locs) (hl : lv_has ls 9 [(4, .int (nI i)), (3, .ref O), (2, .ref Y0), (1, .ref X0), (0, .ref b)])
    (kk : ∀ (H1 : Heap) (locs1 : List Loc) (ls1 : Array Slot), va_P D vwCl ((w1 ++ [oC O y g1]) ++ zw1) H1 → va_D (lA s) ((w1 ++ [oC O y g1]) ++ zw1) → va_S (lA s) s.heap H1 locs1 → lv_has ls1 9 [(4, .int (nI i)), (3, .ref O), (2, .ref Y0), (1, .ref X0), (0, .ref b)] → W p l e room_1 s m #[Value.ref b] below meth c H1 locs1 (cells + 58) (slots + 484) Q (F0 m 1267 ls1 [])) : W p l e room_1 s m #[Value.ref b] below meth c H locs cells slots Q (F0 m 1020 ls []) := by
  have hx := C.hx
  have hb := C.hb
  have hml := C.hml
  have hown := C.hown
  have hts := C.hts
  have hK := C.hK
  have hA : ∀ q : Nat, s.heap.size ≤ q → lA s q := fun q h => h
  have had2 : (w1 ++ [oC O y g1]).map Prod.fst = (w ++ [oC O y g]).map Prod.fst := by rw [List.map_append, List.map_append, had]; rfl
  refine lv_aload_n hx hb dL_law_1020 rfl (lv_at hl 3 rfl) ?_
  refine l_arg (j := 1) (J := 1) C e1 (by omega) (by decide) dL_law_1021 dL_law_1022 dL_law_1024 dL_law_1025 dL_law_1026 hS (lv_at hl 4 rfl) (lv_at hl 0 rfl) ?_
  refine lv_aload_n hx hb dL_law_1027 rfl (lv_at hl 1 rfl) ?_
  refine zcHS (As := [.ref X0, .int a1, .ref O]) (rest := []) (st1 := [.int k]) (cells1 := cells + 1) (slots1 := slots + 6) (w := w ++ [oC O y g]) ⟨hx, hb, hml, hown, hts⟩ (hH _) (vx_cwSW 3 hts tL_lasts rfl rfl rfl (by decide +kernel) ⟨(Nat.le_of_ble_eq_true rfl), (Nat.le_of_ble_eq_true rfl)⟩) (C.hX9 hS) hK (z_sub_P hP (fun z h => List.mem_append_left _ h)) (z_D_m (l1 := []) (l2 := zw) hD) rfl hl.1 rfl (lv_room (Nat.le_of_ble_eq_true rfl)) dL_law_1028 hS (z_sub_F hD hS hA (fun z h => List.mem_append_left _ h)) ⟨by show cells + 1 ≤ 601024; omega, by show slots + 6 ≤ 7293034; omega⟩ rfl rfl rfl (fun H locs hP1 hz hfr hS => ?_)
  obtain ⟨hP, hD⟩ := z_seg (l1 := []) (w := w ++ [oC O y g]) (w1 := w1 ++ [oC O y g1]) (l2 := zw) (ws1 := ((w1 ++ [oC O y g1]) ++ zw)) hP hD rfl rfl had2 hP1 hfr
  refine lv_istore (lv' := [(5, .int k), (4, .int (nI i)), (3, .ref O), (2, .ref Y0), (1, .ref X0), (0, .ref b)]) hx hb dL_law_1031 hl (by decide) rfl (fun ls hl => ?_)
  refine lv_aload_n hx hb dL_law_1033 rfl (lv_at hl 3 rfl) ?_
  refine l_arg (j := 1) (J := 1) C e1 (by omega) (by decide) dL_law_1034 dL_law_1035 dL_law_1037 dL_law_1038 dL_law_1039 hS (lv_at hl 5 rfl) (lv_at hl 1 rfl) ?_
  refine zcNMV (As := [.int a1]) (rest := []) (st1 := [.int v]) (cells1 := cells + 1 + mc) (slots1 := slots + 6 + ms) (w := zw) ⟨hx, hb, hml, hown, hts⟩ (hM _) (cwV 1 hts tX5_lasts rfl hrc hrs (by decide +kernel) ⟨by show rm.frames + 1 ≤ 10; omega, by show 8 + (3 + 11) + rm.locals ≤ 372; omega⟩) C.hN hK (z_sub_P hP (fun z h => List.mem_append_right _ h)) (z_D_m (l1 := w1 ++ [oC O y g1]) (l2 := []) (by rw [List.append_nil]; exact hD)) (ci := 5) (q0 := 0) rfl rfl h0 rfl hl.1 rfl (lv_room (Nat.le_of_ble_eq_true rfl)) dL_law_1040 hS (z_sub_F hD hS hA (fun z h => List.mem_append_right _ h)) ⟨by show cells + 1 + mc ≤ 601024; omega, by show slots + 6 + ms ≤ 7293034; omega⟩ rfl rfl rfl (fun H locs hP1 hz hfr hS => ?_)
  obtain ⟨hP, hD⟩ := z_seg (l1 := w1 ++ [oC O y g1]) (w := zw) (w1 := zw1) (l2 := []) (ws1 := ((w1 ++ [oC O y g1]) ++ zw1)) hP hD (by rw [List.append_nil]) (by rw [List.append_nil]) hadz hP1 hfr
  refine lv_istore (lv' := [(6, .int v), (5, .int k), (4, .int (nI i)), (3, .ref O), (2, .ref Y0), (1, .ref X0), (0, .ref b)]) hx hb dL_law_1043 hl (by decide) rfl (fun ls hl => ?_)
  refine lv_aload_n hx hb dL_law_1045 rfl (lv_at hl 4 rfl) ?_
  refine zcRV (As := []) (rest := []) (st1 := [.int k]) (w := zw1) ⟨hx, hb, hml, hown, hts⟩ hT (cwV 0 hts tX5_thrown rfl rfl rfl (by decide +kernel) ⟨(Nat.le_of_ble_eq_true rfl), (Nat.le_of_ble_eq_true rfl)⟩) hK (z_sub_P hP (fun z h => List.mem_append_right _ h)) (ci := 5) (q0 := 0) rfl rfl h01 rfl hl.1 rfl (lv_room (Nat.le_of_ble_eq_true rfl)) dL_law_1046 ⟨by show cells + 1 + mc ≤ 601024; omega, by show slots + 6 + ms ≤ 7293034; omega⟩ rfl ?_
  refine lv_iload hx hb dL_law_1049 (lv_at hl 1 rfl) ?_
  refine lv_icmp_eq (tgt := 1056) hx hb dL_law_1051 (by decide) (fun _ => ?_) (fun c9 => absurd rfl c9)
  refine lv_iload hx hb dL_law_1056 (lv_at hl 1 rfl) ?_
  have last : ∀ ls : Array Slot, lv_has ls 9 [(6, .int v), (5, .int k), (4, .int (nI i)), (3, .ref O), (2, .ref Y0), (1, .ref X0), (0, .ref b)] → W p l e room_1 s m #[Value.ref b] below meth c H locs (cells + 1 + mc) (slots + 6 + ms) Q (F0 m 1073 ls []) := by
    intro ls hl
    refine lv_goto (tgt := 1267) hx hb dL_law_1073 (by decide) ?_
    refine W.widen (k := cells + 58) (n := slots + 484) (by omega) (by omega) ?_
    exact kk H locs ls hP hD hS (lv_sub hl [2, 3, 4, 5, 6] rfl)
  refine lv_if_ne (tgt := 1073) hx hb dL_law_1058 (by decide) (fun _ => last ls hl) (fun c9 => ?_)
  have k0 : k = 0 := c9
  refine lv_aload_n hx hb dL_law_1061 rfl (lv_at hl 3 rfl) ?_
  refine lv_iconst (v := 0) hx hb dL_law_1062 (by decide) ?_
  refine va_lald hx hb hK (ws := [oC O y g1]) (z_sub_P hP (fun z h => List.mem_append_left _ (List.mem_append_right _ h))) 0 3 rfl rfl (i := 0) (by unfold vp_in; decide) dL_law_1063 ?_
  rw [hv k0]
  refine lv_iload hx hb dL_law_1064 (lv_at hl 0 rfl) ?_
  refine lv_i2l (v := v.toInt64) hx hb dL_law_1066 rfl ?_
  refine lv_lcmp0 hx hb dL_law_1067 ?_
  exact lv_if_eq (tgt := 1073) hx hb dL_law_1068 (by decide) (fun _ => last ls hl) (fun c9 => absurd rfl c9)
set_option maxHeartbeats 1000000 in
set_option maxRecDepth 100000 in
theorem seg_foresee {p : Program} {e : Env} {s : State} {m : MethodId} {below : List Frame} {meth : Method} {c : Code} {Q : State → Prop} (l : Launch) {b L : Nat} {xs : Nat → Int32} {D : va_G} {y : Nat → ClassId} (C : LCtx p s m c b L xs D y) {i : Nat} (hi : i + 4 ≤ L) {X0 Y0 O : Nat} {a1 a2 : Int32} (e1 : xs (i + 1) = a1) (e2 : xs (i + 2) = a2)
    {w w1 zw zw1 : va_W} {g g1 : Nat → Int64} {k v : Int32} {rm : Room} {mc ms : Nat}
    (hH : ∀ sz, zH l yL_foresee wsL_foresee D y [.ref X0, .int a1, .int a2, .ref O] (w ++ [oC O y g]) sz k (w1 ++ [oC O y g1]))
    (hM : ∀ sz, zMN l yX5_foresee wsX5_foresee rm D y [.ref Y0, .int a1, .int a2] zw sz (some (.int v)) zw1 mc ms) (hrc : rm.cells = mc) (hrs : rm.slots = ms) (hrm : rm.frames ≤ 8 ∧ rm.locals ≤ 200 ∧ mc ≤ 57 ∧ ms ≤ 400)
    (hT : zR l yX5_thrown wsX5_thrown { frames := 0, cells := 0, slots := 0, locals := 0 } D y [.ref Y0] zw1 (some (.int k))) (hv : k = 0 → g1 (0 : Int32).toNatClampNeg = v.toInt64)
    {fs fs1 : List Value} (h0 : zw[0]? = some (Y0, .inr (5, fs))) (h01 : zw1[0]? = some (Y0, .inr (5, fs1))) (had : w1.map Prod.fst = w.map Prod.fst) (hadz : zw1.map Prod.fst = zw.map Prod.fst)
    {H : Heap} {locs : List Loc} {ls : Array Slot} {cells slots : Nat} (hc : cells + 58 ≤ 601024 ∧ slots + 484 ≤ 7293034) (hP : va_P D vwCl ((w ++ [oC O y g]) ++ zw) H) (hD : va_D (lA s) ((w ++ [oC O y g]) ++ zw)) (hS : va_S (lA s) s.heap H locs) (hl : lv_has ls 9 [(4, .int (nI i)), (3, .ref O), (2, .ref Y0), (1, .ref X0), (0, .ref b)])
    (kk : ∀ (H1 : Heap) (locs1 : List Loc) (ls1 : Array Slot), va_P D vwCl ((w1 ++ [oC O y g1]) ++ zw1) H1 → va_D (lA s) ((w1 ++ [oC O y g1]) ++ zw1) → va_S (lA s) s.heap H1 locs1 → lv_has ls1 9 [(4, .int (nI i)), (3, .ref O), (2, .ref Y0), (1, .ref X0), (0, .ref b)] → W p l e room_1 s m #[Value.ref b] below meth c H1 locs1 (cells + 58) (slots + 484) Q (F0 m 1267 ls1 [])) : W p l e room_1 s m #[Value.ref b] below meth c H locs cells slots Q (F0 m 1076 ls []) := by
  have hx := C.hx
  have hb := C.hb
  have hml := C.hml
  have hown := C.hown
  have hts := C.hts
  have hK := C.hK
  have hA : ∀ q : Nat, s.heap.size ≤ q → lA s q := fun q h => h
  have had2 : (w1 ++ [oC O y g1]).map Prod.fst = (w ++ [oC O y g]).map Prod.fst := by rw [List.map_append, List.map_append, had]; rfl
  refine lv_aload_n hx hb dL_law_1076 rfl (lv_at hl 3 rfl) ?_
  refine l_arg (j := 1) (J := 1) C e1 (by omega) (by decide) dL_law_1077 dL_law_1078 dL_law_1080 dL_law_1081 dL_law_1082 hS (lv_at hl 4 rfl) (lv_at hl 0 rfl) ?_
  refine l_arg (j := 2) (J := 2) C e2 (by omega) (by decide) dL_law_1083 dL_law_1084 dL_law_1086 dL_law_1087 dL_law_1088 hS (lv_at hl 4 rfl) (lv_at hl 0 rfl) ?_
  refine lv_aload_n hx hb dL_law_1089 rfl (lv_at hl 1 rfl) ?_
  refine zcHS (As := [.ref X0, .int a1, .int a2, .ref O]) (rest := []) (st1 := [.int k]) (cells1 := cells + 1) (slots1 := slots + 6) (w := w ++ [oC O y g]) ⟨hx, hb, hml, hown, hts⟩ (hH _) (vx_cwSW 4 hts tL_foresee rfl rfl rfl (by decide +kernel) ⟨(Nat.le_of_ble_eq_true rfl), (Nat.le_of_ble_eq_true rfl)⟩) (C.hX9 hS) hK (z_sub_P hP (fun z h => List.mem_append_left _ h)) (z_D_m (l1 := []) (l2 := zw) hD) rfl hl.1 rfl (lv_room (Nat.le_of_ble_eq_true rfl)) dL_law_1090 hS (z_sub_F hD hS hA (fun z h => List.mem_append_left _ h)) ⟨by show cells + 1 ≤ 601024; omega, by show slots + 6 ≤ 7293034; omega⟩ rfl rfl rfl (fun H locs hP1 hz hfr hS => ?_)
  obtain ⟨hP, hD⟩ := z_seg (l1 := []) (w := w ++ [oC O y g]) (w1 := w1 ++ [oC O y g1]) (l2 := zw) (ws1 := ((w1 ++ [oC O y g1]) ++ zw)) hP hD rfl rfl had2 hP1 hfr
  refine lv_istore (lv' := [(5, .int k), (4, .int (nI i)), (3, .ref O), (2, .ref Y0), (1, .ref X0), (0, .ref b)]) hx hb dL_law_1093 hl (by decide) rfl (fun ls hl => ?_)
  refine lv_aload_n hx hb dL_law_1095 rfl (lv_at hl 3 rfl) ?_
  refine l_arg (j := 1) (J := 1) C e1 (by omega) (by decide) dL_law_1096 dL_law_1097 dL_law_1099 dL_law_1100 dL_law_1101 hS (lv_at hl 5 rfl) (lv_at hl 1 rfl) ?_
  refine l_arg (j := 2) (J := 2) C e2 (by omega) (by decide) dL_law_1102 dL_law_1103 dL_law_1105 dL_law_1106 dL_law_1107 hS (lv_at hl 5 rfl) (lv_at hl 1 rfl) ?_
  refine zcNMV (As := [.int a1, .int a2]) (rest := []) (st1 := [.int v]) (cells1 := cells + 1 + mc) (slots1 := slots + 6 + ms) (w := zw) ⟨hx, hb, hml, hown, hts⟩ (hM _) (cwV 2 hts tX5_foresee rfl hrc hrs (by decide +kernel) ⟨by show rm.frames + 1 ≤ 10; omega, by show 8 + (3 + 11) + rm.locals ≤ 372; omega⟩) C.hN hK (z_sub_P hP (fun z h => List.mem_append_right _ h)) (z_D_m (l1 := w1 ++ [oC O y g1]) (l2 := []) (by rw [List.append_nil]; exact hD)) (ci := 5) (q0 := 0) rfl rfl h0 rfl hl.1 rfl (lv_room (Nat.le_of_ble_eq_true rfl)) dL_law_1108 hS (z_sub_F hD hS hA (fun z h => List.mem_append_right _ h)) ⟨by show cells + 1 + mc ≤ 601024; omega, by show slots + 6 + ms ≤ 7293034; omega⟩ rfl rfl rfl (fun H locs hP1 hz hfr hS => ?_)
  obtain ⟨hP, hD⟩ := z_seg (l1 := w1 ++ [oC O y g1]) (w := zw) (w1 := zw1) (l2 := []) (ws1 := ((w1 ++ [oC O y g1]) ++ zw1)) hP hD (by rw [List.append_nil]) (by rw [List.append_nil]) hadz hP1 hfr
  refine lv_istore (lv' := [(6, .int v), (5, .int k), (4, .int (nI i)), (3, .ref O), (2, .ref Y0), (1, .ref X0), (0, .ref b)]) hx hb dL_law_1111 hl (by decide) rfl (fun ls hl => ?_)
  refine lv_aload_n hx hb dL_law_1113 rfl (lv_at hl 4 rfl) ?_
  refine zcRV (As := []) (rest := []) (st1 := [.int k]) (w := zw1) ⟨hx, hb, hml, hown, hts⟩ hT (cwV 0 hts tX5_thrown rfl rfl rfl (by decide +kernel) ⟨(Nat.le_of_ble_eq_true rfl), (Nat.le_of_ble_eq_true rfl)⟩) hK (z_sub_P hP (fun z h => List.mem_append_right _ h)) (ci := 5) (q0 := 0) rfl rfl h01 rfl hl.1 rfl (lv_room (Nat.le_of_ble_eq_true rfl)) dL_law_1114 ⟨by show cells + 1 + mc ≤ 601024; omega, by show slots + 6 + ms ≤ 7293034; omega⟩ rfl ?_
  refine lv_iload hx hb dL_law_1117 (lv_at hl 1 rfl) ?_
  refine lv_icmp_eq (tgt := 1124) hx hb dL_law_1119 (by decide) (fun _ => ?_) (fun c9 => absurd rfl c9)
  refine lv_iload hx hb dL_law_1124 (lv_at hl 1 rfl) ?_
  have last : ∀ ls : Array Slot, lv_has ls 9 [(6, .int v), (5, .int k), (4, .int (nI i)), (3, .ref O), (2, .ref Y0), (1, .ref X0), (0, .ref b)] → W p l e room_1 s m #[Value.ref b] below meth c H locs (cells + 1 + mc) (slots + 6 + ms) Q (F0 m 1141 ls []) := by
    intro ls hl
    refine lv_goto (tgt := 1267) hx hb dL_law_1141 (by decide) ?_
    refine W.widen (k := cells + 58) (n := slots + 484) (by omega) (by omega) ?_
    exact kk H locs ls hP hD hS (lv_sub hl [2, 3, 4, 5, 6] rfl)
  refine lv_if_ne (tgt := 1141) hx hb dL_law_1126 (by decide) (fun _ => last ls hl) (fun c9 => ?_)
  have k0 : k = 0 := c9
  refine lv_aload_n hx hb dL_law_1129 rfl (lv_at hl 3 rfl) ?_
  refine lv_iconst (v := 0) hx hb dL_law_1130 (by decide) ?_
  refine va_lald hx hb hK (ws := [oC O y g1]) (z_sub_P hP (fun z h => List.mem_append_left _ (List.mem_append_right _ h))) 0 3 rfl rfl (i := 0) (by unfold vp_in; decide) dL_law_1131 ?_
  rw [hv k0]
  refine lv_iload hx hb dL_law_1132 (lv_at hl 0 rfl) ?_
  refine lv_i2l (v := v.toInt64) hx hb dL_law_1134 rfl ?_
  refine lv_lcmp0 hx hb dL_law_1135 ?_
  exact lv_if_eq (tgt := 1141) hx hb dL_law_1136 (by decide) (fun _ => last ls hl) (fun c9 => absurd rfl c9)
set_option maxHeartbeats 1000000 in
set_option maxRecDepth 100000 in
theorem seg_advise {p : Program} {e : Env} {s : State} {m : MethodId} {below : List Frame} {meth : Method} {c : Code} {Q : State → Prop} (l : Launch) {b L : Nat} {xs : Nat → Int32} {D : va_G} {y : Nat → ClassId} (C : LCtx p s m c b L xs D y) {i : Nat} (hi : i + 4 ≤ L) {X0 Y0 O : Nat} {a1 a2 : Int32} (e1 : xs (i + 1) = a1) (e2 : xs (i + 2) = a2)
    {w w1 zw zw1 : va_W} {g g1 : Nat → Int64} {k v : Int32} {rm : Room} {mc ms : Nat}
    (hH : ∀ sz, zH l yL_advise wsL_advise D y [.ref X0, .int a1, .int a2, .ref O] (w ++ [oC O y g]) sz k (w1 ++ [oC O y g1]))
    (hM : ∀ sz, zMN l yX5_advise wsX5_advise rm D y [.ref Y0, .int a1, .int a2] zw sz (some (.int v)) zw1 mc ms) (hrc : rm.cells = mc) (hrs : rm.slots = ms) (hrm : rm.frames ≤ 8 ∧ rm.locals ≤ 200 ∧ mc ≤ 57 ∧ ms ≤ 400)
    (hT : zR l yX5_thrown wsX5_thrown { frames := 0, cells := 0, slots := 0, locals := 0 } D y [.ref Y0] zw1 (some (.int k))) (hv : k = 0 → g1 (0 : Int32).toNatClampNeg = v.toInt64)
    {fs fs1 : List Value} (h0 : zw[0]? = some (Y0, .inr (5, fs))) (h01 : zw1[0]? = some (Y0, .inr (5, fs1))) (had : w1.map Prod.fst = w.map Prod.fst) (hadz : zw1.map Prod.fst = zw.map Prod.fst)
    {H : Heap} {locs : List Loc} {ls : Array Slot} {cells slots : Nat} (hc : cells + 58 ≤ 601024 ∧ slots + 484 ≤ 7293034) (hP : va_P D vwCl ((w ++ [oC O y g]) ++ zw) H) (hD : va_D (lA s) ((w ++ [oC O y g]) ++ zw)) (hS : va_S (lA s) s.heap H locs) (hl : lv_has ls 9 [(4, .int (nI i)), (3, .ref O), (2, .ref Y0), (1, .ref X0), (0, .ref b)])
    (kk : ∀ (H1 : Heap) (locs1 : List Loc) (ls1 : Array Slot), va_P D vwCl ((w1 ++ [oC O y g1]) ++ zw1) H1 → va_D (lA s) ((w1 ++ [oC O y g1]) ++ zw1) → va_S (lA s) s.heap H1 locs1 → lv_has ls1 9 [(4, .int (nI i)), (3, .ref O), (2, .ref Y0), (1, .ref X0), (0, .ref b)] → W p l e room_1 s m #[Value.ref b] below meth c H1 locs1 (cells + 58) (slots + 484) Q (F0 m 1267 ls1 [])) : W p l e room_1 s m #[Value.ref b] below meth c H locs cells slots Q (F0 m 1144 ls []) := by
  have hx := C.hx
  have hb := C.hb
  have hml := C.hml
  have hown := C.hown
  have hts := C.hts
  have hK := C.hK
  have hA : ∀ q : Nat, s.heap.size ≤ q → lA s q := fun q h => h
  have had2 : (w1 ++ [oC O y g1]).map Prod.fst = (w ++ [oC O y g]).map Prod.fst := by rw [List.map_append, List.map_append, had]; rfl
  refine lv_aload_n hx hb dL_law_1144 rfl (lv_at hl 3 rfl) ?_
  refine l_arg (j := 1) (J := 1) C e1 (by omega) (by decide) dL_law_1145 dL_law_1146 dL_law_1148 dL_law_1149 dL_law_1150 hS (lv_at hl 4 rfl) (lv_at hl 0 rfl) ?_
  refine l_arg (j := 2) (J := 2) C e2 (by omega) (by decide) dL_law_1151 dL_law_1152 dL_law_1154 dL_law_1155 dL_law_1156 hS (lv_at hl 4 rfl) (lv_at hl 0 rfl) ?_
  refine lv_aload_n hx hb dL_law_1157 rfl (lv_at hl 1 rfl) ?_
  refine zcHS (As := [.ref X0, .int a1, .int a2, .ref O]) (rest := []) (st1 := [.int k]) (cells1 := cells + 1) (slots1 := slots + 6) (w := w ++ [oC O y g]) ⟨hx, hb, hml, hown, hts⟩ (hH _) (vx_cwSW 4 hts tL_advise rfl rfl rfl (by decide +kernel) ⟨(Nat.le_of_ble_eq_true rfl), (Nat.le_of_ble_eq_true rfl)⟩) (C.hX9 hS) hK (z_sub_P hP (fun z h => List.mem_append_left _ h)) (z_D_m (l1 := []) (l2 := zw) hD) rfl hl.1 rfl (lv_room (Nat.le_of_ble_eq_true rfl)) dL_law_1158 hS (z_sub_F hD hS hA (fun z h => List.mem_append_left _ h)) ⟨by show cells + 1 ≤ 601024; omega, by show slots + 6 ≤ 7293034; omega⟩ rfl rfl rfl (fun H locs hP1 hz hfr hS => ?_)
  obtain ⟨hP, hD⟩ := z_seg (l1 := []) (w := w ++ [oC O y g]) (w1 := w1 ++ [oC O y g1]) (l2 := zw) (ws1 := ((w1 ++ [oC O y g1]) ++ zw)) hP hD rfl rfl had2 hP1 hfr
  refine lv_istore (lv' := [(5, .int k), (4, .int (nI i)), (3, .ref O), (2, .ref Y0), (1, .ref X0), (0, .ref b)]) hx hb dL_law_1161 hl (by decide) rfl (fun ls hl => ?_)
  refine lv_aload_n hx hb dL_law_1163 rfl (lv_at hl 3 rfl) ?_
  refine l_arg (j := 1) (J := 1) C e1 (by omega) (by decide) dL_law_1164 dL_law_1165 dL_law_1167 dL_law_1168 dL_law_1169 hS (lv_at hl 5 rfl) (lv_at hl 1 rfl) ?_
  refine l_arg (j := 2) (J := 2) C e2 (by omega) (by decide) dL_law_1170 dL_law_1171 dL_law_1173 dL_law_1174 dL_law_1175 hS (lv_at hl 5 rfl) (lv_at hl 1 rfl) ?_
  refine zcNMV (As := [.int a1, .int a2]) (rest := []) (st1 := [.int v]) (cells1 := cells + 1 + mc) (slots1 := slots + 6 + ms) (w := zw) ⟨hx, hb, hml, hown, hts⟩ (hM _) (cwV 2 hts tX5_advise rfl hrc hrs (by decide +kernel) ⟨by show rm.frames + 1 ≤ 10; omega, by show 8 + (6 + 11) + rm.locals ≤ 372; omega⟩) C.hN hK (z_sub_P hP (fun z h => List.mem_append_right _ h)) (z_D_m (l1 := w1 ++ [oC O y g1]) (l2 := []) (by rw [List.append_nil]; exact hD)) (ci := 5) (q0 := 0) rfl rfl h0 rfl hl.1 rfl (lv_room (Nat.le_of_ble_eq_true rfl)) dL_law_1176 hS (z_sub_F hD hS hA (fun z h => List.mem_append_right _ h)) ⟨by show cells + 1 + mc ≤ 601024; omega, by show slots + 6 + ms ≤ 7293034; omega⟩ rfl rfl rfl (fun H locs hP1 hz hfr hS => ?_)
  obtain ⟨hP, hD⟩ := z_seg (l1 := w1 ++ [oC O y g1]) (w := zw) (w1 := zw1) (l2 := []) (ws1 := ((w1 ++ [oC O y g1]) ++ zw1)) hP hD (by rw [List.append_nil]) (by rw [List.append_nil]) hadz hP1 hfr
  refine lv_istore (lv' := [(6, .int v), (5, .int k), (4, .int (nI i)), (3, .ref O), (2, .ref Y0), (1, .ref X0), (0, .ref b)]) hx hb dL_law_1179 hl (by decide) rfl (fun ls hl => ?_)
  refine lv_aload_n hx hb dL_law_1181 rfl (lv_at hl 4 rfl) ?_
  refine zcRV (As := []) (rest := []) (st1 := [.int k]) (w := zw1) ⟨hx, hb, hml, hown, hts⟩ hT (cwV 0 hts tX5_thrown rfl rfl rfl (by decide +kernel) ⟨(Nat.le_of_ble_eq_true rfl), (Nat.le_of_ble_eq_true rfl)⟩) hK (z_sub_P hP (fun z h => List.mem_append_right _ h)) (ci := 5) (q0 := 0) rfl rfl h01 rfl hl.1 rfl (lv_room (Nat.le_of_ble_eq_true rfl)) dL_law_1182 ⟨by show cells + 1 + mc ≤ 601024; omega, by show slots + 6 + ms ≤ 7293034; omega⟩ rfl ?_
  refine lv_iload hx hb dL_law_1185 (lv_at hl 1 rfl) ?_
  refine lv_icmp_eq (tgt := 1192) hx hb dL_law_1187 (by decide) (fun _ => ?_) (fun c9 => absurd rfl c9)
  refine lv_iload hx hb dL_law_1192 (lv_at hl 1 rfl) ?_
  have last : ∀ ls : Array Slot, lv_has ls 9 [(6, .int v), (5, .int k), (4, .int (nI i)), (3, .ref O), (2, .ref Y0), (1, .ref X0), (0, .ref b)] → W p l e room_1 s m #[Value.ref b] below meth c H locs (cells + 1 + mc) (slots + 6 + ms) Q (F0 m 1209 ls []) := by
    intro ls hl
    refine lv_goto (tgt := 1267) hx hb dL_law_1209 (by decide) ?_
    refine W.widen (k := cells + 58) (n := slots + 484) (by omega) (by omega) ?_
    exact kk H locs ls hP hD hS (lv_sub hl [2, 3, 4, 5, 6] rfl)
  refine lv_if_ne (tgt := 1209) hx hb dL_law_1194 (by decide) (fun _ => last ls hl) (fun c9 => ?_)
  have k0 : k = 0 := c9
  refine lv_aload_n hx hb dL_law_1197 rfl (lv_at hl 3 rfl) ?_
  refine lv_iconst (v := 0) hx hb dL_law_1198 (by decide) ?_
  refine va_lald hx hb hK (ws := [oC O y g1]) (z_sub_P hP (fun z h => List.mem_append_left _ (List.mem_append_right _ h))) 0 3 rfl rfl (i := 0) (by unfold vp_in; decide) dL_law_1199 ?_
  rw [hv k0]
  refine lv_iload hx hb dL_law_1200 (lv_at hl 0 rfl) ?_
  refine lv_i2l (v := v.toInt64) hx hb dL_law_1202 rfl ?_
  refine lv_lcmp0 hx hb dL_law_1203 ?_
  exact lv_if_eq (tgt := 1209) hx hb dL_law_1204 (by decide) (fun _ => last ls hl) (fun c9 => absurd rfl c9)
