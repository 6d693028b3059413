/-! the start: the class's object, the model's, the place for answers -/
theorem sim0 : Sim 0 (fun _ => 30) (fun _ => 0) (fun _ _ => 0) (fun _ _ => 0) (fun _ _ => 0) 0 0 0 0 := by
  have no : ∀ {i : Nat} {P : Prop}, i < 0 → P := fun h => absurd h (Nat.not_lt_zero _)
  have hor : ∀ m, orL (fun _ => (0 : Int32)) 0 m = [] := by
    intro m
    induction m with
    | zero => rfl
    | succ m ih => show plL _ 0 _ ++ orL _ 0 m = []; rw [ih]; rfl
  refine ⟨⟨by omega, by omega, ?_, fun i h => no h, fun i h => no h, fun i h => no h, fun i h => no h, fun i h => no h⟩, ⟨fun i h => no h, fun i h => no h, fun i h => no h⟩, fun i _ => ⟨30, by omega, rfl⟩, fun _ _ _ => rfl, fun _ _ _ _ _ => rfl, ⟨0, rfl, ⟨fun i h => no h, fun i _ h _ _ => no h⟩, by omega⟩, by omega⟩
  show (List.range 0).map _ = orL _ 0 40
  rw [hor]; rfl
theorem t_pre : Cond.classLink RL 8 RX3 ∈ lw_tbl ∧ Cond.classLink RL 71 RX5 ∈ lw_tbl ∧ Cond.initialized RX3 ∈ lw_tbl ∧ Cond.initialized RX5 ∈ lw_tbl ∧ Cond.methodLink RL 70 yX3_init ∈ lw_tbl ∧ Cond.methodLink RL 73 yX5_init ∈ lw_tbl ∧ Cond.instanceMethod yX3_init ∈ lw_tbl ∧ Cond.instanceMethod yX5_init ∈ lw_tbl := by decide +kernel
set_option maxHeartbeats 4000000 in
set_option maxRecDepth 100000 in
theorem law_pre {p : Program} {l : Launch} {e : Env} {s : State} {m : MethodId} {below : List Frame} {meth : Method} {cd : Code} {Q : State → Prop} {sb L : Nat} {xs : Nat → Int32} {D : va_G} {y : Nat → ClassId} (C : LCtx p s m cd sb L xs D y) (hQ : zQ0 s) {ls : Array Slot} (hl : lv_has ls 9 [(0, .ref sb)])
    (GO : ∀ (X0 O : Nat) (E E2 Y Z Z2 : Nat → Nat) (w : va_W) (H : Heap) (locs : List Loc) (ls : Array Slot), LInv X0 O E E2 Y Z Z2 y 0 w → va_P D vwCl w H → va_D (lA s) w → va_S (lA s) s.heap H locs → lv_has ls 9 [(4, .int (nI (4 * 0))), (3, .ref O), (2, .ref (Y 0)), (1, .ref X0), (0, .ref sb)] → W p l e room_1 s m #[Value.ref sb] below meth cd H locs (60 + 58 * 0) (377 + 484 * 0) Q (F0 m 23 ls [])) :
    W p l e room_1 s m #[Value.ref sb] below meth cd s.heap [] 0 0 Q (F0 m 0 ls []) := by
  have hx := C.hx
  have hb := C.hb
  have hml := C.hml
  have hown := C.hown
  have hts := C.hts
  have hK := C.hK
  have hA : ∀ q : Nat, s.heap.size ≤ q → lA s q := fun q h => h
  have hS : va_S (lA s) s.heap s.heap [] := va_S.rf
  have hP : va_P D vwCl [] s.heap := fun k q hk => (by simp at hk)
  have hD : va_D (lA s) [] := ⟨fun i j p q hi => (by simp at hi), fun k q hk => (by simp at hk)⟩
  obtain ⟨r1, r2, r3, r4, r5, r6, r7, r8⟩ := t_pre
  obtain ⟨_, _, _, i3, _, i5⟩ := t_inst
  refine va_new (C := RX3) (T := TX3) (N := 2) (ci := 3) (fs := [.null, .null]) hx hb hts t_in3 tyX3 tyX3_ok hown (hts _ r1) (hts _ i3) (hts _ r3) hK hP hD hS hA rfl dfX3 (Nat.le_of_ble_eq_true rfl) (Nat.le_of_ble_eq_true rfl) dL_law_0 (fun n1 H hP hD hS => ?_)
  have hP : va_P D vwCl [(n1, .inr (3, [.null, .null]))] H := hP
  have hD : va_D (lA s) [(n1, .inr (3, [.null, .null]))] := hD
  refine lv_dup hx hb dL_law_3 rfl ?_
  have hF1 := z_sub_F hD hS hA (z_in_1 (ws := [(n1, .inr (3, [.null, .null]))]) (k := 0) rfl)
  refine zcCI (As := []) (rest := [.ref n1]) (cells1 := 33) (slots1 := 206) (w := [(n1, .inr (3, [.null, .null]))]) ⟨hx, hb, hml, hown, hts⟩ (c_X3_init l D y n1 _) (cwI 0 hts tgX3_init rfl rfl rfl (hts _ r3) (hts _ r5) (hts _ r7) rfl (by decide +kernel) ⟨Nat.le_of_ble_eq_true rfl, Nat.le_of_ble_eq_true rfl⟩) hQ hK (z_sub_P hP (z_in_1 (k := 0) rfl)) z_D_1 rfl hl.1 rfl (lv_room (Nat.le_of_ble_eq_true rfl)) dL_law_4 hS hF1 ⟨Nat.le_of_ble_eq_true rfl, Nat.le_of_ble_eq_true rfl⟩ rfl rfl (fun H locs w1 hPo hP1 hD1 hz hfr hS => ?_)
  obtain ⟨E, E2, rfl⟩ := hPo
  obtain ⟨hP, hD⟩ := z_grow (l1 := []) (w := [(n1, .inr (3, [.null, .null]))]) hP hD rfl hP1 hD1 hfr hF1
  have hP : va_P D vwCl (sW n1 E E2 y (fun _ => 30) (fun _ => 0) (fun _ _ => 0) (fun _ _ => 0) 0 0 0 0 0 0 T00) H := hP
  have hD : va_D (lA s) (sW n1 E E2 y (fun _ => 30) (fun _ => 0) (fun _ _ => 0) (fun _ _ => 0) 0 0 0 0 0 0 T00) := hD
  refine lv_astore_n (lv' := [(1, .ref n1), (0, .ref sb)]) hx hb dL_law_7 rfl hl (by decide) rfl (fun ls hl => ?_)
  generalize hsw : sW n1 E E2 y (fun _ => 30) (fun _ => 0) (fun _ _ => 0) (fun _ _ => 0) 0 0 0 0 0 0 T00 = sw at hP hD
  refine va_new (C := RX5) (T := TX5) (N := 7) (ci := 5) (fs := [.int 0, .null, .int 0, .null, .null, .null, .null]) hx hb hts t_in5 tyX5 tyX5_ok hown (hts _ r2) (hts _ i5) (hts _ r4) hK hP hD hS hA rfl dfX5 (Nat.le_of_ble_eq_true rfl) (Nat.le_of_ble_eq_true rfl) dL_law_8 (fun n2 H hP hD hS => ?_)
  refine lv_dup hx hb dL_law_11 rfl ?_
  have hF2 := z_sub_F (w := [(n2, .inr (5, [.int 0, .null, .int 0, .null, .null, .null, .null]))]) hD hS hA (fun z h => List.mem_append_right _ h)
  refine zcCI (As := []) (rest := [.ref n2]) (cells1 := 59) (slots1 := 376) (w := [(n2, .inr (5, [.int 0, .null, .int 0, .null, .null, .null, .null]))]) ⟨hx, hb, hml, hown, hts⟩ (c_X5_init l D y n2 _) (cwI 0 hts tgX5_init rfl rfl rfl (hts _ r4) (hts _ r6) (hts _ r8) rfl (by decide +kernel) ⟨Nat.le_of_ble_eq_true rfl, Nat.le_of_ble_eq_true rfl⟩) hQ hK (z_sub_P hP (fun z h => List.mem_append_right _ h)) z_D_1 rfl hl.1 rfl (lv_room (Nat.le_of_ble_eq_true rfl)) dL_law_12 hS hF2 ⟨Nat.le_of_ble_eq_true rfl, Nat.le_of_ble_eq_true rfl⟩ rfl rfl (fun H locs w1 hPo hP1 hD1 hz hfr hS => ?_)
  obtain ⟨Y, Z, Z2, hY, rfl⟩ := hPo
  subst hY
  obtain ⟨hP, hD⟩ := z_grow (l1 := sw) (w := [(Y 0, .inr (5, [.int 0, .null, .int 0, .null, .null, .null, .null]))]) hP hD rfl hP1 hD1 hfr hF2
  generalize hzw : zW Y Z Z2 y 0 (fun _ => 30) 0 (fun _ _ => 0) (fun _ _ => 0) 0 0 0 0 0 N00 = zw at hP hD
  refine lv_astore_n (lv' := [(2, .ref (Y 0)), (1, .ref n1), (0, .ref sb)]) hx hb dL_law_15 rfl hl (by decide) rfl (fun ls hl => ?_)
  refine lv_iconst (v := 1) hx hb dL_law_16 (by decide) ?_
  refine va_newa (atype := .long) (ty := .long) (a0 := (1, .inr (.inl (fun _ => 0)))) (N' := 1) hx hb (hts _ t_ao.2.2.2) rfl hK hP hD hS hA (fun _ => rfl) (by decide) rfl (by have h9 : componentBytes .long = 8 := rfl; omega) (Nat.le_of_ble_eq_true rfl) (Nat.le_of_ble_eq_true rfl) dL_law_17 (fun n3 cA H hKn hP hD hS => ?_)
  obtain rfl := z_uq hKn 3 rfl
  refine lv_astore_n (lv' := [(3, .ref n3), (2, .ref (Y 0)), (1, .ref n1), (0, .ref sb)]) hx hb dL_law_19 rfl hl (by decide) rfl (fun ls hl => ?_)
  refine lv_iconst (v := 0) hx hb dL_law_20 (by decide) ?_
  refine lv_istore (lv' := [(4, .int 0), (3, .ref n3), (2, .ref (Y 0)), (1, .ref n1), (0, .ref sb)]) hx hb dL_law_21 hl (by decide) rfl (fun ls hl => ?_)
  have hP := va_P.swap hP
  have hD := va_D.swap hD
  subst hsw
  subst hzw
  exact GO n1 n3 E E2 Y Z Z2 _ H locs ls ⟨_, _, _, _, _, _, _, _, _, _, _, T00, (fun _ => 0), 0, N00, sim0, rfl⟩ hP hD hS hl
/-- YOUR PART: from the entry, for every script of at most 2048 ints, the law comes to its end with true ('hflags': the launch's flags, for a law that throws: no stack traces) -/
theorem whole_start {p : Program} {e : Env} {s : State} {m : MethodId} {below : List Frame} {meth : Method} {c : Code} (l : Launch) (hflags : l.flags = flags0) {b L : Nat} {xs : Nat → Int32} (hL : L ≤ 2048) (C0 : lw_At p s m meth c b L xs) : W p l e room_1 s m #[Value.ref b] below meth c s.heap [] 0 0 (lw_Z below #[Value.ref b] s) (entryFrame m ([Value.ref b] : List Value).toArray 9) := by
  have hl0 : l.stackTraces = false := by
    unfold Launch.stackTraces
    rw [hflags]
    decide +kernel
  obtain ⟨hx, hb, hr, hml, hown, hts, hX, hbl, hlocks, hg⟩ := C0
  obtain ⟨D, y, hK⟩ := p_K hts
  have hQ := p_Q hts
  have C : LCtx p s m c b L xs D y := ⟨hx, hb, hml, hown, hts, hX, hbl, hK, p_N hts, p_X hts hg, hL⟩
  have hd0 := Drawn.sameBut.refl s.drawn lw_cs
  have hl := lv_entry ([.ref b]) (n := 9) (Nat.le_of_ble_eq_true rfl)
  rw [lg_entry_eq]
  generalize (lg_sl ([.ref b]) ++ List.replicate (9 - (lg_sl ([.ref b])).length) Slot.unset).toArray = ls at hl ⊢
  have hl : lv_has ls 9 [(0, .ref b)] := hl
  refine law_pre C hQ hl (fun X0 O E E2 Y Z Z2 w H locs ls hI hP hD hS hl => ?_)
  refine law_loop C hl0 (c0 := 60) (s0 := 377) (by omega) (by omega) (fun H locs ls hS => ?_) 0 (Nat.zero_le _) w H locs ls hI hP hD hS hl
  refine va_forget (fun q hq => hS.2.2 q hq) ?_
  refine lv_iconst (v := 1) hx hb dL_law_1273 (by decide) ?_
  exact W.base (lw_ret hd0 hx hb hr hlocks dL_law_1274)
