set_option maxHeartbeats 1000000 in
set_option maxRecDepth 100000 in
theorem step_foresee {p : Program} {l : Launch} {e : Env} {s : State} {m : MethodId} {below : List Frame} {meth : Method} {cd : Code} {Q : State → Prop} {sb L : Nat} {xs : Nat → Int32} {D : va_G} {y : Nat → ClassId} (C : LCtx p s m cd sb L xs D y) (hl0 : l.stackTraces = false) {i j : Nat} (hi : i + 4 ≤ L) (hj : j ≤ 512) {X0 O : Nat} {E E2 Y Z Z2 : Nat → Nat} {t : Nat → Int32} {o : Nat → Nat} {q b b' : Fld} {c bc n : Nat} {ar fi re : Int32} {T : TS} {g : Nat → Int64} {th : Int32} {T' : Nst} (S : Sim j t o q b b' c bc n ar) {H : Heap} {locs : List Loc} {ls : Array Slot} {cells slots : Nat} (hc : cells + 58 ≤ 601024 ∧ slots + 484 ≤ 7293034) (hP : va_P D vwCl ((sW X0 E E2 y t o q b c bc n ar fi re T ++ [oC O y g]) ++ zW Y Z Z2 y th t c q b' bc n ar fi re T') H) (hD : va_D (lA s) ((sW X0 E E2 y t o q b c bc n ar fi re T ++ [oC O y g]) ++ zW Y Z Z2 y th t c q b' bc n ar fi re T')) (hS : va_S (lA s) s.heap H locs) (hl : lv_has ls 9 [(4, .int (nI i)), (3, .ref O), (2, .ref (Y 0)), (1, .ref X0), (0, .ref sb)]) (KK : LNext p l e s m below meth cd sb Q X0 O E E2 Y Z Z2 D y i j cells slots) : W p l e room_1 s m #[Value.ref sb] below meth cd H locs cells slots Q (F0 m 1076 ls []) := by
  have hc6 := S.K.c6
  have hb5 := S.K.b5
  have h60 := S.n60
  have hn : n < 2147483648 := by omega
  have ho := okO_lt S.K.or
  have h01 := S.K.op
  by_cases hw : inB 1 (xs (i + 1)) 56 = true
  · obtain ⟨mm, _, m2, e1⟩ := inB_n (lo := 1) (hi := 56) hw (by decide) (by decide)
    rw [e1] at hw
    obtain ⟨f4, f6, f7, f8, f9⟩ := fore_eq (t := t) (n := n) (ar := ar) (fi := fi) (re := re) (T := T) S.K (wasB_r S.r) mm
    by_cases h4 : xs (i + 2) = 4
    · exact seg_foresee l C hi e1 h4 (fun sz => h_L_foresee l D y X0 O _ _ g _ _ _ (fun sz => c_X3_foresee_4 l D y X0 E E2 t o q b c bc n ar fi re T mm hw (by omega) hc6 hb5 ho h01 sz) ⟨rfl, rfl, by decide, by decide⟩ rfl rfl sz) (fun sz => c_X5_foresee_4 l D y Y Z Z2 th t c q b' bc n ar fi re T' mm hw (by omega) hc6 hb5 sz) rfl rfl (by decide) (c_X5_thrown l D y Y Z Z2 _ _ _ _ _ _ _ _ _ _ _) (fun _ => (updL_at _ _ _).trans (by rw [f4, cntF_4])) rfl rfl rfl rfl hc hP hD hS hl (fun _ _ _ hP hD hS hl => KK _ _ _ _ (LInv.mk' (S.up) rfl rfl rfl rfl rfl rfl rfl rfl) hP hD hS hl)
    · by_cases h6 : inB 6 (xs (i + 2)) 9 = true
      · obtain ⟨z, z1, z2, e2⟩ := inB_n (lo := 6) (hi := 9) h6 (by decide) (by decide)
        rcases (show z = 6 ∨ z = 7 ∨ z = 8 ∨ z = 9 by omega) with rfl | rfl | rfl | rfl
        · exact seg_foresee l C hi e1 e2 (fun sz => h_L_foresee l D y X0 O _ _ g _ _ _ (fun sz => c_X3_foresee_6 l D y X0 E E2 t o q b c bc n ar fi re T mm hw (by omega) hc6 hb5 ho h01 sz) ⟨rfl, rfl, by decide, by decide⟩ rfl rfl sz) (fun sz => c_X5_foresee_6 l D y Y Z Z2 th t c q b' bc n ar fi re T' mm hw (by omega) hc6 hb5 sz) rfl rfl (by decide) (c_X5_thrown l D y Y Z Z2 _ _ _ _ _ _ _ _ _ _ _) (fun _ => (updL_at _ _ _).trans (by rw [f6, cntF_6])) rfl rfl rfl rfl hc hP hD hS hl (fun _ _ _ hP hD hS hl => KK _ _ _ _ (LInv.mk' (S.up) rfl rfl rfl rfl rfl rfl rfl rfl) hP hD hS hl)
        · exact seg_foresee l C hi e1 e2 (fun sz => h_L_foresee l D y X0 O _ _ g _ _ _ (fun sz => c_X3_foresee_7 l D y X0 E E2 t o q b c bc n ar fi re T mm hw (by omega) hc6 hb5 ho h01 sz) ⟨rfl, rfl, by decide, by decide⟩ rfl rfl sz) (fun sz => c_X5_foresee_7 l D y Y Z Z2 th t c q b' bc n ar fi re T' mm hw (by omega) hc6 hb5 sz) rfl rfl (by decide) (c_X5_thrown l D y Y Z Z2 _ _ _ _ _ _ _ _ _ _ _) (fun _ => (updL_at _ _ _).trans (by rw [f7, cntF_7])) rfl rfl rfl rfl hc hP hD hS hl (fun _ _ _ hP hD hS hl => KK _ _ _ _ (LInv.mk' (S.up) rfl rfl rfl rfl rfl rfl rfl rfl) hP hD hS hl)
        · exact seg_foresee l C hi e1 e2 (fun sz => h_L_foresee l D y X0 O _ _ g _ _ _ (fun sz => c_X3_foresee_8 l D y X0 E E2 t o q b c bc n ar fi re T mm hw (by omega) hc6 hb5 ho h01 sz) ⟨rfl, rfl, by decide, by decide⟩ rfl rfl sz) (fun sz => c_X5_foresee_8 l D y Y Z Z2 th t c q b' bc n ar fi re T' mm hw (by omega) hc6 hb5 sz) rfl rfl (by decide) (c_X5_thrown l D y Y Z Z2 _ _ _ _ _ _ _ _ _ _ _) (fun _ => (updL_at _ _ _).trans (by rw [f8, cntF_8])) rfl rfl rfl rfl hc hP hD hS hl (fun _ _ _ hP hD hS hl => KK _ _ _ _ (LInv.mk' (S.up) rfl rfl rfl rfl rfl rfl rfl rfl) hP hD hS hl)
        · exact seg_foresee l C hi e1 e2 (fun sz => h_L_foresee l D y X0 O _ _ g _ _ _ (fun sz => c_X3_foresee_9 l D y X0 E E2 t o q b c bc n ar fi re T mm hw (by omega) hc6 hb5 ho h01 sz) ⟨rfl, rfl, by decide, by decide⟩ rfl rfl sz) (fun sz => c_X5_foresee_9 l D y Y Z Z2 th t c q b' bc n ar fi re T' mm hw (by omega) hc6 hb5 sz) rfl rfl (by decide) (c_X5_thrown l D y Y Z Z2 _ _ _ _ _ _ _ _ _ _ _) (fun _ => (updL_at _ _ _).trans (by rw [f9, cntF_9])) rfl rfl rfl rfl hc hP hD hS hl (fun _ _ _ hP hD hS hl => KK _ _ _ _ (LInv.mk' (S.up) rfl rfl rfl rfl rfl rfl rfl rfl) hP hD hS hl)
      · exact seg_foresee l C hi e1 rfl (fun sz => h_L_foresee_T2 l D y X0 O _ _ g _ (c_X3_foresee_T2 l hl0 D y X0 E E2 t o q b c bc n ar fi re T _ _ hw h4 (eq_false_of_ne_true h6)) ⟨rfl, rfl, by decide, by decide⟩ rfl sz) (fun sz => c_X5_foresee_N2 l D y Y Z Z2 th t c q b' bc n ar fi re T' _ _ hw h4 (eq_false_of_ne_true h6) sz) rfl rfl (by decide) (c_X5_thrown l D y Y Z Z2 _ _ _ _ _ _ _ _ _ _ _) (fun h9 => absurd h9 (by decide)) rfl rfl rfl rfl hc hP hD hS hl (fun _ _ _ hP hD hS hl => KK _ _ _ _ (LInv.mk' (S.up) rfl rfl rfl rfl rfl rfl rfl rfl) hP hD hS hl)
  · exact seg_foresee l C hi rfl rfl (fun sz => h_L_foresee_T1 l D y X0 O _ _ g _ (c_X3_foresee_T1 l hl0 D y X0 E E2 t o q b c bc n ar fi re T _ _ (eq_false_of_ne_true hw)) ⟨rfl, rfl, by decide, by decide⟩ rfl sz) (fun sz => c_X5_foresee_N1 l D y Y Z Z2 th t c q b' bc n ar fi re T' _ _ (eq_false_of_ne_true hw) sz) rfl rfl (by decide) (c_X5_thrown l D y Y Z Z2 _ _ _ _ _ _ _ _ _ _ _) (fun h9 => absurd h9 (by decide)) rfl rfl rfl rfl hc hP hD hS hl (fun _ _ _ hP hD hS hl => KK _ _ _ _ (LInv.mk' (S.up) rfl rfl rfl rfl rfl rfl rfl rfl) hP hD hS hl)
set_option maxHeartbeats 1000000 in
set_option maxRecDepth 100000 in
theorem step_advise {p : Program} {l : Launch} {e : Env} {s : State} {m : MethodId} {below : List Frame} {meth : Method} {cd : Code} {Q : State → Prop} {sb L : Nat} {xs : Nat → Int32} {D : va_G} {y : Nat → ClassId} (C : LCtx p s m cd sb L xs D y) (hl0 : l.stackTraces = false) {i j : Nat} (hi : i + 4 ≤ L) (hj : j ≤ 512) {X0 O : Nat} {E E2 Y Z Z2 : Nat → Nat} {t : Nat → Int32} {o : Nat → Nat} {q b b' : Fld} {c bc n : Nat} {ar fi re : Int32} {T : TS} {g : Nat → Int64} {th : Int32} {T' : Nst} (S : Sim j t o q b b' c bc n ar) {H : Heap} {locs : List Loc} {ls : Array Slot} {cells slots : Nat} (hc : cells + 58 ≤ 601024 ∧ slots + 484 ≤ 7293034) (hP : va_P D vwCl ((sW X0 E E2 y t o q b c bc n ar fi re T ++ [oC O y g]) ++ zW Y Z Z2 y th t c q b' bc n ar fi re T') H) (hD : va_D (lA s) ((sW X0 E E2 y t o q b c bc n ar fi re T ++ [oC O y g]) ++ zW Y Z Z2 y th t c q b' bc n ar fi re T')) (hS : va_S (lA s) s.heap H locs) (hl : lv_has ls 9 [(4, .int (nI i)), (3, .ref O), (2, .ref (Y 0)), (1, .ref X0), (0, .ref sb)]) (KK : LNext p l e s m below meth cd sb Q X0 O E E2 Y Z Z2 D y i j cells slots) : W p l e room_1 s m #[Value.ref sb] below meth cd H locs cells slots Q (F0 m 1144 ls []) := by
  have hc6 := S.K.c6
  have hb5 := S.K.b5
  have h60 := S.n60
  have hn : n < 2147483648 := by omega
  have ho := okO_lt S.K.or
  have h01 := S.K.op
  rcases idx_cases (xs (i + 1)) (c := c) (by omega) with h1 | ⟨k, hk, e1⟩
  · exact seg_advise l C hi rfl rfl (fun sz => h_L_advise_T1 l D y X0 O _ _ g _ (c_X3_advise_T1 l hl0 D y X0 E E2 t o q b c bc n ar fi re T _ h1 _ hc6) ⟨rfl, rfl, by decide, by decide⟩ rfl sz) (fun sz => c_X5_advise_N1 l D y Y Z Z2 th t c q b' bc n ar fi re T' _ h1 _ hc6 sz) rfl rfl (by decide) (c_X5_thrown l D y Y Z Z2 _ _ _ _ _ _ _ _ _ _ _) (fun h9 => absurd h9 (by decide)) rfl rfl rfl rfl hc hP hD hS hl (fun _ _ _ hP hD hS hl => KK _ _ _ _ (LInv.mk' (S.up) rfl rfl rfl rfl rfl rfl rfl rfl) hP hD hS hl)
  · by_cases hw : inB 1 (xs (i + 2)) 20 = true
    · obtain ⟨mm, _, m2, e2⟩ := inB_n (lo := 1) (hi := 20) hw (by decide) (by decide)
      rw [e2] at hw
      have hmm : n + mm < 2147483648 := by omega
      have hM := fun sz => c_X5_advise l D y Y Z Z2 th t c q b' bc n ar fi re T' k hk mm hw hmm hc6 hb5 sz
      by_cases hf : fishB q k = true
      · have hX := fun sz => c_X3_advise l D y X0 E E2 t o q b c bc n ar fi re T k hk mm hw hf hmm hc6 hb5 ho h01 sz
        have hA := advise_eq (mm := mm) (n := n) (ar := ar) (fi := fi) (re := re) (T := T) (T' := T') S.K S.T S.R (wasB_r S.r) hk
        generalize (advE (t, o, q, b, c, bc, n, ar, fi, re) T k mm 30) = AE at hX hA
        generalize (advM t c k mm (q, wasB b', bc, n, ar, fi, re) T' 30) = AM at hM hA
        exact seg_advise l C hi e1 e2 (fun sz => h_L_advise l D y X0 O _ _ g _ _ _ hX ⟨rfl, rfl, by decide, by decide⟩ rfl rfl sz) hM rfl rfl (by decide) (c_X5_thrown l D y Y Z Z2 _ _ _ _ _ _ _ _ _ _ _) (fun _ => (updL_at _ _ _).trans (by rw [hA])) rfl rfl rfl rfl hc hP hD hS hl (fun _ _ _ hP hD hS hl => KK _ _ _ _ (LInv.mk' (S.up) rfl rfl rfl rfl rfl rfl rfl rfl) hP hD hS hl)
      · have hX := c_X3_advise_no l D y X0 E E2 t o q b c bc n ar fi re T k hk mm hw (eq_false_of_ne_true hf) hc6
        have hA := advise_no_eq (mm := mm) (n := n) (ar := ar) (fi := fi) (re := re) (T' := T') S.K S.T S.R (wasB_r S.r) hk (eq_false_of_ne_true hf)
        generalize (advM t c k mm (q, wasB b', bc, n, ar, fi, re) T' 30) = AM at hM hA
        exact seg_advise l C hi e1 e2 (fun sz => h_L_advise_no l D y X0 O _ _ g _ _ hX ⟨rfl, rfl, by decide, by decide⟩ rfl sz) hM rfl rfl (by decide) (c_X5_thrown l D y Y Z Z2 _ _ _ _ _ _ _ _ _ _ _) (fun _ => (updL_at _ _ _).trans (by rw [hA])) rfl rfl rfl rfl hc hP hD hS hl (fun _ _ _ hP hD hS hl => KK _ _ _ _ (LInv.mk' (S.up) rfl rfl rfl rfl rfl rfl rfl rfl) hP hD hS hl)
    · exact seg_advise l C hi e1 rfl (fun sz => h_L_advise_T2 l D y X0 O _ _ g _ (c_X3_advise_T2 l hl0 D y X0 E E2 t o q b c bc n ar fi re T k hk _ (eq_false_of_ne_true hw) hc6) ⟨rfl, rfl, by decide, by decide⟩ rfl sz) (fun sz => c_X5_advise_N2 l D y Y Z Z2 th t c q b' bc n ar fi re T' k hk _ (eq_false_of_ne_true hw) hc6 sz) rfl rfl (by decide) (c_X5_thrown l D y Y Z Z2 _ _ _ _ _ _ _ _ _ _ _) (fun h9 => absurd h9 (by decide)) rfl rfl rfl rfl hc hP hD hS hl (fun _ _ _ hP hD hS hl => KK _ _ _ _ (LInv.mk' (S.up) rfl rfl rfl rfl rfl rfl rfl rfl) hP hD hS hl)
set_option maxHeartbeats 1000000 in
set_option maxRecDepth 100000 in
theorem step_richest {p : Program} {l : Launch} {e : Env} {s : State} {m : MethodId} {below : List Frame} {meth : Method} {cd : Code} {Q : State → Prop} {sb L : Nat} {xs : Nat → Int32} {D : va_G} {y : Nat → ClassId} (C : LCtx p s m cd sb L xs D y) (hl0 : l.stackTraces = false) {i j : Nat} (hi : i + 4 ≤ L) (hj : j ≤ 512) {X0 O : Nat} {E E2 Y Z Z2 : Nat → Nat} {t : Nat → Int32} {o : Nat → Nat} {q b b' : Fld} {c bc n : Nat} {ar fi re : Int32} {T : TS} {g : Nat → Int64} {th : Int32} {T' : Nst} (S : Sim j t o q b b' c bc n ar) {H : Heap} {locs : List Loc} {ls : Array Slot} {cells slots : Nat} (hc : cells + 58 ≤ 601024 ∧ slots + 484 ≤ 7293034) (hP : va_P D vwCl ((sW X0 E E2 y t o q b c bc n ar fi re T ++ [oC O y g]) ++ zW Y Z Z2 y th t c q b' bc n ar fi re T') H) (hD : va_D (lA s) ((sW X0 E E2 y t o q b c bc n ar fi re T ++ [oC O y g]) ++ zW Y Z Z2 y th t c q b' bc n ar fi re T')) (hS : va_S (lA s) s.heap H locs) (hl : lv_has ls 9 [(4, .int (nI i)), (3, .ref O), (2, .ref (Y 0)), (1, .ref X0), (0, .ref sb)]) (KK : LNext p l e s m below meth cd sb Q X0 O E E2 Y Z Z2 D y i j cells slots) : W p l e room_1 s m #[Value.ref sb] below meth cd H locs cells slots Q (F0 m 839 ls []) := by
  have hc6 := S.K.c6
  have hb5 := S.K.b5
  have h60 := S.n60
  have hn : n < 2147483648 := by omega
  have ho := okO_lt S.K.or
  have h01 := S.K.op
  exact seg_richest l C hi (c_X3_richest l D y X0 E E2 t o q b c bc n ar fi re T hc6) (by decide) (fun sz => c_X5_richest l D y Y Z Z2 th t c q b' bc n ar fi re T' hc6 sz) rfl rfl (by decide) rfl rfl rfl hc hP hD hS hl (fun _ _ _ hP hD hS hl => KK _ _ _ _ (LInv.mk' (S.up) rfl rfl rfl rfl rfl rfl rfl rfl) hP hD hS hl)
set_option maxHeartbeats 1000000 in
set_option maxRecDepth 100000 in
theorem step_mean {p : Program} {l : Launch} {e : Env} {s : State} {m : MethodId} {below : List Frame} {meth : Method} {cd : Code} {Q : State → Prop} {sb L : Nat} {xs : Nat → Int32} {D : va_G} {y : Nat → ClassId} (C : LCtx p s m cd sb L xs D y) (hl0 : l.stackTraces = false) {i j : Nat} (hi : i + 4 ≤ L) (hj : j ≤ 512) {X0 O : Nat} {E E2 Y Z Z2 : Nat → Nat} {t : Nat → Int32} {o : Nat → Nat} {q b b' : Fld} {c bc n : Nat} {ar fi re : Int32} {T : TS} {g : Nat → Int64} {th : Int32} {T' : Nst} (S : Sim j t o q b b' c bc n ar) {H : Heap} {locs : List Loc} {ls : Array Slot} {cells slots : Nat} (hc : cells + 58 ≤ 601024 ∧ slots + 484 ≤ 7293034) (hP : va_P D vwCl ((sW X0 E E2 y t o q b c bc n ar fi re T ++ [oC O y g]) ++ zW Y Z Z2 y th t c q b' bc n ar fi re T') H) (hD : va_D (lA s) ((sW X0 E E2 y t o q b c bc n ar fi re T ++ [oC O y g]) ++ zW Y Z Z2 y th t c q b' bc n ar fi re T')) (hS : va_S (lA s) s.heap H locs) (hl : lv_has ls 9 [(4, .int (nI i)), (3, .ref O), (2, .ref (Y 0)), (1, .ref X0), (0, .ref sb)]) (KK : LNext p l e s m below meth cd sb Q X0 O E E2 Y Z Z2 D y i j cells slots) : W p l e room_1 s m #[Value.ref sb] below meth cd H locs cells slots Q (F0 m 1212 ls []) := by
  have hc6 := S.K.c6
  have hb5 := S.K.b5
  have h60 := S.n60
  have hn : n < 2147483648 := by omega
  have ho := okO_lt S.K.or
  have h01 := S.K.op
  have hne := mean_ok hc6 S.K.wt
  exact seg_mean l C hi (c_X3_mean l D y X0 E E2 t o q b c bc n ar fi re T hc6 hne) (by decide) (fun sz => c_X5_mean l D y Y Z Z2 th t c q b' bc n ar fi re T' hc6 hne sz) rfl rfl (by decide) rfl rfl rfl hc hP hD hS hl (fun _ _ _ hP hD hS hl => KK _ _ _ _ (LInv.mk' (S.up) rfl rfl rfl rfl rfl rfl rfl rfl) hP hD hS hl)
set_option maxHeartbeats 1000000 in
set_option maxRecDepth 100000 in
theorem step_digest {p : Program} {l : Launch} {e : Env} {s : State} {m : MethodId} {below : List Frame} {meth : Method} {cd : Code} {Q : State → Prop} {sb L : Nat} {xs : Nat → Int32} {D : va_G} {y : Nat → ClassId} (C : LCtx p s m cd sb L xs D y) (hl0 : l.stackTraces = false) {i j : Nat} (hi : i + 4 ≤ L) (hj : j ≤ 512) {X0 O : Nat} {E E2 Y Z Z2 : Nat → Nat} {t : Nat → Int32} {o : Nat → Nat} {q b b' : Fld} {c bc n : Nat} {ar fi re : Int32} {T : TS} {g : Nat → Int64} {th : Int32} {T' : Nst} (S : Sim j t o q b b' c bc n ar) {H : Heap} {locs : List Loc} {ls : Array Slot} {cells slots : Nat} (hc : cells + 58 ≤ 601024 ∧ slots + 484 ≤ 7293034) (hP : va_P D vwCl ((sW X0 E E2 y t o q b c bc n ar fi re T ++ [oC O y g]) ++ zW Y Z Z2 y th t c q b' bc n ar fi re T') H) (hD : va_D (lA s) ((sW X0 E E2 y t o q b c bc n ar fi re T ++ [oC O y g]) ++ zW Y Z Z2 y th t c q b' bc n ar fi re T')) (hS : va_S (lA s) s.heap H locs) (hl : lv_has ls 9 [(4, .int (nI i)), (3, .ref O), (2, .ref (Y 0)), (1, .ref X0), (0, .ref sb)]) (KK : LNext p l e s m below meth cd sb Q X0 O E E2 Y Z Z2 D y i j cells slots) : W p l e room_1 s m #[Value.ref sb] below meth cd H locs cells slots Q (F0 m 1253 ls []) := by
  have hc6 := S.K.c6
  have hb5 := S.K.b5
  have h60 := S.n60
  have hn : n < 2147483648 := by omega
  have ho := okO_lt S.K.or
  have h01 := S.K.op
  have hpp : ∀ k, k < bc → b' 2 k + 1 = nI ((b 2 k + 1).toNatClampNeg) ∧ (b 2 k + 1).toNatClampNeg ≤ 40 := fun k hk => by rw [S.r 2 (by omega) (by omega)]; exact pp_of S.K.ba k hk
  have hdg := digM_E (t := t) (n := n) (ar := ar) (fi := fi) (re := re) hc6 S.K.pl S.K.op S.r hpp
  have hM := fun sz => c_X5_digest l D y Y Z Z2 th t c q b' bc n ar fi re T' (fun k => (b 2 k + 1).toNatClampNeg) hpp hc6 hb5 hn sz
  rw [hdg] at hM
  exact seg_digest l C hi (c_X3_digest l D y X0 E E2 t o q b c bc n ar fi re T hc6 hb5 hn) (by decide) hM rfl rfl (by decide) rfl rfl rfl hc hP hD hS hl (fun _ _ _ hP hD hS hl => KK _ _ _ _ (LInv.mk' (S.up) rfl rfl rfl rfl rfl rfl rfl rfl) hP hD hS hl)
