set_option maxHeartbeats 1000000 in
set_option maxRecDepth 100000 in
theorem step_pass {p : Program} {l : Launch} {e : Env} {s : State} {m : MethodId} {below : List Frame} {meth : Method} {cd : Code} {Q : State → Prop} {sb L : Nat} {xs : Nat → Int32} {D : va_G} {y : Nat → ClassId} (C : LCtx p s m cd sb L xs D y) (hl0 : l.stackTraces = false) {i j : Nat} (hi : i + 4 ≤ L) (hj : j ≤ 512) {X0 O : Nat} {E E2 Y Z Z2 : Nat → Nat} {t : Nat → Int32} {o : Nat → Nat} {q b b' : Fld} {c bc n : Nat} {ar fi re : Int32} {T : TS} {g : Nat → Int64} {th : Int32} {T' : Nst} (S : Sim j t o q b b' c bc n ar) {H : Heap} {locs : List Loc} {ls : Array Slot} {cells slots : Nat} (hc : cells + 58 ≤ 601024 ∧ slots + 484 ≤ 7293034) (hP : va_P D vwCl ((sW X0 E E2 y t o q b c bc n ar fi re T ++ [oC O y g]) ++ zW Y Z Z2 y th t c q b' bc n ar fi re T') H) (hD : va_D (lA s) ((sW X0 E E2 y t o q b c bc n ar fi re T ++ [oC O y g]) ++ zW Y Z Z2 y th t c q b' bc n ar fi re T')) (hS : va_S (lA s) s.heap H locs) (hl : lv_has ls 9 [(4, .int (nI i)), (3, .ref O), (2, .ref (Y 0)), (1, .ref X0), (0, .ref sb)]) (KK : LNext p l e s m below meth cd sb Q X0 O E E2 Y Z Z2 D y i j cells slots) : W p l e room_1 s m #[Value.ref sb] below meth cd H locs cells slots Q (F0 m 852 ls []) := by
  have hc6 := S.K.c6
  have hb5 := S.K.b5
  have h60 := S.n60
  have hn : n < 2147483648 := by omega
  have ho := okO_lt S.K.or
  have h01 := S.K.op
  by_cases hw : inB 1 (xs (i + 1)) 60 = true
  · obtain ⟨mm, _, m2, e1⟩ := inB_n (lo := 1) (hi := 60) hw (by decide) (by decide)
    rw [e1] at hw
    obtain ⟨S1, s2, s3⟩ := S.pass (fi := fi) (re := re) m2 hj
    exact seg_pass l C hi e1 (fun sz => h_L_pass l D y X0 O _ g _ _ _ (fun sz => c_X3_pass l D y X0 E E2 t o q b c bc n ar fi re T mm hw (by omega) hc6 hb5 ho sz) ⟨rfl, rfl, by decide, by decide⟩ rfl rfl sz) (fun sz => c_X5_pass l D y Y Z Z2 th t c q b' bc n ar fi re T' mm hw (by omega) hc6 hb5 sz) rfl rfl (by decide) (c_X5_thrown l D y Y Z Z2 _ _ _ _ _ _ _ _ _ _ _) (fun _ => (updL_at _ _ _).trans (by rw [s3])) rfl rfl rfl rfl hc hP hD hS hl (fun _ _ _ hP hD hS hl => KK _ _ _ _ (LInv.mk' (S1) rfl rfl s2 (congrArg (fun z => z.1) s3) (congrArg (fun z => z.2.1) s3) (congrArg (fun z => z.2.2.1) s3) (congrArg (fun z => z.2.2.2.1) s3) (congrArg (fun z => z.2.2.2.2) s3)) hP hD hS hl)
  · exact seg_pass l C hi rfl (fun sz => h_L_pass_T1 l D y X0 O _ g _ (c_X3_pass_T1 l hl0 D y X0 E E2 t o q b c bc n ar fi re T _ (eq_false_of_ne_true hw)) ⟨rfl, rfl, by decide, by decide⟩ rfl sz) (fun sz => c_X5_pass_N1 l D y Y Z Z2 th t c q b' bc n ar fi re T' _ (eq_false_of_ne_true hw) sz) rfl rfl (by decide) (c_X5_thrown l D y Y Z Z2 _ _ _ _ _ _ _ _ _ _ _) (fun h9 => absurd h9 (by decide)) rfl rfl rfl rfl hc hP hD hS hl (fun _ _ _ hP hD hS hl => KK _ _ _ _ (LInv.mk' (S.up) rfl rfl rfl rfl rfl rfl rfl rfl) hP hD hS hl)
set_option maxHeartbeats 1000000 in
set_option maxRecDepth 100000 in
theorem step_catches {p : Program} {l : Launch} {e : Env} {s : State} {m : MethodId} {below : List Frame} {meth : Method} {cd : Code} {Q : State → Prop} {sb L : Nat} {xs : Nat → Int32} {D : va_G} {y : Nat → ClassId} (C : LCtx p s m cd sb L xs D y) (hl0 : l.stackTraces = false) {i j : Nat} (hi : i + 4 ≤ L) (hj : j ≤ 512) {X0 O : Nat} {E E2 Y Z Z2 : Nat → Nat} {t : Nat → Int32} {o : Nat → Nat} {q b b' : Fld} {c bc n : Nat} {ar fi re : Int32} {T : TS} {g : Nat → Int64} {th : Int32} {T' : Nst} (S : Sim j t o q b b' c bc n ar) {H : Heap} {locs : List Loc} {ls : Array Slot} {cells slots : Nat} (hc : cells + 58 ≤ 601024 ∧ slots + 484 ≤ 7293034) (hP : va_P D vwCl ((sW X0 E E2 y t o q b c bc n ar fi re T ++ [oC O y g]) ++ zW Y Z Z2 y th t c q b' bc n ar fi re T') H) (hD : va_D (lA s) ((sW X0 E E2 y t o q b c bc n ar fi re T ++ [oC O y g]) ++ zW Y Z Z2 y th t c q b' bc n ar fi re T')) (hS : va_S (lA s) s.heap H locs) (hl : lv_has ls 9 [(4, .int (nI i)), (3, .ref O), (2, .ref (Y 0)), (1, .ref X0), (0, .ref sb)]) (KK : LNext p l e s m below meth cd sb Q X0 O E E2 Y Z Z2 D y i j cells slots) : W p l e room_1 s m #[Value.ref sb] below meth cd H locs cells slots Q (F0 m 908 ls []) := by
  have hc6 := S.K.c6
  have hb5 := S.K.b5
  have h60 := S.n60
  have hn : n < 2147483648 := by omega
  have ho := okO_lt S.K.or
  have h01 := S.K.op
  rcases idx_cases (xs (i + 1)) (c := c) (by omega) with h1 | ⟨k, hk, e1⟩
  · exact seg_catches l C hi rfl (fun sz => h_L_catches_T1 l D y X0 O _ g _ (c_X3_catches_T1 l hl0 D y X0 E E2 t o q b c bc n ar fi re T _ h1 hc6) ⟨rfl, rfl, by decide, by decide⟩ rfl sz) (fun sz => c_X5_catches_N1 l D y Y Z Z2 th t c q b' bc n ar fi re T' _ h1 hc6 sz) rfl rfl (by decide) (c_X5_thrown l D y Y Z Z2 _ _ _ _ _ _ _ _ _ _ _) (fun h9 => absurd h9 (by decide)) rfl rfl rfl rfl hc hP hD hS hl (fun _ _ _ hP hD hS hl => KK _ _ _ _ (LInv.mk' (S.up) rfl rfl rfl rfl rfl rfl rfl rfl) hP hD hS hl)
  · exact seg_catches l C hi e1 (fun sz => h_L_catches l D y X0 O _ g _ _ _ (fun sz => c_X3_catches l D y X0 E E2 t o q b c bc n ar fi re T k hk hn hc6 hb5 ho h01 sz) ⟨rfl, rfl, by decide, by decide⟩ rfl rfl sz) (fun sz => c_X5_catches l D y Y Z Z2 th t c q b' bc n ar fi re T' k hk hc6 hn sz) rfl rfl (by decide) (c_X5_thrown l D y Y Z Z2 _ _ _ _ _ _ _ _ _ _ _) (fun _ => (updL_at _ _ _).trans (by rw [catches_eq S.K hk])) rfl rfl rfl rfl hc hP hD hS hl (fun _ _ _ hP hD hS hl => KK _ _ _ _ (LInv.mk' (S.up) rfl rfl rfl rfl rfl rfl rfl rfl) hP hD hS hl)
set_option maxHeartbeats 1000000 in
set_option maxRecDepth 100000 in
theorem step_arrives {p : Program} {l : Launch} {e : Env} {s : State} {m : MethodId} {below : List Frame} {meth : Method} {cd : Code} {Q : State → Prop} {sb L : Nat} {xs : Nat → Int32} {D : va_G} {y : Nat → ClassId} (C : LCtx p s m cd sb L xs D y) (hl0 : l.stackTraces = false) {i j : Nat} (hi : i + 4 ≤ L) (hj : j ≤ 512) {X0 O : Nat} {E E2 Y Z Z2 : Nat → Nat} {t : Nat → Int32} {o : Nat → Nat} {q b b' : Fld} {c bc n : Nat} {ar fi re : Int32} {T : TS} {g : Nat → Int64} {th : Int32} {T' : Nst} (S : Sim j t o q b b' c bc n ar) {H : Heap} {locs : List Loc} {ls : Array Slot} {cells slots : Nat} (hc : cells + 58 ≤ 601024 ∧ slots + 484 ≤ 7293034) (hP : va_P D vwCl ((sW X0 E E2 y t o q b c bc n ar fi re T ++ [oC O y g]) ++ zW Y Z Z2 y th t c q b' bc n ar fi re T') H) (hD : va_D (lA s) ((sW X0 E E2 y t o q b c bc n ar fi re T ++ [oC O y g]) ++ zW Y Z Z2 y th t c q b' bc n ar fi re T')) (hS : va_S (lA s) s.heap H locs) (hl : lv_has ls 9 [(4, .int (nI i)), (3, .ref O), (2, .ref (Y 0)), (1, .ref X0), (0, .ref sb)]) (KK : LNext p l e s m below meth cd sb Q X0 O E E2 Y Z Z2 D y i j cells slots) : W p l e room_1 s m #[Value.ref sb] below meth cd H locs cells slots Q (F0 m 964 ls []) := by
  have hc6 := S.K.c6
  have hb5 := S.K.b5
  have h60 := S.n60
  have hn : n < 2147483648 := by omega
  have ho := okO_lt S.K.or
  have h01 := S.K.op
  rcases idx_cases (xs (i + 1)) (c := bc) (by omega) with h1 | ⟨k, hk, e1⟩
  · exact seg_arrives l C hi rfl (fun sz => h_L_arrives_T1 l D y X0 O _ g _ (c_X3_arrives_T1 l hl0 D y X0 E E2 t o q b c bc n ar fi re T _ h1 hb5) ⟨rfl, rfl, by decide, by decide⟩ rfl sz) (fun sz => c_X5_arrives_N1 l D y Y Z Z2 th t c q b' bc n ar fi re T' _ h1 hb5 sz) rfl rfl (by decide) (c_X5_thrown l D y Y Z Z2 _ _ _ _ _ _ _ _ _ _ _) (fun h9 => absurd h9 (by decide)) rfl rfl rfl rfl hc hP hD hS hl (fun _ _ _ hP hD hS hl => KK _ _ _ _ (LInv.mk' (S.up) rfl rfl rfl rfl rfl rfl rfl rfl) hP hD hS hl)
  · obtain ⟨A, _, ⟨_, tk⟩, _⟩ := S.tk
    obtain ⟨hall, hend⟩ := arrives_eq (t := t) (n := n) (ar := ar) (fi := fi) (re := re) (T := T) S.K (wasB_r S.r) (fun z _ => wasB_0 b' z) hk (fun z hz => tk z k hz hk)
    have hN := firstF_le (fun i => underE (itT i (copyT (t, o, q, b, c, bc, n, ar, fi, re) T)).2.2.2.1 (itT i (copyT (t, o, q, b, c, bc, n, ar, fi, re) T)).2.2.2.2.2.1 (b 0 k)) 40
    have hX := fun sz => c_X3_arrives l D y X0 E E2 t o q b c bc n ar fi re T k hk (by omega) hc6 hb5 ho h01 sz
    generalize (firstF (fun i => underE (itT i (copyT (t, o, q, b, c, bc, n, ar, fi, re) T)).2.2.2.1 (itT i (copyT (t, o, q, b, c, bc, n, ar, fi, re) T)).2.2.2.2.2.1 (b 0 k)) 40) = N at hX hall hend hN
    exact seg_arrives l C hi e1 (fun sz => h_L_arrives l D y X0 O _ g _ _ _ hX ⟨rfl, rfl, by decide, by decide⟩ rfl rfl sz) (fun sz => c_X5_arrives l D y Y Z Z2 th t c q b' bc n ar fi re T' k N hk (by omega) hc6 hb5 hall hend sz) rfl rfl (by decide) (c_X5_thrown l D y Y Z Z2 _ _ _ _ _ _ _ _ _ _ _) (fun _ => updL_at _ _ _) rfl rfl rfl rfl hc hP hD hS hl (fun _ _ _ hP hD hS hl => KK _ _ _ _ (LInv.mk' (S.up) rfl rfl rfl rfl rfl rfl rfl rfl) hP hD hS hl)
set_option maxHeartbeats 1000000 in
set_option maxRecDepth 100000 in
theorem step_lasts {p : Program} {l : Launch} {e : Env} {s : State} {m : MethodId} {below : List Frame} {meth : Method} {cd : Code} {Q : State → Prop} {sb L : Nat} {xs : Nat → Int32} {D : va_G} {y : Nat → ClassId} (C : LCtx p s m cd sb L xs D y) (hl0 : l.stackTraces = false) {i j : Nat} (hi : i + 4 ≤ L) (hj : j ≤ 512) {X0 O : Nat} {E E2 Y Z Z2 : Nat → Nat} {t : Nat → Int32} {o : Nat → Nat} {q b b' : Fld} {c bc n : Nat} {ar fi re : Int32} {T : TS} {g : Nat → Int64} {th : Int32} {T' : Nst} (S : Sim j t o q b b' c bc n ar) {H : Heap} {locs : List Loc} {ls : Array Slot} {cells slots : Nat} (hc : cells + 58 ≤ 601024 ∧ slots + 484 ≤ 7293034) (hP : va_P D vwCl ((sW X0 E E2 y t o q b c bc n ar fi re T ++ [oC O y g]) ++ zW Y Z Z2 y th t c q b' bc n ar fi re T') H) (hD : va_D (lA s) ((sW X0 E E2 y t o q b c bc n ar fi re T ++ [oC O y g]) ++ zW Y Z Z2 y th t c q b' bc n ar fi re T')) (hS : va_S (lA s) s.heap H locs) (hl : lv_has ls 9 [(4, .int (nI i)), (3, .ref O), (2, .ref (Y 0)), (1, .ref X0), (0, .ref sb)]) (KK : LNext p l e s m below meth cd sb Q X0 O E E2 Y Z Z2 D y i j cells slots) : W p l e room_1 s m #[Value.ref sb] below meth cd H locs cells slots Q (F0 m 1020 ls []) := by
  have hc6 := S.K.c6
  have hb5 := S.K.b5
  have h60 := S.n60
  have hn : n < 2147483648 := by omega
  have ho := okO_lt S.K.or
  have h01 := S.K.op
  rcases idx_cases (xs (i + 1)) (c := c) (by omega) with h1 | ⟨k, hk, e1⟩
  · exact seg_lasts l C hi rfl (fun sz => h_L_lasts_T1 l D y X0 O _ g _ (c_X3_lasts_T1 l hl0 D y X0 E E2 t o q b c bc n ar fi re T _ h1 hc6) ⟨rfl, rfl, by decide, by decide⟩ rfl sz) (fun sz => c_X5_lasts_N1 l D y Y Z Z2 th t c q b' bc n ar fi re T' _ h1 hc6 sz) rfl rfl (by decide) (c_X5_thrown l D y Y Z Z2 _ _ _ _ _ _ _ _ _ _ _) (fun h9 => absurd h9 (by decide)) rfl rfl rfl rfl hc hP hD hS hl (fun _ _ _ hP hD hS hl => KK _ _ _ _ (LInv.mk' (S.up) rfl rfl rfl rfl rfl rfl rfl rfl) hP hD hS hl)
  · obtain ⟨hall, hend⟩ := lasts_eq (t := t) (n := n) (ar := ar) (fi := fi) (re := re) (T := T) S.K (wasB_r S.r) hk
    have hN := firstF_le (fun i => heldB (itT i (copyT (t, o, q, b, c, bc, n, ar, fi, re) T)).2.2.1 k && decide (0 < (itT i (copyT (t, o, q, b, c, bc, n, ar, fi, re) T)).2.2.1 2 k)) 100
    have hX := fun sz => c_X3_lasts l D y X0 E E2 t o q b c bc n ar fi re T k hk (by omega) hc6 hb5 ho h01 sz
    generalize (firstF (fun i => heldB (itT i (copyT (t, o, q, b, c, bc, n, ar, fi, re) T)).2.2.1 k && decide (0 < (itT i (copyT (t, o, q, b, c, bc, n, ar, fi, re) T)).2.2.1 2 k)) 100) = N at hX hall hend hN
    exact seg_lasts l C hi e1 (fun sz => h_L_lasts l D y X0 O _ g _ _ _ hX ⟨rfl, rfl, by decide, by decide⟩ rfl rfl sz) (fun sz => c_X5_lasts l D y Y Z Z2 th t c q b' bc n ar fi re T' k N hk (by omega) hc6 hb5 hall hend sz) rfl rfl (by decide) (c_X5_thrown l D y Y Z Z2 _ _ _ _ _ _ _ _ _ _ _) (fun _ => updL_at _ _ _) rfl rfl rfl rfl hc hP hD hS hl (fun _ _ _ hP hD hS hl => KK _ _ _ _ (LInv.mk' (S.up) rfl rfl rfl rfl rfl rfl rfl rfl) hP hD hS hl)
