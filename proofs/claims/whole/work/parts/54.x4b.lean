theorem z_arr_eq {D : va_G} {ws : va_W} {H : Heap} {k a n : Nat} {cA : ClassId} {f g : Nat → Int32} (hP : va_P D vwCl ws H) (hk : ws[k]? = some (a, .inl (cA, n, .inl f))) (h : ∀ i, i < n → g i = f i) : va_P D vwCl (ws.set k (a, .inl (cA, n, .inl g))) H := by
  intro j z hj
  by_cases hjk : j = k
  · subst hjk
    have hl := (List.getElem?_eq_some_iff.mp hk).1
    rw [List.getElem?_set_self hl] at hj
    cases hj
    have h1 : H[a]? = some (arrV cA n (fun j => .int (f j))) := hP j _ hk
    show H[a]? = some (arrV cA n (fun j => .int (g j)))
    rw [h1]
    congr 1
    unfold arrV
    congr 1
    apply congrArg
    funext i
    show Value.int (f i.val) = Value.int (g i.val)
    rw [h i.val i.isLt]
  · rw [List.getElem?_set_ne (Ne.symm hjk)] at hj
    exact hP j z hj
section ZG
variable {p : Program} {l : Launch} {e : Env} {R : Room} {s : State} {m : MethodId} {args : Array Value} {below : List Frame} {meth : Method} {c : Code} {H : Heap} {locs : List Loc} {cells slots : Nat} {Q : State → Prop}
variable {cc : ByteArray} {pc : Nat} {ls : Array Slot} {rest : List Value} {D : va_G} {A0 : Nat → Prop} {H0 : Heap}
theorem z_aldG (hx : p.tables.exec = Jvm.exec) (hb : c.code = cc) {ws : va_W} {tys : List (ClassId × FieldType)} {cA : ClassId} (hK : va_K D vwCl tys s) (hP : va_P D vwCl ws H) {a : Nat} (q0 t0 : Nat) {n : Nat} {f : Nat → Int32} (ha : ws[q0]? = some (a, .inl (cA, n, .inl f))) (ht : tys[t0]? = some (cA, .int)) {i : Int32} (k : Nat) (hi : i = nI k) (hk : k < n) (hn : n < 2 ^ 31) (hdg : decode cc pc = .ok (.iaload, 1))
    (kk : W p l e R s m args below meth c H locs cells slots Q (F0 m (pc + 1) ls (.int (f k) :: rest))) : W p l e R s m args below meth c H locs cells slots Q (F0 m pc ls (.int i :: .ref a :: rest)) := by
  subst hi
  refine va_iald hx hb hK hP q0 t0 ha ht (vp_in_nI hk hn) hdg ?_
  rw [nI_clamp (Nat.lt_trans hk hn)]
  exact kk
theorem z_astG (hx : p.tables.exec = Jvm.exec) (hb : c.code = cc) {ws ws1 : va_W} {tys : List (ClassId × FieldType)} {cA : ClassId} (hK : va_K D vwCl tys s) (hP : va_P D vwCl ws H) (hD : va_D A0 ws) (hS : va_S A0 H0 H locs) {a : Nat} (q0 t0 : Nat) {n : Nat} {f : Nat → Int32} (ha : ws[q0]? = some (a, .inl (cA, n, .inl f))) (ht : tys[t0]? = some (cA, .int)) {i x : Int32} (k : Nat) (hi : i = nI k) (hk : k < n) (hn : n < 2 ^ 31) (hset : ws.set q0 (a, .inl (cA, n, .inl (upd f k x))) = ws1) (hdg : decode cc pc = .ok (.iastore, 1))
    (kk : ∀ (H1 : Heap) (locs1 : List Loc), va_P D vwCl ws1 H1 → va_D A0 ws1 → va_S A0 H0 H1 locs1 → W p l e R s m args below meth c H1 locs1 cells slots Q (F0 m (pc + 1) ls rest)) : W p l e R s m args below meth c H locs cells slots Q (F0 m pc ls (.int x :: .int i :: .ref a :: rest)) := by
  subst hi; subst hset
  refine va_iast hx hb hK hP hD hS q0 t0 ha ht (vp_in_nI hk hn) hdg ?_
  rw [nI_clamp (Nat.lt_trans hk hn)]
  exact kk
end ZG
theorem guE_far {c j m : Nat} {q b : Fld} {fi : Int32} (h : ¬ b 2 j < 39) : guE c j (m + 1) (q, b, fi) = (q, b, fi) := by rw [guE_s]; exact if_neg h
theorem guE_hit {c j m : Nat} {q b : Fld} {fi : Int32} (h : b 2 j < 39) (h2 : ¬ (guB c j (q, b, fi)).2.2.2 = 0) : guE c j (m + 1) (q, b, fi) = guS c j (q, b, fi) := by rw [guE_s]; exact (if_pos h).trans (if_neg h2)
theorem guE_on {c j m : Nat} {q b : Fld} {fi : Int32} (h : b 2 j < 39) (h2 : (guB c j (q, b, fi)).2.2.2 = 0) : guE c j (m + 1) (q, b, fi) = guE c j m (guS c j (q, b, fi)) := by rw [guE_s]; exact (if_pos h).trans (if_pos h2)

theorem c_X4_breaks_e (l : Launch) (D : va_G) (y : Nat → ClassId) (Y Z : Nat → Nat) (r1 r2 : Nat) (th : Int32) (t : Nat → Int32) (c : Nat) (q b : Fld) (bc n : Nat) (ar fi rn : Int32) (j : Nat) (hj : j < 5) (hc : c ≤ 6) (bp bw br : Int32) (e1 : b 2 j = bp) (e2 : b 1 j = bw) (e3 : b 3 j = br) (sz : Nat) : zMN l yX4_breaks wsX4_breaks { frames := 2, cells := 0, slots := 0, locals := 43 } D y [.ref (Z 0), .int (nI j)] (mW Y Z r1 r2 y th t c q b bc n ar fi rn) sz (some (.int (bkE q c bp bw fi br).2.2.2)) (mW Y Z r1 r2 y th t c (bkE q c bp bw fi br).1 (up2 b 3 j (bkE q c bp bw fi br).2.2.1) bc n ar (bkE q c bp bw fi br).2.1 rn) 0 0 := by
  subst e1 e2 e3; exact c_X4_breaks l D y Y Z r1 r2 th t c q b bc n ar fi rn j hj hc sz
set_option maxHeartbeats 4000000 in
set_option maxRecDepth 100000 in
theorem c_X4_runDown (l : Launch) (D : va_G) (y : Nat → ClassId) (Y Z : Nat → Nat) (r1 r2 : Nat) (th : Int32) (t : Nat → Int32) (c : Nat) (q b : Fld) (bc n : Nat) (ar fi rn : Int32) (ask : Int32) (hc : c ≤ 6) (hn : n < 2147483648) (sz : Nat) : zMN l yX4_runDown wsX4_runDown { frames := 2, cells := 0, slots := 0, locals := 41 } D y [.ref (Z 0), .int ask] (mW Y Z r1 r2 y th t c q b bc n ar fi rn) sz (some (.int (dnO ask c 40 (q, runM t n, 0)).2.2)) (mW Y Z r1 r2 y th t c ((dnO ask c 40 (q, runM t n, 0)).1) b bc n ar fi rn) 0 0 := by
  refine zMN.of (cc := cX4_runDown) (maxL := 7) (ret := (some .int)) (own := RX4) (by decide) rfl (Nat.le_of_ble_eq_true rfl) rfl ?_
  intro p e s m args below meth cd ls A H locs hx hb hr hml hown hts hlocks hP hK hD hA hS hN hl hin
  have hS0 := hS
  have hl : lv_has ls 7 [(0, .ref (Z 0)), (1, .int ask)] := hl
  have hf3 : (Cond.fieldLink RX4 3 "StakeWeirsModel$State" "this$0" "LStakeWeirsModel;").before args s = true := hts _ (by decide +kernel)
  have hinX4 : ∀ w ∈ wsX40, w ∈ wsX4_runDown := by decide +kernel
  have hf86 : (Cond.fieldLinkNest "StakeWeirsModel$State" 86 "StakeWeirsModel" "weirs" "I" "StakeWeirsModel").before args s = true := va_Nw.use rfl (hN ("StakeWeirsModel$State", 86, "StakeWeirsModel", "weirs", "I", "StakeWeirsModel") (by decide +kernel))
  have hinX5 : ∀ w ∈ wsX50, w ∈ wsX4_runDown := by decide +kernel
  have hf89 : (Cond.fieldLinkNest "StakeWeirsModel$State" 89 "StakeWeirsModel" "place" "[I" "StakeWeirsModel").before args s = true := va_Nw.use rfl (hN ("StakeWeirsModel$State", 89, "StakeWeirsModel", "place", "[I", "StakeWeirsModel") (by decide +kernel))
  have hf28 : (Cond.fieldLink RX4 28 "StakeWeirsModel$State" "open" "[I").before args s = true := hts _ (by decide +kernel)
  have hf15 : (Cond.fieldLink RX4 15 "StakeWeirsModel$State" "stakes" "[I").before args s = true := hts _ (by decide +kernel)
  have hf19 : (Cond.fieldLink RX4 19 "StakeWeirsModel$State" "wattle" "[I").before args s = true := hts _ (by decide +kernel)
  have hf25 : (Cond.fieldLink RX4 25 "StakeWeirsModel$State" "eels" "[I").before args s = true := hts _ (by decide +kernel)
  have hlmin92 : (Cond.methodLink RX4 92 Lib.Math.min.name).before args s = true := hts _ (by decide +kernel)
  have hstmin : (Cond.static Lib.Math.min.name).before args s = true := hts _ (by decide +kernel)
  have hiM : (Cond.initialized "java/lang/Math").before args s = true := hts _ (by decide +kernel)
  have hcmin : (Cond.code Lib.Math.min.name Lib.Math.min.code 2 (some .int)).before args s = true := hts _ (by decide +kernel)
  refine lv_aload_n hx hb dX4_runDown_0 rfl (lv_at hl 0 rfl) ?_
  refine zcNRV (As := []) (rest := []) (st1 := [.int ((runM t n))]) ⟨hx, hb, hml, hown, hts⟩ (c_X4_run l D y Y Z r1 r2 th t c q b bc n ar fi rn  (by omega)) (cwV 0 hts gX4_runDown_X4_run rfl rfl rfl (by decide +kernel) ⟨Nat.le_of_ble_eq_true rfl, Nat.le_of_ble_eq_true rfl⟩) hN hK hP (ci := 4) (q0 := 4) rfl rfl rfl rfl hl.1 rfl (lv_room (Nat.le_of_ble_eq_true rfl)) dX4_runDown_1 ⟨Nat.le_of_ble_eq_true rfl, Nat.le_of_ble_eq_true rfl⟩ rfl ?_
  refine lv_istore_n (lv' := [(2, .int ((runM t n))), (0, .ref (Z 0)), (1, .int ask)]) hx hb dX4_runDown_4 rfl hl (by decide) rfl (fun ls hl => ?_)
  refine lv_iconst (v := 0) hx hb dX4_runDown_5 (by decide) ?_
  refine lv_istore_n (lv' := [(3, .int 0), (2, .int ((runM t n))), (0, .ref (Z 0)), (1, .int ask)]) hx hb dX4_runDown_6 rfl hl (by decide) rfl (fun ls hl => ?_)
  refine lv_bipush (v := 39) hx hb dX4_runDown_7 (by decide) ?_
  refine lv_istore (lv' := [(4, .int 39), (3, .int 0), (2, .int ((runM t n))), (0, .ref (Z 0)), (1, .int ask)]) hx hb dX4_runDown_9 hl (by decide) rfl (fun ls hl => ?_)
  have loopo : ∀ mm, mm ≤ 40 → ∀ (q1 : Fld) (lf td : Int32) (H : Heap) (locs : List Loc) (ls : Array Slot), dnO ask c mm (q1, lf, td) = dnO ask c 40 (q, runM t n, 0) → va_P D vwCl (mW Y Z r1 r2 y th t c q1 b bc n ar fi rn) H → va_D A (mW Y Z r1 r2 y th t c q1 b bc n ar fi rn) → va_S A s.heap H locs → lv_has ls 7 [(4, .int (pI mm)), (0, .ref (Z 0)), (1, .int ask), (2, .int lf), (3, .int td)] → W p l e ({ frames := 2, cells := 0, slots := 0, locals := 41 } : Room) s m args below meth cd H locs 0 0 (MQ below (zMQ (some (.int (dnO ask c 40 (q, runM t n, 0)).2.2)) D (mW Y Z r1 r2 y th t c ((dnO ask c 40 (q, runM t n, 0)).1) b bc n ar fi rn) A) args s 0 0 A) (F0 m 11 ls []) := by
    intro mm
    induction mm with
    | zero =>
      intro hmm q1 lf td H locs ls hE hP hD hS hl
      have hl : lv_has ls 7 [(4, .int ((-1))), (0, .ref (Z 0)), (1, .int ask), (2, .int lf), (3, .int td)] := hl
      refine lv_iload hx hb dX4_runDown_11 (lv_at hl 0 rfl) ?_
      refine lv_if_lt (tgt := 150) hx hb dX4_runDown_13 (by decide) (fun c1 => ?_) (fun c1 => ?_)
      · have d1 := Int32.not_le.mpr c1
        refine lv_iload_n hx hb dX4_runDown_150 rfl (lv_at hl 4 rfl) ?_
        exact zM_i hx hb hr hlocks hS dX4_runDown_151 (by rw [← hE]; rfl) (by rw [← hE]; exact hP)
      · exact absurd (by decide) c1
    | succ mm ih =>
      intro hmm q1 lf td H locs ls hE hP hD hS hl
      have hl : lv_has ls 7 [(4, .int (nI mm)), (0, .ref (Z 0)), (1, .int ask), (2, .int lf), (3, .int td)] := hl
      refine lv_iload hx hb dX4_runDown_11 (lv_at hl 0 rfl) ?_
      refine lv_if_lt (tgt := 150) hx hb dX4_runDown_13 (by decide) (fun c2 => ?_) (fun c2 => ?_)
      · exact absurd c2 (nI_nlt (a := mm) (b := 0) (by omega) (by omega))
      · have d2 := Int32.not_lt.mp c2
        refine lv_iconst (v := 0) hx hb dX4_runDown_16 (by decide) ?_
        refine lv_istore (lv' := [(5, .int 0), (4, .int (nI mm)), (0, .ref (Z 0)), (1, .int ask), (2, .int lf), (3, .int td)]) hx hb dX4_runDown_17 hl (by decide) rfl (fun ls hl => ?_)
        have loop3 : ∀ k, k ≤ c → ∀ (H : Heap) (locs : List Loc) (ls : Array Slot), va_P D vwCl (mW Y Z r1 r2 y th t c ((dnI (nI mm) ask k (q1, lf, td)).1) b bc n ar fi rn) H → va_D A (mW Y Z r1 r2 y th t c ((dnI (nI mm) ask k (q1, lf, td)).1) b bc n ar fi rn) → va_S A s.heap H locs → lv_has ls 7 [(5, .int (nI k)), (4, .int (nI mm)), (0, .ref (Z 0)), (1, .int ask), (2, .int ((dnI (nI mm) ask k (q1, lf, td)).2.1)), (3, .int ((dnI (nI mm) ask k (q1, lf, td)).2.2))] → W p l e ({ frames := 2, cells := 0, slots := 0, locals := 41 } : Room) s m args below meth cd H locs 0 0 (MQ below (zMQ (some (.int (dnO ask c 40 (q, runM t n, 0)).2.2)) D (mW Y Z r1 r2 y th t c ((dnO ask c 40 (q, runM t n, 0)).1) b bc n ar fi rn) A) args s 0 0 A) (F0 m 19 ls []) := by
          refine down ?_ ?_
          · intro H locs ls hP hD hS hl
            refine lv_iload hx hb dX4_runDown_19 (lv_at hl 0 rfl) ?_
            refine lv_aload_n hx hb dX4_runDown_21 rfl (lv_at hl 2 rfl) ?_
            refine va_get (D := D) (ci := 4) (v := .ref (Y 0)) (C := RX4) (T := TX4) (N := 16) hx hb hts hinX4 hown hK hP (4) rfl rfl 15 (by decide) hf3 (fun _ h9 => h9) rfl dX4_runDown_22 ?_
            refine va_getN (D := D) (ci := 5) (v := .int (nI c)) (C := RX5) (T := TX5) (N := 7) hx hb hts hinX5 hown hK hP (0) rfl rfl 2 (by decide) hf86 (fun _ h9 => h9) rfl dX4_runDown_25 ?_
            refine lv_icmp_ge (tgt := 144) hx hb dX4_runDown_28 (by decide) (fun c4 => ?_) (fun c4 => ?_)
            · have d4 := Int32.not_lt.mpr c4
              refine lv_iinc (v := (nI mm + (-1))) (lv' := [(4, .int ((nI mm + (-1)))), (5, .int (nI c)), (0, .ref (Z 0)), (1, .int ask), (2, .int ((dnI (nI mm) ask c (q1, lf, td)).2.1)), (3, .int ((dnI (nI mm) ask c (q1, lf, td)).2.2))]) hx hb dX4_runDown_144 hl (k := 1) rfl rfl (by decide) rfl (fun ls hl => ?_)
              refine lv_goto (tgt := 11) hx hb dX4_runDown_147 (by decide) ?_
              exact ih (by omega) _ _ _ H locs ls hE hP hD hS (by rw [← pI_m]; exact lv_sub hl [0, 2, 3, 4, 5] rfl)
            · exact absurd (nI_le (a := c) (b := c) (by omega) (by omega)) c4
          · intro k hkk ihk H locs ls hP hD hS hl
            refine lv_iload hx hb dX4_runDown_19 (lv_at hl 0 rfl) ?_
            refine lv_aload_n hx hb dX4_runDown_21 rfl (lv_at hl 2 rfl) ?_
            refine va_get (D := D) (ci := 4) (v := .ref (Y 0)) (C := RX4) (T := TX4) (N := 16) hx hb hts hinX4 hown hK hP (4) rfl rfl 15 (by decide) hf3 (fun _ h9 => h9) rfl dX4_runDown_22 ?_
            refine va_getN (D := D) (ci := 5) (v := .int (nI c)) (C := RX5) (T := TX5) (N := 7) hx hb hts hinX5 hown hK hP (0) rfl rfl 2 (by decide) hf86 (fun _ h9 => h9) rfl dX4_runDown_25 ?_
            refine lv_icmp_ge (tgt := 144) hx hb dX4_runDown_28 (by decide) (fun c5 => ?_) (fun c5 => ?_)
            · exact absurd c5 (nI_ge (a := k) (b := c) (by omega) (by omega))
            · have d5 := Int32.not_le.mp c5
              refine lv_aload_n hx hb dX4_runDown_31 rfl (lv_at hl 2 rfl) ?_
              refine va_get (D := D) (ci := 4) (v := .ref (Y 0)) (C := RX4) (T := TX4) (N := 16) hx hb hts hinX4 hown hK hP (4) rfl rfl 15 (by decide) hf3 (fun _ h9 => h9) rfl dX4_runDown_32 ?_
              refine va_getN (D := D) (ci := 5) (v := .ref (Y 2)) (C := RX5) (T := TX5) (N := 7) hx hb hts hinX5 hown hK hP (0) rfl rfl 3 (by decide) hf89 (fun _ h9 => h9) rfl dX4_runDown_35 ?_
              refine lv_iload hx hb dX4_runDown_38 (lv_at hl 0 rfl) ?_
              refine z_ald hx hb hK hP 2 (f := ((dnI (nI mm) ask k (q1, lf, td)).1) 0) rfl k rfl (by omega) (by decide) dX4_runDown_40 ?_
              refine lv_iload hx hb dX4_runDown_41 (lv_at hl 1 rfl) ?_
              refine lv_icmp_ne (tgt := 138) hx hb dX4_runDown_43 (by decide) (fun c6 => ?_) (fun c6 => ?_)
              · have d6 := c6
                refine lv_iinc (v := nI (k + 1)) (lv' := [(5, .int (nI (k + 1))), (4, .int (nI mm)), (0, .ref (Z 0)), (1, .int ask), (2, .int ((dnI (nI mm) ask k (q1, lf, td)).2.1)), (3, .int ((dnI (nI mm) ask k (q1, lf, td)).2.2))]) hx hb dX4_runDown_138 hl (k := 0) rfl (nI_1 _) (by decide) rfl (fun ls hl => ?_)
                refine lv_goto (tgt := 19) hx hb dX4_runDown_141 (by decide) ?_
                have e7 : (dnI (nI mm) ask (k + 1) (q1, lf, td)).2.1 = (dnI (nI mm) ask k (q1, lf, td)).2.1 := by simp [dnI_s, dnS, catchW, caughtI, c6, d6]
                have e8 : (dnI (nI mm) ask (k + 1) (q1, lf, td)).2.2 = (dnI (nI mm) ask k (q1, lf, td)).2.2 := by simp [dnI_s, dnS, catchW, caughtI, c6, d6]
                have e9 : (dnI (nI mm) ask (k + 1) (q1, lf, td)).1 = (dnI (nI mm) ask k (q1, lf, td)).1 := by simp [dnI_s, dnS, catchW, caughtI, c6, d6]
                refine ihk H locs ls ?_ ?_ hS ?_
                · first | exact hP | (simp only [e7, e8, e9]; exact hP)
                · first | exact hD | (simp only [e7, e8, e9]; exact hD)
                · first | exact lv_sub hl [0, 1, 2, 3, 4, 5] rfl | (simp only [e7, e8, e9]; exact lv_sub hl [0, 1, 2, 3, 4, 5] rfl)
              · have d6 := c6
                refine lv_aload_n hx hb dX4_runDown_46 rfl (lv_at hl 2 rfl) ?_
                refine lv_iload hx hb dX4_runDown_47 (lv_at hl 0 rfl) ?_
                refine zcRV (As := [.int (nI k)]) (rest := []) (st1 := [.int (zb (heldB ((dnI (nI mm) ask k (q1, lf, td)).1) k))]) ⟨hx, hb, hml, hown, hts⟩ (c_X4_isHeld l D y Y Z r1 r2 th t c ((dnI (nI mm) ask k (q1, lf, td)).1) b bc n ar fi rn k (by omega)) (cwV 1 hts gX4_runDown_X4_isHeld rfl rfl rfl (by decide +kernel) ⟨Nat.le_of_ble_eq_true rfl, Nat.le_of_ble_eq_true rfl⟩) hK hP (ci := 4) (q0 := 4) rfl rfl rfl rfl hl.1 rfl (lv_room (Nat.le_of_ble_eq_true rfl)) dX4_runDown_49 ⟨Nat.le_of_ble_eq_true rfl, Nat.le_of_ble_eq_true rfl⟩ rfl ?_
                refine lv_if_eq (tgt := 138) hx hb dX4_runDown_52 (by decide) (fun c10 => ?_) (fun c10 => ?_)
                · have c10 : heldB ((dnI (nI mm) ask k (q1, lf, td)).1) k = false := zb_f c10
                  refine lv_iinc (v := nI (k + 1)) (lv' := [(5, .int (nI (k + 1))), (4, .int (nI mm)), (0, .ref (Z 0)), (1, .int ask), (2, .int ((dnI (nI mm) ask k (q1, lf, td)).2.1)), (3, .int ((dnI (nI mm) ask k (q1, lf, td)).2.2))]) hx hb dX4_runDown_138 hl (k := 0) rfl (nI_1 _) (by decide) rfl (fun ls hl => ?_)
                  refine lv_goto (tgt := 19) hx hb dX4_runDown_141 (by decide) ?_
                  have e11 : (dnI (nI mm) ask (k + 1) (q1, lf, td)).2.1 = (dnI (nI mm) ask k (q1, lf, td)).2.1 := by simp [dnI_s, dnS, catchW, caughtI, c6, d6, c10]
                  have e12 : (dnI (nI mm) ask (k + 1) (q1, lf, td)).2.2 = (dnI (nI mm) ask k (q1, lf, td)).2.2 := by simp [dnI_s, dnS, catchW, caughtI, c6, d6, c10]
                  have e13 : (dnI (nI mm) ask (k + 1) (q1, lf, td)).1 = (dnI (nI mm) ask k (q1, lf, td)).1 := by simp [dnI_s, dnS, catchW, caughtI, c6, d6, c10]
                  refine ihk H locs ls ?_ ?_ hS ?_
                  · first | exact hP | (simp only [e11, e12, e13]; exact hP)
                  · first | exact hD | (simp only [e11, e12, e13]; exact hD)
                  · first | exact lv_sub hl [0, 1, 2, 3, 4, 5] rfl | (simp only [e11, e12, e13]; exact lv_sub hl [0, 1, 2, 3, 4, 5] rfl)
                · have c10 : heldB ((dnI (nI mm) ask k (q1, lf, td)).1) k = true := zb_t c10
                  refine lv_aload_n hx hb dX4_runDown_55 rfl (lv_at hl 2 rfl) ?_
                  refine va_get (D := D) (ci := 4) (v := .ref (Z 5)) (C := RX4) (T := TX4) (N := 16) hx hb hts hinX4 hown hK hP (4) rfl rfl 5 (by decide) hf28 (fun _ h9 => h9) rfl dX4_runDown_56 ?_
                  refine lv_iload hx hb dX4_runDown_59 (lv_at hl 0 rfl) ?_
                  refine z_ald hx hb hK hP 9 (f := ((dnI (nI mm) ask k (q1, lf, td)).1) 6) rfl k rfl (by omega) (by decide) dX4_runDown_61 ?_
                  refine lv_iconst (v := 1) hx hb dX4_runDown_62 (by decide) ?_
                  refine lv_icmp_ne (tgt := 69) hx hb dX4_runDown_63 (by decide) (fun c14 => ?_) (fun c14 => ?_)
                  · have d14 := c14
                    refine lv_iload_n hx hb dX4_runDown_69 rfl (lv_at hl 4 rfl) ?_
                    refine lv_aload_n hx hb dX4_runDown_70 rfl (lv_at hl 2 rfl) ?_
                    refine va_get (D := D) (ci := 4) (v := .ref (Z 1)) (C := RX4) (T := TX4) (N := 16) hx hb hts hinX4 hown hK hP (4) rfl rfl 1 (by decide) hf15 (fun _ h9 => h9) rfl dX4_runDown_71 ?_
                    refine lv_iload hx hb dX4_runDown_74 (lv_at hl 0 rfl) ?_
                    refine z_ald hx hb hK hP 5 (f := ((dnI (nI mm) ask k (q1, lf, td)).1) 1) rfl k rfl (by omega) (by decide) dX4_runDown_76 ?_
                    refine lv_imul hx hb dX4_runDown_77 ?_
                    refine lv_aload_n hx hb dX4_runDown_78 rfl (lv_at hl 2 rfl) ?_
                    refine va_get (D := D) (ci := 4) (v := .ref (Z 2)) (C := RX4) (T := TX4) (N := 16) hx hb hts hinX4 hown hK hP (4) rfl rfl 2 (by decide) hf19 (fun _ h9 => h9) rfl dX4_runDown_79 ?_
                    refine lv_iload hx hb dX4_runDown_82 (lv_at hl 0 rfl) ?_
                    refine z_ald hx hb hK hP 6 (f := ((dnI (nI mm) ask k (q1, lf, td)).1) 2) rfl k rfl (by omega) (by decide) dX4_runDown_84 ?_
                    refine lv_imul hx hb dX4_runDown_85 ?_
                    refine lv_sipush (v := 3000) hx hb dX4_runDown_86 (by decide) ?_
                    refine lv_idiv hx hb dX4_runDown_89 (by decide) ?_
                    refine lv_sipush (v := 200) hx hb dX4_runDown_90 (by decide) ?_
                    refine lv_aload_n hx hb dX4_runDown_93 rfl (lv_at hl 2 rfl) ?_
                    refine va_get (D := D) (ci := 4) (v := .ref (Z 4)) (C := RX4) (T := TX4) (N := 16) hx hb hts hinX4 hown hK hP (4) rfl rfl 4 (by decide) hf25 (fun _ h9 => h9) rfl dX4_runDown_94 ?_
                    refine lv_iload hx hb dX4_runDown_97 (lv_at hl 0 rfl) ?_
                    refine z_ald hx hb hK hP 8 (f := ((dnI (nI mm) ask k (q1, lf, td)).1) 5) rfl k rfl (by omega) (by decide) dX4_runDown_99 ?_
                    refine lv_isub hx hb dX4_runDown_100 ?_
                    refine va_mmin hx hb (hml.trans hl.1.symm) hown hlmin92 hstmin hiM hcmin (Nat.le_of_ble_eq_true rfl) (Nat.le_of_ble_eq_true rfl) (Nat.le_of_ble_eq_true rfl) (Nat.le_of_ble_eq_true rfl) dX4_runDown_101 ?_
                    refine lv_istore (lv' := [(6, .int ((minI (((((dnI (nI mm) ask k (q1, lf, td)).2.1 * (((dnI (nI mm) ask k (q1, lf, td)).1) 1 k)) * (((dnI (nI mm) ask k (q1, lf, td)).1) 2 k)) / 3000)) ((200 - (((dnI (nI mm) ask k (q1, lf, td)).1) 5 k)))))), (5, .int (nI k)), (4, .int (nI mm)), (0, .ref (Z 0)), (1, .int ask), (2, .int ((dnI (nI mm) ask k (q1, lf, td)).2.1)), (3, .int ((dnI (nI mm) ask k (q1, lf, td)).2.2))]) hx hb dX4_runDown_104 hl (by decide) rfl (fun ls hl => ?_)
                    refine lv_iload_n hx hb dX4_runDown_106 rfl (lv_at hl 5 rfl) ?_
                    refine lv_iload hx hb dX4_runDown_107 (lv_at hl 0 rfl) ?_
                    refine lv_isub hx hb dX4_runDown_109 ?_
                    refine lv_istore_n (lv' := [(2, .int (((dnI (nI mm) ask k (q1, lf, td)).2.1 - (minI (((((dnI (nI mm) ask k (q1, lf, td)).2.1 * (((dnI (nI mm) ask k (q1, lf, td)).1) 1 k)) * (((dnI (nI mm) ask k (q1, lf, td)).1) 2 k)) / 3000)) ((200 - (((dnI (nI mm) ask k (q1, lf, td)).1) 5 k))))))), (6, .int ((minI (((((dnI (nI mm) ask k (q1, lf, td)).2.1 * (((dnI (nI mm) ask k (q1, lf, td)).1) 1 k)) * (((dnI (nI mm) ask k (q1, lf, td)).1) 2 k)) / 3000)) ((200 - (((dnI (nI mm) ask k (q1, lf, td)).1) 5 k)))))), (5, .int (nI k)), (4, .int (nI mm)), (0, .ref (Z 0)), (1, .int ask), (3, .int ((dnI (nI mm) ask k (q1, lf, td)).2.2))]) hx hb dX4_runDown_110 rfl hl (by decide) rfl (fun ls hl => ?_)
                    refine lv_aload_n hx hb dX4_runDown_111 rfl (lv_at hl 4 rfl) ?_
                    refine va_get (D := D) (ci := 4) (v := .ref (Z 4)) (C := RX4) (T := TX4) (N := 16) hx hb hts hinX4 hown hK hP (4) rfl rfl 4 (by decide) hf25 (fun _ h9 => h9) rfl dX4_runDown_112 ?_
                    refine lv_iload hx hb dX4_runDown_115 (lv_at hl 2 rfl) ?_
                    refine lv_dup2_11 hx hb dX4_runDown_117 rfl rfl ?_
                    refine z_ald hx hb hK hP 8 (f := ((dnI (nI mm) ask k (q1, lf, td)).1) 5) rfl k rfl (by omega) (by decide) dX4_runDown_118 ?_
                    refine lv_iload hx hb dX4_runDown_119 (lv_at hl 1 rfl) ?_
                    refine lv_iadd hx hb dX4_runDown_121 ?_
                    refine z_ast hx hb hK hP hD hS 8 (f := ((dnI (nI mm) ask k (q1, lf, td)).1) 5) rfl k rfl (by omega) (by decide) (mW_q5 (k := k)) dX4_runDown_122 (fun H locs hP hD hS => ?_)
                    have hP : va_P D vwCl (mW Y Z r1 r2 y th t c (up2 ((dnI (nI mm) ask k (q1, lf, td)).1) 5 k ((((dnI (nI mm) ask k (q1, lf, td)).1) 5 k) + (minI (((((dnI (nI mm) ask k (q1, lf, td)).2.1 * (((dnI (nI mm) ask k (q1, lf, td)).1) 1 k)) * (((dnI (nI mm) ask k (q1, lf, td)).1) 2 k)) / 3000)) ((200 - (((dnI (nI mm) ask k (q1, lf, td)).1) 5 k)))))) b bc n ar fi rn) H := hP
                    have hD : va_D A (mW Y Z r1 r2 y th t c (up2 ((dnI (nI mm) ask k (q1, lf, td)).1) 5 k ((((dnI (nI mm) ask k (q1, lf, td)).1) 5 k) + (minI (((((dnI (nI mm) ask k (q1, lf, td)).2.1 * (((dnI (nI mm) ask k (q1, lf, td)).1) 1 k)) * (((dnI (nI mm) ask k (q1, lf, td)).1) 2 k)) / 3000)) ((200 - (((dnI (nI mm) ask k (q1, lf, td)).1) 5 k)))))) b bc n ar fi rn) := hD
                    refine lv_iload_n hx hb dX4_runDown_123 rfl (lv_at hl 6 rfl) ?_
                    refine lv_iload hx hb dX4_runDown_124 (lv_at hl 2 rfl) ?_
                    refine lv_iload_n hx hb dX4_runDown_126 rfl (lv_at hl 5 rfl) ?_
                    refine lv_icmp_ne (tgt := 135) hx hb dX4_runDown_127 (by decide) (fun c15 => ?_) (fun c15 => ?_)
                    · have d15 := c15
                      refine lv_iconst (v := 0) hx hb dX4_runDown_135 (by decide) ?_
                      refine lv_iadd hx hb dX4_runDown_136 ?_
                      refine lv_istore_n (lv' := [(3, .int (((dnI (nI mm) ask k (q1, lf, td)).2.2 + 0))), (2, .int (((dnI (nI mm) ask k (q1, lf, td)).2.1 - (minI (((((dnI (nI mm) ask k (q1, lf, td)).2.1 * (((dnI (nI mm) ask k (q1, lf, td)).1) 1 k)) * (((dnI (nI mm) ask k (q1, lf, td)).1) 2 k)) / 3000)) ((200 - (((dnI (nI mm) ask k (q1, lf, td)).1) 5 k))))))), (6, .int ((minI (((((dnI (nI mm) ask k (q1, lf, td)).2.1 * (((dnI (nI mm) ask k (q1, lf, td)).1) 1 k)) * (((dnI (nI mm) ask k (q1, lf, td)).1) 2 k)) / 3000)) ((200 - (((dnI (nI mm) ask k (q1, lf, td)).1) 5 k)))))), (5, .int (nI k)), (4, .int (nI mm)), (0, .ref (Z 0)), (1, .int ask)]) hx hb dX4_runDown_137 rfl hl (by decide) rfl (fun ls hl => ?_)
                      refine lv_iinc (v := nI (k + 1)) (lv' := [(5, .int (nI (k + 1))), (3, .int (((dnI (nI mm) ask k (q1, lf, td)).2.2 + 0))), (2, .int (((dnI (nI mm) ask k (q1, lf, td)).2.1 - (minI (((((dnI (nI mm) ask k (q1, lf, td)).2.1 * (((dnI (nI mm) ask k (q1, lf, td)).1) 1 k)) * (((dnI (nI mm) ask k (q1, lf, td)).1) 2 k)) / 3000)) ((200 - (((dnI (nI mm) ask k (q1, lf, td)).1) 5 k))))))), (6, .int ((minI (((((dnI (nI mm) ask k (q1, lf, td)).2.1 * (((dnI (nI mm) ask k (q1, lf, td)).1) 1 k)) * (((dnI (nI mm) ask k (q1, lf, td)).1) 2 k)) / 3000)) ((200 - (((dnI (nI mm) ask k (q1, lf, td)).1) 5 k)))))), (4, .int (nI mm)), (0, .ref (Z 0)), (1, .int ask)]) hx hb dX4_runDown_138 hl (k := 3) rfl (nI_1 _) (by decide) rfl (fun ls hl => ?_)
                      refine lv_goto (tgt := 19) hx hb dX4_runDown_141 (by decide) ?_
                      have e16 : (dnI (nI mm) ask (k + 1) (q1, lf, td)).2.1 = ((dnI (nI mm) ask k (q1, lf, td)).2.1 - (minI (((((dnI (nI mm) ask k (q1, lf, td)).2.1 * (((dnI (nI mm) ask k (q1, lf, td)).1) 1 k)) * (((dnI (nI mm) ask k (q1, lf, td)).1) 2 k)) / 3000)) ((200 - (((dnI (nI mm) ask k (q1, lf, td)).1) 5 k))))) := by simp [dnI_s, dnS, catchW, caughtI, c6, d6, c10, c14, d14, c15, d15]
                      have e17 : (dnI (nI mm) ask (k + 1) (q1, lf, td)).2.2 = ((dnI (nI mm) ask k (q1, lf, td)).2.2 + 0) := by simp [dnI_s, dnS, catchW, caughtI, c6, d6, c10, c14, d14, c15, d15]
                      have e18 : (dnI (nI mm) ask (k + 1) (q1, lf, td)).1 = (up2 ((dnI (nI mm) ask k (q1, lf, td)).1) 5 k ((((dnI (nI mm) ask k (q1, lf, td)).1) 5 k) + (minI (((((dnI (nI mm) ask k (q1, lf, td)).2.1 * (((dnI (nI mm) ask k (q1, lf, td)).1) 1 k)) * (((dnI (nI mm) ask k (q1, lf, td)).1) 2 k)) / 3000)) ((200 - (((dnI (nI mm) ask k (q1, lf, td)).1) 5 k)))))) := by simp [dnI_s, dnS, catchW, caughtI, c6, d6, c10, c14, d14, c15, d15]
                      refine ihk H locs ls ?_ ?_ hS ?_
                      · first | exact hP | (simp only [e16, e17, e18]; exact hP)
                      · first | exact hD | (simp only [e16, e17, e18]; exact hD)
                      · first | exact lv_sub hl [0, 4, 5, 6, 2, 1] rfl | (simp only [e16, e17, e18]; exact lv_sub hl [0, 4, 5, 6, 2, 1] rfl)
                    · have d15 := c15
                      refine lv_iload hx hb dX4_runDown_130 (lv_at hl 1 rfl) ?_
                      refine lv_goto (tgt := 136) hx hb dX4_runDown_132 (by decide) ?_
                      refine lv_iadd hx hb dX4_runDown_136 ?_
                      refine lv_istore_n (lv' := [(3, .int (((dnI (nI mm) ask k (q1, lf, td)).2.2 + (minI (((((dnI (nI mm) ask k (q1, lf, td)).2.1 * (((dnI (nI mm) ask k (q1, lf, td)).1) 1 k)) * (((dnI (nI mm) ask k (q1, lf, td)).1) 2 k)) / 3000)) ((200 - (((dnI (nI mm) ask k (q1, lf, td)).1) 5 k))))))), (2, .int (((dnI (nI mm) ask k (q1, lf, td)).2.1 - (minI (((((dnI (nI mm) ask k (q1, lf, td)).2.1 * (((dnI (nI mm) ask k (q1, lf, td)).1) 1 k)) * (((dnI (nI mm) ask k (q1, lf, td)).1) 2 k)) / 3000)) ((200 - (((dnI (nI mm) ask k (q1, lf, td)).1) 5 k))))))), (6, .int ((minI (((((dnI (nI mm) ask k (q1, lf, td)).2.1 * (((dnI (nI mm) ask k (q1, lf, td)).1) 1 k)) * (((dnI (nI mm) ask k (q1, lf, td)).1) 2 k)) / 3000)) ((200 - (((dnI (nI mm) ask k (q1, lf, td)).1) 5 k)))))), (5, .int (nI k)), (4, .int (nI mm)), (0, .ref (Z 0)), (1, .int ask)]) hx hb dX4_runDown_137 rfl hl (by decide) rfl (fun ls hl => ?_)
                      refine lv_iinc (v := nI (k + 1)) (lv' := [(5, .int (nI (k + 1))), (3, .int (((dnI (nI mm) ask k (q1, lf, td)).2.2 + (minI (((((dnI (nI mm) ask k (q1, lf, td)).2.1 * (((dnI (nI mm) ask k (q1, lf, td)).1) 1 k)) * (((dnI (nI mm) ask k (q1, lf, td)).1) 2 k)) / 3000)) ((200 - (((dnI (nI mm) ask k (q1, lf, td)).1) 5 k))))))), (2, .int (((dnI (nI mm) ask k (q1, lf, td)).2.1 - (minI (((((dnI (nI mm) ask k (q1, lf, td)).2.1 * (((dnI (nI mm) ask k (q1, lf, td)).1) 1 k)) * (((dnI (nI mm) ask k (q1, lf, td)).1) 2 k)) / 3000)) ((200 - (((dnI (nI mm) ask k (q1, lf, td)).1) 5 k))))))), (6, .int ((minI (((((dnI (nI mm) ask k (q1, lf, td)).2.1 * (((dnI (nI mm) ask k (q1, lf, td)).1) 1 k)) * (((dnI (nI mm) ask k (q1, lf, td)).1) 2 k)) / 3000)) ((200 - (((dnI (nI mm) ask k (q1, lf, td)).1) 5 k)))))), (4, .int (nI mm)), (0, .ref (Z 0)), (1, .int ask)]) hx hb dX4_runDown_138 hl (k := 3) rfl (nI_1 _) (by decide) rfl (fun ls hl => ?_)
                      refine lv_goto (tgt := 19) hx hb dX4_runDown_141 (by decide) ?_
                      have e19 : (dnI (nI mm) ask (k + 1) (q1, lf, td)).2.1 = ((dnI (nI mm) ask k (q1, lf, td)).2.1 - (minI (((((dnI (nI mm) ask k (q1, lf, td)).2.1 * (((dnI (nI mm) ask k (q1, lf, td)).1) 1 k)) * (((dnI (nI mm) ask k (q1, lf, td)).1) 2 k)) / 3000)) ((200 - (((dnI (nI mm) ask k (q1, lf, td)).1) 5 k))))) := by simp [dnI_s, dnS, catchW, caughtI, c6, d6, c10, c14, d14, c15, d15]
                      have e20 : (dnI (nI mm) ask (k + 1) (q1, lf, td)).2.2 = ((dnI (nI mm) ask k (q1, lf, td)).2.2 + (minI (((((dnI (nI mm) ask k (q1, lf, td)).2.1 * (((dnI (nI mm) ask k (q1, lf, td)).1) 1 k)) * (((dnI (nI mm) ask k (q1, lf, td)).1) 2 k)) / 3000)) ((200 - (((dnI (nI mm) ask k (q1, lf, td)).1) 5 k))))) := by simp [dnI_s, dnS, catchW, caughtI, c6, d6, c10, c14, d14, c15, d15]
                      have e21 : (dnI (nI mm) ask (k + 1) (q1, lf, td)).1 = (up2 ((dnI (nI mm) ask k (q1, lf, td)).1) 5 k ((((dnI (nI mm) ask k (q1, lf, td)).1) 5 k) + (minI (((((dnI (nI mm) ask k (q1, lf, td)).2.1 * (((dnI (nI mm) ask k (q1, lf, td)).1) 1 k)) * (((dnI (nI mm) ask k (q1, lf, td)).1) 2 k)) / 3000)) ((200 - (((dnI (nI mm) ask k (q1, lf, td)).1) 5 k)))))) := by simp [dnI_s, dnS, catchW, caughtI, c6, d6, c10, c14, d14, c15, d15]
                      refine ihk H locs ls ?_ ?_ hS ?_
                      · first | exact hP | (simp only [e19, e20, e21]; exact hP)
                      · first | exact hD | (simp only [e19, e20, e21]; exact hD)
                      · first | exact lv_sub hl [0, 4, 5, 6, 2, 1] rfl | (simp only [e19, e20, e21]; exact lv_sub hl [0, 4, 5, 6, 2, 1] rfl)
                  · have d14 := c14
                    refine lv_goto (tgt := 138) hx hb dX4_runDown_66 (by decide) ?_
                    refine lv_iinc (v := nI (k + 1)) (lv' := [(5, .int (nI (k + 1))), (4, .int (nI mm)), (0, .ref (Z 0)), (1, .int ask), (2, .int ((dnI (nI mm) ask k (q1, lf, td)).2.1)), (3, .int ((dnI (nI mm) ask k (q1, lf, td)).2.2))]) hx hb dX4_runDown_138 hl (k := 0) rfl (nI_1 _) (by decide) rfl (fun ls hl => ?_)
                    refine lv_goto (tgt := 19) hx hb dX4_runDown_141 (by decide) ?_
                    have e22 : (dnI (nI mm) ask (k + 1) (q1, lf, td)).2.1 = (dnI (nI mm) ask k (q1, lf, td)).2.1 := by simp [dnI_s, dnS, catchW, caughtI, c6, d6, c10, c14, d14]
                    have e23 : (dnI (nI mm) ask (k + 1) (q1, lf, td)).2.2 = (dnI (nI mm) ask k (q1, lf, td)).2.2 := by simp [dnI_s, dnS, catchW, caughtI, c6, d6, c10, c14, d14]
                    have e24 : (dnI (nI mm) ask (k + 1) (q1, lf, td)).1 = (dnI (nI mm) ask k (q1, lf, td)).1 := by simp [dnI_s, dnS, catchW, caughtI, c6, d6, c10, c14, d14]
                    refine ihk H locs ls ?_ ?_ hS ?_
                    · first | exact hP | (simp only [e22, e23, e24]; exact hP)
                    · first | exact hD | (simp only [e22, e23, e24]; exact hD)
                    · first | exact lv_sub hl [0, 1, 2, 3, 4, 5] rfl | (simp only [e22, e23, e24]; exact lv_sub hl [0, 1, 2, 3, 4, 5] rfl)
        exact loop3 0 (Nat.zero_le _) H locs ls hP hD hS (lv_sub hl [0, 1, 2, 3, 4, 5] rfl)
  exact loopo 40 (Nat.le_refl _) q (runM t n) 0 H locs ls rfl hP hD hS (lv_sub hl [0, 3, 4, 2, 1] rfl)
set_option maxHeartbeats 4000000 in
set_option maxRecDepth 100000 in
theorem c_X4_goUp (l : Launch) (D : va_G) (y : Nat → ClassId) (Y Z : Nat → Nat) (r1 r2 : Nat) (th : Int32) (t : Nat → Int32) (c : Nat) (q b : Fld) (bc n : Nat) (ar fi rn : Int32) (j : Nat) (hj : j < 5) (hc : c ≤ 6) (sz : Nat) : zMN l yX4_goUp wsX4_goUp { frames := 3, cells := 0, slots := 0, locals := 67 } D y [.ref (Z 0), .int (nI j)] (mW Y Z r1 r2 y th t c q b bc n ar fi rn) sz (none) (mW Y Z r1 r2 y th t c ((guE c j 5 (q, b, fi)).1) ((guE c j 5 (q, b, fi)).2.1) bc n ar ((guE c j 5 (q, b, fi)).2.2) rn) 0 0 := by
  refine zMN.of (cc := cX4_goUp) (maxL := 3) (ret := none) (own := RX4) (by decide) rfl (Nat.le_of_ble_eq_true rfl) rfl ?_
  intro p e s m args below meth cd ls A H locs hx hb hr hml hown hts hlocks hP hK hD hA hS hN hl hin
  have hS0 := hS
  have hl : lv_has ls 3 [(0, .ref (Z 0)), (1, .int (nI j))] := hl
  have hf37 : (Cond.fieldLink RX4 37 "StakeWeirsModel$State" "at" "[I").before args s = true := hts _ (by decide +kernel)
  have hinX4 : ∀ w ∈ wsX40, w ∈ wsX4_goUp := by decide +kernel
  refine lv_iconst (v := 0) hx hb dX4_goUp_0 (by decide) ?_
  refine lv_istore_n (lv' := [(2, .int 0), (0, .ref (Z 0)), (1, .int (nI j))]) hx hb dX4_goUp_1 rfl hl (by decide) rfl (fun ls hl => ?_)
  have loopo : ∀ mm, mm ≤ 5 → ∀ (q1 b1 : Fld) (f1 : Int32) (H : Heap) (locs : List Loc) (ls : Array Slot), guE c j mm (q1, b1, f1) = guE c j 5 (q, b, fi) → va_P D vwCl (mW Y Z r1 r2 y th t c q1 b1 bc n ar f1 rn) H → va_D A (mW Y Z r1 r2 y th t c q1 b1 bc n ar f1 rn) → va_S A s.heap H locs → lv_has ls 3 [(2, .int (nI (5 - mm))), (0, .ref (Z 0)), (1, .int (nI j))] → W p l e ({ frames := 3, cells := 0, slots := 0, locals := 67 } : Room) s m args below meth cd H locs 0 0 (MQ below (zMQ (none) D (mW Y Z r1 r2 y th t c ((guE c j 5 (q, b, fi)).1) ((guE c j 5 (q, b, fi)).2.1) bc n ar ((guE c j 5 (q, b, fi)).2.2) rn) A) args s 0 0 A) (F0 m 2 ls []) := by
    intro mm
    induction mm with
    | zero =>
      intro hmm q1 b1 f1 H locs ls hE hP hD hS hl
      refine lv_iload_n hx hb dX4_goUp_2 rfl (lv_at hl 0 rfl) ?_
      refine lv_iconst (v := 5) hx hb dX4_goUp_3 (by decide) ?_
      refine lv_icmp_ge (tgt := 43) hx hb dX4_goUp_4 (by decide) (fun c1 => ?_) (fun c1 => ?_)
      · have d1 := Int32.not_lt.mpr c1
        exact zM_v hx hb hr hlocks hS dX4_goUp_43 rfl (by have hE2 : (q1, b1, f1) = guE c j 5 (q, b, fi) := hE; rw [← hE2]; exact hP)
      · exact absurd (nI_le (a := 5) (b := (5 - 0)) (by omega) (by omega)) c1
    | succ mm ih =>
      intro hmm q1 b1 f1 H locs ls hE hP hD hS hl
      refine lv_iload_n hx hb dX4_goUp_2 rfl (lv_at hl 0 rfl) ?_
      refine lv_iconst (v := 5) hx hb dX4_goUp_3 (by decide) ?_
      refine lv_icmp_ge (tgt := 43) hx hb dX4_goUp_4 (by decide) (fun c2 => ?_) (fun c2 => ?_)
      · exact absurd c2 (nI_ge (a := (5 - (mm + 1))) (b := 5) (by omega) (by omega))
      · have d2 := Int32.not_le.mp c2
        refine lv_aload_n hx hb dX4_goUp_7 rfl (lv_at hl 1 rfl) ?_
        refine va_get (D := D) (ci := 4) (v := .ref (Z 8)) (C := RX4) (T := TX4) (N := 16) hx hb hts hinX4 hown hK hP (4) rfl rfl 9 (by decide) hf37 (fun _ h9 => h9) rfl dX4_goUp_8 ?_
        refine lv_iload_n hx hb dX4_goUp_11 rfl (lv_at hl 2 rfl) ?_
        refine z_ald hx hb hK hP 12 (f := b1 2) rfl j rfl (by omega) (by decide) dX4_goUp_12 ?_
        refine lv_bipush (v := 39) hx hb dX4_goUp_13 (by decide) ?_
        refine lv_icmp_ge (tgt := 43) hx hb dX4_goUp_15 (by decide) (fun c3 => ?_) (fun c3 => ?_)
        · have d3 := Int32.not_lt.mpr c3
          exact zM_v hx hb hr hlocks hS dX4_goUp_43 rfl (by have hE2 := (guE_far d3).symm.trans hE; rw [← hE2]; exact hP)
        · have d3 := Int32.not_le.mp c3
          refine lv_aload_n hx hb dX4_goUp_18 rfl (lv_at hl 1 rfl) ?_
          refine va_get (D := D) (ci := 4) (v := .ref (Z 8)) (C := RX4) (T := TX4) (N := 16) hx hb hts hinX4 hown hK hP (4) rfl rfl 9 (by decide) hf37 (fun _ h9 => h9) rfl dX4_goUp_19 ?_
          refine lv_iload_n hx hb dX4_goUp_22 rfl (lv_at hl 2 rfl) ?_
          refine lv_dup2_11 hx hb dX4_goUp_23 rfl rfl ?_
          refine z_ald hx hb hK hP 12 (f := b1 2) rfl j rfl (by omega) (by decide) dX4_goUp_24 ?_
          refine lv_iconst (v := 1) hx hb dX4_goUp_25 (by decide) ?_
          refine lv_iadd hx hb dX4_goUp_26 ?_
          refine z_ast hx hb hK hP hD hS 12 (f := b1 2) rfl j rfl (by omega) (by decide) (mW_b2 (k := j)) dX4_goUp_27 (fun H locs hP hD hS => ?_)
          have hP : va_P D vwCl (mW Y Z r1 r2 y th t c q1 (up2 b1 2 j ((b1 2 j) + 1)) bc n ar f1 rn) H := hP
          have hD : va_D A (mW Y Z r1 r2 y th t c q1 (up2 b1 2 j ((b1 2 j) + 1)) bc n ar f1 rn) := hD
          refine lv_aload_n hx hb dX4_goUp_28 rfl (lv_at hl 1 rfl) ?_
          refine lv_iload_n hx hb dX4_goUp_29 rfl (lv_at hl 2 rfl) ?_
          refine zcNMV (As := [.int (nI j)]) (rest := []) (st1 := [.int ((bkE q1 c ((b1 2 j) + 1) (b1 1 j) f1 (b1 3 j)).2.2.2)]) (cells1 := 0) (slots1 := 0) ⟨hx, hb, hml, hown, hts⟩ (c_X4_breaks_e l D y Y Z r1 r2 th t c q1 (up2 b1 2 j ((b1 2 j) + 1)) bc n ar f1 rn j (by omega) (by omega) ((b1 2 j) + 1) (b1 1 j) (b1 3 j) (up2_s _ _ _ _) rfl rfl _) (cwV 1 hts gX4_goUp_X4_breaks rfl rfl rfl (by decide +kernel) ⟨Nat.le_of_ble_eq_true rfl, Nat.le_of_ble_eq_true rfl⟩) hN hK hP (z_D_T hD) (ci := 4) (q0 := 4) rfl rfl rfl rfl hl.1 rfl (lv_room (Nat.le_of_ble_eq_true rfl)) dX4_goUp_30 hS (z_sub_F hD hS hA z_in_r) ⟨Nat.le_of_ble_eq_true rfl, Nat.le_of_ble_eq_true rfl⟩ rfl rfl rfl (fun H locs hP1 hz hfr hS => ?_)
          have hD := z_D_adr hD (show (mW Y Z r1 r2 y th t c ((bkE q1 c ((b1 2 j) + 1) (b1 1 j) f1 (b1 3 j)).1) (up2 (up2 b1 2 j ((b1 2 j) + 1)) 3 j (bkE q1 c ((b1 2 j) + 1) (b1 1 j) f1 (b1 3 j)).2.2.1) bc n ar ((bkE q1 c ((b1 2 j) + 1) (b1 1 j) f1 (b1 3 j)).2.1) rn).map Prod.fst = _ from rfl)
          have hP := hP1
          refine lv_if_eq (tgt := 37) hx hb dX4_goUp_33 (by decide) (fun c4 => ?_) (fun c4 => ?_)
          · have d4 := c4
            refine lv_iinc (v := nI ((5 - (mm + 1)) + 1)) (lv' := [(2, .int (nI ((5 - (mm + 1)) + 1))), (0, .ref (Z 0)), (1, .int (nI j))]) hx hb dX4_goUp_37 hl (k := 0) rfl (nI_1 _) (by decide) rfl (fun ls hl => ?_)
            refine lv_goto (tgt := 2) hx hb dX4_goUp_40 (by decide) ?_
            refine ih (by omega) _ _ _ H locs ls (Eq.trans (guE_on d3 c4).symm hE) hP hD hS ?_
            rw [show 5 - mm = 5 - (mm + 1) + 1 from by omega]; exact lv_sub hl [0, 1, 2] rfl
          · have d4 := c4
            exact zM_v hx hb hr hlocks hS dX4_goUp_36 rfl (by have hE2 := (guE_hit d3 c4).symm.trans hE; rw [← hE2]; exact hP)
  exact loopo 5 (Nat.le_refl _) q b fi H locs ls rfl hP hD hS (lv_sub hl [0, 1, 2] rfl)
set_option maxHeartbeats 4000000 in
set_option maxRecDepth 100000 in
theorem c_X4_leave (l : Launch) (D : va_G) (y : Nat → ClassId) (Y Z : Nat → Nat) (r1 r2 : Nat) (th : Int32) (t : Nat → Int32) (c : Nat) (q b : Fld) (bc n : Nat) (ar fi rn : Int32) (hbc : bc ≤ 5) (sz : Nat) : zM l yX4_leave wsX4_leave { frames := 0, cells := 0, slots := 0, locals := 0 } D y [.ref (Z 0)] (mW Y Z r1 r2 y th t c q b bc n ar fi rn) sz (none) (mW Y Z r1 r2 y th t c q ((lvM b bc ar).1) ((lvM b bc ar).2.1) n ((lvM b bc ar).2.2) fi rn) 0 0 := by
  refine zM.ofH (cc := cX4_leave) (maxL := 3) (ret := none) (own := RX4) (by decide) rfl (Nat.le_of_ble_eq_true rfl) rfl ?_
  intro p e s m args below meth cd ls A H locs hx hb hr hml hown hts hlocks hP hK hD hA hS hl hin
  have hS0 := hS
  have hl : lv_has ls 3 [(0, .ref (Z 0))] := hl
  have hf56 : (Cond.fieldLink RX4 56 "StakeWeirsModel$State" "barges" "I").before args s = true := hts _ (by decide +kernel)
  have hinX4 : ∀ w ∈ wsX40, w ∈ wsX4_leave := by decide +kernel
  have hf37 : (Cond.fieldLink RX4 37 "StakeWeirsModel$State" "at" "[I").before args s = true := hts _ (by decide +kernel)
  have hf34 : (Cond.fieldLink RX4 34 "StakeWeirsModel$State" "wide" "[I").before args s = true := hts _ (by decide +kernel)
  have hf40 : (Cond.fieldLink RX4 40 "StakeWeirsModel$State" "broken" "[I").before args s = true := hts _ (by decide +kernel)
  have hf43 : (Cond.fieldLink RX4 43 "StakeWeirsModel$State" "was" "[I").before args s = true := hts _ (by decide +kernel)
  have hf59 : (Cond.fieldLink RX4 59 "StakeWeirsModel$State" "arrived" "I").before args s = true := hts _ (by decide +kernel)
  refine lv_iconst (v := 0) hx hb dX4_leave_0 (by decide) ?_
  refine lv_istore_n (lv' := [(1, .int 0), (0, .ref (Z 0))]) hx hb dX4_leave_1 rfl hl (by decide) rfl (fun ls hl => ?_)
  refine lv_iconst (v := 0) hx hb dX4_leave_2 (by decide) ?_
  refine lv_istore_n (lv' := [(2, .int 0), (1, .int 0), (0, .ref (Z 0))]) hx hb dX4_leave_3 rfl hl (by decide) rfl (fun ls hl => ?_)
  have loop1 : ∀ k, k ≤ bc → ∀ (H : Heap) (locs : List Loc) (ls : Array Slot), va_P D vwCl (mW Y Z r1 r2 y th t c q ((lvM b k ar).1) bc n ((lvM b k ar).2.2) fi rn) H → va_D A (mW Y Z r1 r2 y th t c q ((lvM b k ar).1) bc n ((lvM b k ar).2.2) fi rn) → va_S A s.heap H locs → lv_has ls 3 [(2, .int (nI k)), (1, .int (nI (lvM b k ar).2.1)), (0, .ref (Z 0))] → W p l e ({ frames := 0, cells := 0, slots := 0, locals := 0 } : Room) s m args below meth cd H locs 0 0 (MQ below (zMQ (none) D (mW Y Z r1 r2 y th t c q ((lvM b bc ar).1) ((lvM b bc ar).2.1) n ((lvM b bc ar).2.2) fi rn) A) args s 0 0 A) (F0 m 4 ls []) := by
    refine down ?_ ?_
    · intro H locs ls hP hD hS hl
      refine lv_iload_n hx hb dX4_leave_4 rfl (lv_at hl 0 rfl) ?_
      refine lv_aload_n hx hb dX4_leave_5 rfl (lv_at hl 2 rfl) ?_
      refine va_get (D := D) (ci := 4) (v := .int (nI bc)) (C := RX4) (T := TX4) (N := 16) hx hb hts hinX4 hown hK hP (4) rfl rfl 7 (by decide) hf56 (fun _ h9 => h9) rfl dX4_leave_6 ?_
      refine lv_icmp_ge (tgt := 93) hx hb dX4_leave_9 (by decide) (fun c2 => ?_) (fun c2 => ?_)
      · have d2 := Int32.not_lt.mpr c2
        refine lv_aload_n hx hb dX4_leave_93 rfl (lv_at hl 2 rfl) ?_
        refine lv_iload_n hx hb dX4_leave_94 rfl (lv_at hl 1 rfl) ?_
        refine va_put (D := D) (ci := 4) (v := .int (nI (lvM b bc ar).2.1)) (ty := .int) (C := RX4) (T := TX4) (N := 16) hx hb hts hinX4 tyX4 tyX4_ok nmX4 hown hK hP hD hS (4) rfl rfl 7 (by decide) hf56 (fun _ h9 => h9) rfl (by decide +kernel) rfl rfl (Nat.le_of_ble_eq_true rfl) dX4_leave_95 (fun H locs hP hD hS => ?_)
        have hP : va_P D vwCl (mW Y Z r1 r2 y th t c q ((lvM b bc ar).1) ((lvM b bc ar).2.1) n ((lvM b bc ar).2.2) fi rn) H := hP
        have hD : va_D A (mW Y Z r1 r2 y th t c q ((lvM b bc ar).1) ((lvM b bc ar).2.1) n ((lvM b bc ar).2.2) fi rn) := hD
        exact zM_v hx hb hr hlocks hS dX4_leave_98 rfl hP
      · exact absurd (nI_le (a := bc) (b := bc) (by omega) (by omega)) c2
    · intro k hkk ihk H locs ls hP hD hS hl
      have hle := lvM_le b k ar
      refine lv_iload_n hx hb dX4_leave_4 rfl (lv_at hl 0 rfl) ?_
      refine lv_aload_n hx hb dX4_leave_5 rfl (lv_at hl 2 rfl) ?_
      refine va_get (D := D) (ci := 4) (v := .int (nI bc)) (C := RX4) (T := TX4) (N := 16) hx hb hts hinX4 hown hK hP (4) rfl rfl 7 (by decide) hf56 (fun _ h9 => h9) rfl dX4_leave_6 ?_
      refine lv_icmp_ge (tgt := 93) hx hb dX4_leave_9 (by decide) (fun c3 => ?_) (fun c3 => ?_)
      · exact absurd c3 (nI_ge (a := k) (b := bc) (by omega) (by omega))
      · have d3 := Int32.not_le.mp c3
        refine lv_aload_n hx hb dX4_leave_12 rfl (lv_at hl 2 rfl) ?_
        refine va_get (D := D) (ci := 4) (v := .ref (Z 8)) (C := RX4) (T := TX4) (N := 16) hx hb hts hinX4 hown hK hP (4) rfl rfl 9 (by decide) hf37 (fun _ h9 => h9) rfl dX4_leave_13 ?_
        refine lv_iload_n hx hb dX4_leave_16 rfl (lv_at hl 0 rfl) ?_
        refine z_ald hx hb hK hP 12 (f := ((lvM b k ar).1) 2) rfl k rfl (by omega) (by decide) dX4_leave_17 ?_
        refine lv_bipush (v := 39) hx hb dX4_leave_18 (by decide) ?_
        refine lv_icmp_ne (tgt := 36) hx hb dX4_leave_20 (by decide) (fun c4 => ?_) (fun c4 => ?_)
        · have d4 := c4
          refine lv_aload_n hx hb dX4_leave_36 rfl (lv_at hl 2 rfl) ?_
          refine va_get (D := D) (ci := 4) (v := .ref (Z 7)) (C := RX4) (T := TX4) (N := 16) hx hb hts hinX4 hown hK hP (4) rfl rfl 8 (by decide) hf34 (fun _ h9 => h9) rfl dX4_leave_37 ?_
          refine lv_iload_n hx hb dX4_leave_40 rfl (lv_at hl 1 rfl) ?_
          refine lv_aload_n hx hb dX4_leave_41 rfl (lv_at hl 2 rfl) ?_
          refine va_get (D := D) (ci := 4) (v := .ref (Z 7)) (C := RX4) (T := TX4) (N := 16) hx hb hts hinX4 hown hK hP (4) rfl rfl 8 (by decide) hf34 (fun _ h9 => h9) rfl dX4_leave_42 ?_
          refine lv_iload_n hx hb dX4_leave_45 rfl (lv_at hl 0 rfl) ?_
          refine z_ald hx hb hK hP 11 (f := ((lvM b k ar).1) 1) rfl k rfl (by omega) (by decide) dX4_leave_46 ?_
          refine z_ast hx hb hK hP hD hS 11 (f := ((lvM b k ar).1) 1) rfl ((lvM b k ar).2.1) rfl (by omega) (by decide) (mW_b1 (k := ((lvM b k ar).2.1))) dX4_leave_47 (fun H locs hP hD hS => ?_)
          have hP : va_P D vwCl (mW Y Z r1 r2 y th t c q (up2 ((lvM b k ar).1) 1 ((lvM b k ar).2.1) (((lvM b k ar).1) 1 k)) bc n ((lvM b k ar).2.2) fi rn) H := hP
          have hD : va_D A (mW Y Z r1 r2 y th t c q (up2 ((lvM b k ar).1) 1 ((lvM b k ar).2.1) (((lvM b k ar).1) 1 k)) bc n ((lvM b k ar).2.2) fi rn) := hD
          refine lv_aload_n hx hb dX4_leave_48 rfl (lv_at hl 2 rfl) ?_
          refine va_get (D := D) (ci := 4) (v := .ref (Z 8)) (C := RX4) (T := TX4) (N := 16) hx hb hts hinX4 hown hK hP (4) rfl rfl 9 (by decide) hf37 (fun _ h9 => h9) rfl dX4_leave_49 ?_
          refine lv_iload_n hx hb dX4_leave_52 rfl (lv_at hl 1 rfl) ?_
          refine lv_aload_n hx hb dX4_leave_53 rfl (lv_at hl 2 rfl) ?_
          refine va_get (D := D) (ci := 4) (v := .ref (Z 8)) (C := RX4) (T := TX4) (N := 16) hx hb hts hinX4 hown hK hP (4) rfl rfl 9 (by decide) hf37 (fun _ h9 => h9) rfl dX4_leave_54 ?_
          refine lv_iload_n hx hb dX4_leave_57 rfl (lv_at hl 0 rfl) ?_
          refine z_ald hx hb hK hP 12 (f := ((lvM b k ar).1) 2) rfl k rfl (by omega) (by decide) dX4_leave_58 ?_
          refine z_ast hx hb hK hP hD hS 12 (f := (up2 ((lvM b k ar).1) 1 ((lvM b k ar).2.1) (((lvM b k ar).1) 1 k)) 2) rfl ((lvM b k ar).2.1) rfl (by omega) (by decide) (mW_b2 (k := ((lvM b k ar).2.1))) dX4_leave_59 (fun H locs hP hD hS => ?_)
          have hP : va_P D vwCl (mW Y Z r1 r2 y th t c q (up2 (up2 ((lvM b k ar).1) 1 ((lvM b k ar).2.1) (((lvM b k ar).1) 1 k)) 2 ((lvM b k ar).2.1) (((lvM b k ar).1) 2 k)) bc n ((lvM b k ar).2.2) fi rn) H := hP
          have hD : va_D A (mW Y Z r1 r2 y th t c q (up2 (up2 ((lvM b k ar).1) 1 ((lvM b k ar).2.1) (((lvM b k ar).1) 1 k)) 2 ((lvM b k ar).2.1) (((lvM b k ar).1) 2 k)) bc n ((lvM b k ar).2.2) fi rn) := hD
          refine lv_aload_n hx hb dX4_leave_60 rfl (lv_at hl 2 rfl) ?_
          refine va_get (D := D) (ci := 4) (v := .ref (Z 9)) (C := RX4) (T := TX4) (N := 16) hx hb hts hinX4 hown hK hP (4) rfl rfl 10 (by decide) hf40 (fun _ h9 => h9) rfl dX4_leave_61 ?_
          refine lv_iload_n hx hb dX4_leave_64 rfl (lv_at hl 1 rfl) ?_
          refine lv_aload_n hx hb dX4_leave_65 rfl (lv_at hl 2 rfl) ?_
          refine va_get (D := D) (ci := 4) (v := .ref (Z 9)) (C := RX4) (T := TX4) (N := 16) hx hb hts hinX4 hown hK hP (4) rfl rfl 10 (by decide) hf40 (fun _ h9 => h9) rfl dX4_leave_66 ?_
          refine lv_iload_n hx hb dX4_leave_69 rfl (lv_at hl 0 rfl) ?_
          refine z_ald hx hb hK hP 13 (f := ((lvM b k ar).1) 3) rfl k rfl (by omega) (by decide) dX4_leave_70 ?_
          refine z_ast hx hb hK hP hD hS 13 (f := (up2 (up2 ((lvM b k ar).1) 1 ((lvM b k ar).2.1) (((lvM b k ar).1) 1 k)) 2 ((lvM b k ar).2.1) (((lvM b k ar).1) 2 k)) 3) rfl ((lvM b k ar).2.1) rfl (by omega) (by decide) (mW_b3 (k := ((lvM b k ar).2.1))) dX4_leave_71 (fun H locs hP hD hS => ?_)
          have hP : va_P D vwCl (mW Y Z r1 r2 y th t c q (up2 (up2 (up2 ((lvM b k ar).1) 1 ((lvM b k ar).2.1) (((lvM b k ar).1) 1 k)) 2 ((lvM b k ar).2.1) (((lvM b k ar).1) 2 k)) 3 ((lvM b k ar).2.1) (((lvM b k ar).1) 3 k)) bc n ((lvM b k ar).2.2) fi rn) H := hP
          have hD : va_D A (mW Y Z r1 r2 y th t c q (up2 (up2 (up2 ((lvM b k ar).1) 1 ((lvM b k ar).2.1) (((lvM b k ar).1) 1 k)) 2 ((lvM b k ar).2.1) (((lvM b k ar).1) 2 k)) 3 ((lvM b k ar).2.1) (((lvM b k ar).1) 3 k)) bc n ((lvM b k ar).2.2) fi rn) := hD
          refine lv_aload_n hx hb dX4_leave_72 rfl (lv_at hl 2 rfl) ?_
          refine va_get (D := D) (ci := 4) (v := .ref (Z 10)) (C := RX4) (T := TX4) (N := 16) hx hb hts hinX4 hown hK hP (4) rfl rfl 11 (by decide) hf43 (fun _ h9 => h9) rfl dX4_leave_73 ?_
          refine lv_iload_n hx hb dX4_leave_76 rfl (lv_at hl 1 rfl) ?_
          refine lv_aload_n hx hb dX4_leave_77 rfl (lv_at hl 2 rfl) ?_
          refine va_get (D := D) (ci := 4) (v := .ref (Z 10)) (C := RX4) (T := TX4) (N := 16) hx hb hts hinX4 hown hK hP (4) rfl rfl 11 (by decide) hf43 (fun _ h9 => h9) rfl dX4_leave_78 ?_
          refine lv_iload_n hx hb dX4_leave_81 rfl (lv_at hl 0 rfl) ?_
          refine z_ald hx hb hK hP 14 (f := ((lvM b k ar).1) 0) rfl k rfl (by omega) (by decide) dX4_leave_82 ?_
          refine z_ast hx hb hK hP hD hS 14 (f := (up2 (up2 (up2 ((lvM b k ar).1) 1 ((lvM b k ar).2.1) (((lvM b k ar).1) 1 k)) 2 ((lvM b k ar).2.1) (((lvM b k ar).1) 2 k)) 3 ((lvM b k ar).2.1) (((lvM b k ar).1) 3 k)) 0) rfl ((lvM b k ar).2.1) rfl (by omega) (by decide) (mW_b0 (k := ((lvM b k ar).2.1))) dX4_leave_83 (fun H locs hP hD hS => ?_)
          have hP : va_P D vwCl (mW Y Z r1 r2 y th t c q (up2 (up2 (up2 (up2 ((lvM b k ar).1) 1 ((lvM b k ar).2.1) (((lvM b k ar).1) 1 k)) 2 ((lvM b k ar).2.1) (((lvM b k ar).1) 2 k)) 3 ((lvM b k ar).2.1) (((lvM b k ar).1) 3 k)) 0 ((lvM b k ar).2.1) (((lvM b k ar).1) 0 k)) bc n ((lvM b k ar).2.2) fi rn) H := hP
          have hD : va_D A (mW Y Z r1 r2 y th t c q (up2 (up2 (up2 (up2 ((lvM b k ar).1) 1 ((lvM b k ar).2.1) (((lvM b k ar).1) 1 k)) 2 ((lvM b k ar).2.1) (((lvM b k ar).1) 2 k)) 3 ((lvM b k ar).2.1) (((lvM b k ar).1) 3 k)) 0 ((lvM b k ar).2.1) (((lvM b k ar).1) 0 k)) bc n ((lvM b k ar).2.2) fi rn) := hD
          refine lv_iinc (v := nI ((lvM b k ar).2.1 + 1)) (lv' := [(1, .int (nI ((lvM b k ar).2.1 + 1))), (2, .int (nI k)), (0, .ref (Z 0))]) hx hb dX4_leave_84 hl (k := 1) rfl (nI_1 _) (by decide) rfl (fun ls hl => ?_)
          refine lv_iinc (v := nI (k + 1)) (lv' := [(2, .int (nI (k + 1))), (1, .int (nI ((lvM b k ar).2.1 + 1))), (0, .ref (Z 0))]) hx hb dX4_leave_87 hl (k := 1) rfl (nI_1 _) (by decide) rfl (fun ls hl => ?_)
          refine lv_goto (tgt := 4) hx hb dX4_leave_90 (by decide) ?_
          have e5 : nI (lvM b (k + 1) ar).2.1 = nI ((lvM b k ar).2.1 + 1) := by simp [lvM_s, lvMS, c4, d4]
          have e6 : (lvM b (k + 1) ar).1 = (up2 (up2 (up2 (up2 ((lvM b k ar).1) 1 ((lvM b k ar).2.1) (((lvM b k ar).1) 1 k)) 2 ((lvM b k ar).2.1) (((lvM b k ar).1) 2 k)) 3 ((lvM b k ar).2.1) (((lvM b k ar).1) 3 k)) 0 ((lvM b k ar).2.1) (((lvM b k ar).1) 0 k)) := by simp [lvM_s, lvMS, cpM, c4, d4]
          have e7 : (lvM b (k + 1) ar).2.2 = (lvM b k ar).2.2 := by simp [lvM_s, lvMS, cpM, c4, d4]
          refine ihk H locs ls ?_ ?_ hS ?_
          · first | exact hP | (simp only [e5, e6, e7]; exact hP)
          · first | exact hD | (simp only [e5, e6, e7]; exact hD)
          · first | exact lv_sub hl [0, 1, 2] rfl | (simp only [e5, e6, e7]; exact lv_sub hl [0, 1, 2] rfl)
        · have d4 := c4
          refine lv_aload_n hx hb dX4_leave_23 rfl (lv_at hl 2 rfl) ?_
          refine lv_dup hx hb dX4_leave_24 rfl ?_
          refine va_get (D := D) (ci := 4) (v := .int ((lvM b k ar).2.2)) (C := RX4) (T := TX4) (N := 16) hx hb hts hinX4 hown hK hP (4) rfl rfl 12 (by decide) hf59 (fun _ h9 => h9) rfl dX4_leave_25 ?_
          refine lv_iconst (v := 1) hx hb dX4_leave_28 (by decide) ?_
          refine lv_iadd hx hb dX4_leave_29 ?_
          refine va_put (D := D) (ci := 4) (v := .int (((lvM b k ar).2.2 + 1))) (ty := .int) (C := RX4) (T := TX4) (N := 16) hx hb hts hinX4 tyX4 tyX4_ok nmX4 hown hK hP hD hS (4) rfl rfl 12 (by decide) hf59 (fun _ h9 => h9) rfl (by decide +kernel) rfl rfl (Nat.le_of_ble_eq_true rfl) dX4_leave_30 (fun H locs hP hD hS => ?_)
          have hP : va_P D vwCl (mW Y Z r1 r2 y th t c q ((lvM b k ar).1) bc n ((lvM b k ar).2.2 + 1) fi rn) H := hP
          have hD : va_D A (mW Y Z r1 r2 y th t c q ((lvM b k ar).1) bc n ((lvM b k ar).2.2 + 1) fi rn) := hD
          refine lv_goto (tgt := 87) hx hb dX4_leave_33 (by decide) ?_
          refine lv_iinc (v := nI (k + 1)) (lv' := [(2, .int (nI (k + 1))), (1, .int (nI (lvM b k ar).2.1)), (0, .ref (Z 0))]) hx hb dX4_leave_87 hl (k := 0) rfl (nI_1 _) (by decide) rfl (fun ls hl => ?_)
          refine lv_goto (tgt := 4) hx hb dX4_leave_90 (by decide) ?_
          have e8 : nI (lvM b (k + 1) ar).2.1 = nI (lvM b k ar).2.1 := by simp [lvM_s, lvMS, c4, d4]
          have e9 : (lvM b (k + 1) ar).1 = (lvM b k ar).1 := by simp [lvM_s, lvMS, cpM, c4, d4]
          have e10 : (lvM b (k + 1) ar).2.2 = ((lvM b k ar).2.2 + 1) := by simp [lvM_s, lvMS, cpM, c4, d4]
          refine ihk H locs ls ?_ ?_ hS ?_
          · first | exact hP | (simp only [e8, e9, e10]; exact hP)
          · first | exact hD | (simp only [e8, e9, e10]; exact hD)
          · first | exact lv_sub hl [0, 1, 2] rfl | (simp only [e8, e9, e10]; exact lv_sub hl [0, 1, 2] rfl)
  exact loop1 0 (Nat.zero_le _) H locs ls hP hD hS (lv_sub hl [0, 1, 2] rfl)
