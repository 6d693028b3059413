set_option maxHeartbeats 1000000 in
set_option maxRecDepth 100000 in
theorem c_X4_pass (l : Launch) (D : va_G) (y : Nat → ClassId) (Y Z : Nat → Nat) (r1 r2 : Nat) (th : Int32) (t : Nat → Int32) (c : Nat) (q b : Fld) (bc n : Nat) (ar fi rn : Int32) (hc : c ≤ 6) (hbc : bc ≤ 5) (hn : n + 1 < 2147483648) (sz : Nat) : zMN l yX4_pass wsX4_pass { frames := 4, cells := 0, slots := 0, locals := 89 } D y [.ref (Z 0)] (mW Y Z r1 r2 y th t c q b bc n ar fi rn) sz (none) (mW Y Z r1 r2 y th t c ((nightM t c (q, b, bc, n, ar, fi, rn)).1) ((nightM t c (q, b, bc, n, ar, fi, rn)).2.1) ((nightM t c (q, b, bc, n, ar, fi, rn)).2.2.1) ((nightM t c (q, b, bc, n, ar, fi, rn)).2.2.2.1) ((nightM t c (q, b, bc, n, ar, fi, rn)).2.2.2.2.1) ((nightM t c (q, b, bc, n, ar, fi, rn)).2.2.2.2.2.1) ((nightM t c (q, b, bc, n, ar, fi, rn)).2.2.2.2.2.2)) 0 0 := by
  refine zMN.of (cc := cX4_pass) (maxL := 2) (ret := none) (own := RX4) (by decide) rfl (Nat.le_of_ble_eq_true rfl) rfl ?_
  intro p e s m args below meth cd ls A H locs hx hb hr hml hown hts hlocks hP hK hD hA hS hN hl hin
  have hS0 := hS
  have hl : lv_has ls 2 [(0, .ref (Z 0))] := hl
  have hf56 : (Cond.fieldLink RX4 56 "StakeWeirsModel$State" "barges" "I").before args s = true := hts _ (by decide +kernel)
  have hinX4 : ∀ w ∈ wsX40, w ∈ wsX4_pass := by decide +kernel
  have hf3 : (Cond.fieldLink RX4 3 "StakeWeirsModel$State" "this$0" "LStakeWeirsModel;").before args s = true := hts _ (by decide +kernel)
  have hf86 : (Cond.fieldLinkNest "StakeWeirsModel$State" 86 "StakeWeirsModel" "weirs" "I" "StakeWeirsModel").before args s = true := va_Nw.use rfl (hN ("StakeWeirsModel$State", 86, "StakeWeirsModel", "weirs", "I", "StakeWeirsModel") (by decide +kernel))
  have hinX5 : ∀ w ∈ wsX50, w ∈ wsX4_pass := by decide +kernel
  have hf52 : (Cond.fieldLink RX4 52 "StakeWeirsModel$State" "night" "I").before args s = true := hts _ (by decide +kernel)
  have hf19 : (Cond.fieldLink RX4 19 "StakeWeirsModel$State" "wattle" "[I").before args s = true := hts _ (by decide +kernel)
  have hlmax102 : (Cond.methodLink RX4 102 Lib.Math.max.name).before args s = true := hts _ (by decide +kernel)
  have hstmax : (Cond.static Lib.Math.max.name).before args s = true := hts _ (by decide +kernel)
  have hiM : (Cond.initialized "java/lang/Math").before args s = true := hts _ (by decide +kernel)
  have hcmax : (Cond.code Lib.Math.max.name Lib.Math.max.code 2 (some .int)).before args s = true := hts _ (by decide +kernel)
  refine lv_aload_n hx hb dX4_pass_0 rfl (lv_at hl 0 rfl) ?_
  refine lv_iconst (v := (-1)) hx hb dX4_pass_1 (by decide) ?_
  refine zcNMV (As := [.int (-1)]) (rest := []) (st1 := [.int ((dnO (-1) c 40 (q, runM t n, 0)).2.2)]) (cells1 := 0) (slots1 := 0) ⟨hx, hb, hml, hown, hts⟩ (c_X4_runDown l D y Y Z r1 r2 th t c q b bc n ar fi rn (-1) (by omega) (by omega) _) (cwV 1 hts gX4_pass_X4_runDown rfl rfl rfl (by decide +kernel) ⟨Nat.le_of_ble_eq_true rfl, Nat.le_of_ble_eq_true rfl⟩) hN hK hP (z_D_T hD) (ci := 4) (q0 := 4) rfl rfl rfl rfl hl.1 rfl (lv_room (Nat.le_of_ble_eq_true rfl)) dX4_pass_2 hS (z_sub_F hD hS hA z_in_r) ⟨Nat.le_of_ble_eq_true rfl, Nat.le_of_ble_eq_true rfl⟩ rfl rfl rfl (fun H locs hP1 hz hfr hS => ?_)
  have hD := z_D_adr hD (show (mW Y Z r1 r2 y th t c ((dnO (-1) c 40 (q, runM t n, 0)).1) b bc n ar fi rn).map Prod.fst = _ from rfl)
  have hP := hP1
  refine lv_pop hx hb dX4_pass_5 rfl ?_
  refine lv_iconst (v := 0) hx hb dX4_pass_6 (by decide) ?_
  refine lv_istore_n (lv' := [(1, .int 0), (0, .ref (Z 0))]) hx hb dX4_pass_7 rfl hl (by decide) rfl (fun ls hl => ?_)
  have loop1 : ∀ k, k ≤ bc → ∀ (H : Heap) (locs : List Loc) (ls : Array Slot), va_P D vwCl (mW Y Z r1 r2 y th t c ((upM c k ((dnO (-1) c 40 (q, runM t n, 0)).1, b, fi)).1) ((upM c k ((dnO (-1) c 40 (q, runM t n, 0)).1, b, fi)).2.1) bc n ar ((upM c k ((dnO (-1) c 40 (q, runM t n, 0)).1, b, fi)).2.2) rn) H → va_D A (mW Y Z r1 r2 y th t c ((upM c k ((dnO (-1) c 40 (q, runM t n, 0)).1, b, fi)).1) ((upM c k ((dnO (-1) c 40 (q, runM t n, 0)).1, b, fi)).2.1) bc n ar ((upM c k ((dnO (-1) c 40 (q, runM t n, 0)).1, b, fi)).2.2) rn) → va_S A s.heap H locs → lv_has ls 2 [(1, .int (nI k)), (0, .ref (Z 0))] → W p l e ({ frames := 4, cells := 0, slots := 0, locals := 89 } : Room) s m args below meth cd H locs 0 0 (MQ below (zMQ (none) D (mW Y Z r1 r2 y th t c ((nightM t c (q, b, bc, n, ar, fi, rn)).1) ((nightM t c (q, b, bc, n, ar, fi, rn)).2.1) ((nightM t c (q, b, bc, n, ar, fi, rn)).2.2.1) ((nightM t c (q, b, bc, n, ar, fi, rn)).2.2.2.1) ((nightM t c (q, b, bc, n, ar, fi, rn)).2.2.2.2.1) ((nightM t c (q, b, bc, n, ar, fi, rn)).2.2.2.2.2.1) ((nightM t c (q, b, bc, n, ar, fi, rn)).2.2.2.2.2.2)) A) args s 0 0 A) (F0 m 8 ls []) := by
    refine down ?_ ?_
    · intro H locs ls hP hD hS hl
      refine lv_iload_n hx hb dX4_pass_8 rfl (lv_at hl 0 rfl) ?_
      refine lv_aload_n hx hb dX4_pass_9 rfl (lv_at hl 1 rfl) ?_
      refine va_get (D := D) (ci := 4) (v := .int (nI bc)) (C := RX4) (T := TX4) (N := 16) hx hb hts hinX4 hown hK hP (4) rfl rfl 7 (by decide) hf56 (fun _ h9 => h9) rfl dX4_pass_10 ?_
      refine lv_icmp_ge (tgt := 27) hx hb dX4_pass_13 (by decide) (fun c2 => ?_) (fun c2 => ?_)
      · have d2 := Int32.not_lt.mpr c2
        refine lv_aload_n hx hb dX4_pass_27 rfl (lv_at hl 1 rfl) ?_
        refine zcMV (As := []) (rest := []) (st1 := []) (cells1 := 0) (slots1 := 0) ⟨hx, hb, hml, hown, hts⟩ (c_X4_leave l D y Y Z r1 r2 th t c ((upM c bc ((dnO (-1) c 40 (q, runM t n, 0)).1, b, fi)).1) ((upM c bc ((dnO (-1) c 40 (q, runM t n, 0)).1, b, fi)).2.1) bc n ar ((upM c bc ((dnO (-1) c 40 (q, runM t n, 0)).1, b, fi)).2.2) rn  (by omega) _) (cwV 0 hts gX4_pass_X4_leave rfl rfl rfl (by decide +kernel) ⟨Nat.le_of_ble_eq_true rfl, Nat.le_of_ble_eq_true rfl⟩) hK hP (z_D_T hD) (ci := 4) (q0 := 4) rfl rfl rfl rfl hl.1 rfl (lv_room (Nat.le_of_ble_eq_true rfl)) dX4_pass_28 hS (z_sub_F hD hS hA z_in_r) ⟨Nat.le_of_ble_eq_true rfl, Nat.le_of_ble_eq_true rfl⟩ rfl rfl rfl (fun H locs hP1 hz hfr hS => ?_)
        have hD := z_D_adr hD (show (mW Y Z r1 r2 y th t c ((upM c bc ((dnO (-1) c 40 (q, runM t n, 0)).1, b, fi)).1) ((lvM ((upM c bc ((dnO (-1) c 40 (q, runM t n, 0)).1, b, fi)).2.1) bc ar).1) ((lvM ((upM c bc ((dnO (-1) c 40 (q, runM t n, 0)).1, b, fi)).2.1) bc ar).2.1) n ((lvM ((upM c bc ((dnO (-1) c 40 (q, runM t n, 0)).1, b, fi)).2.1) bc ar).2.2) ((upM c bc ((dnO (-1) c 40 (q, runM t n, 0)).1, b, fi)).2.2) rn).map Prod.fst = _ from rfl)
        have hP := hP1
        refine lv_iconst (v := 0) hx hb dX4_pass_31 (by decide) ?_
        refine lv_istore_n (lv' := [(1, .int 0), (0, .ref (Z 0))]) hx hb dX4_pass_32 rfl hl (by decide) rfl (fun ls hl => ?_)
        have loop3 : ∀ k, k ≤ c → ∀ (H : Heap) (locs : List Loc) (ls : Array Slot), va_P D vwCl (mW Y Z r1 r2 y th t c (rotM (upM c bc ((dnO (-1) c 40 (q, runM t n, 0)).1, b, fi)).1 k n) ((lvM ((upM c bc ((dnO (-1) c 40 (q, runM t n, 0)).1, b, fi)).2.1) bc ar).1) ((lvM ((upM c bc ((dnO (-1) c 40 (q, runM t n, 0)).1, b, fi)).2.1) bc ar).2.1) n ((lvM ((upM c bc ((dnO (-1) c 40 (q, runM t n, 0)).1, b, fi)).2.1) bc ar).2.2) ((upM c bc ((dnO (-1) c 40 (q, runM t n, 0)).1, b, fi)).2.2) rn) H → va_D A (mW Y Z r1 r2 y th t c (rotM (upM c bc ((dnO (-1) c 40 (q, runM t n, 0)).1, b, fi)).1 k n) ((lvM ((upM c bc ((dnO (-1) c 40 (q, runM t n, 0)).1, b, fi)).2.1) bc ar).1) ((lvM ((upM c bc ((dnO (-1) c 40 (q, runM t n, 0)).1, b, fi)).2.1) bc ar).2.1) n ((lvM ((upM c bc ((dnO (-1) c 40 (q, runM t n, 0)).1, b, fi)).2.1) bc ar).2.2) ((upM c bc ((dnO (-1) c 40 (q, runM t n, 0)).1, b, fi)).2.2) rn) → va_S A s.heap H locs → lv_has ls 2 [(1, .int (nI k)), (0, .ref (Z 0))] → W p l e ({ frames := 4, cells := 0, slots := 0, locals := 89 } : Room) s m args below meth cd H locs 0 0 (MQ below (zMQ (none) D (mW Y Z r1 r2 y th t c ((nightM t c (q, b, bc, n, ar, fi, rn)).1) ((nightM t c (q, b, bc, n, ar, fi, rn)).2.1) ((nightM t c (q, b, bc, n, ar, fi, rn)).2.2.1) ((nightM t c (q, b, bc, n, ar, fi, rn)).2.2.2.1) ((nightM t c (q, b, bc, n, ar, fi, rn)).2.2.2.2.1) ((nightM t c (q, b, bc, n, ar, fi, rn)).2.2.2.2.2.1) ((nightM t c (q, b, bc, n, ar, fi, rn)).2.2.2.2.2.2)) A) args s 0 0 A) (F0 m 33 ls []) := by
          refine down ?_ ?_
          · intro H locs ls hP hD hS hl
            refine lv_iload_n hx hb dX4_pass_33 rfl (lv_at hl 0 rfl) ?_
            refine lv_aload_n hx hb dX4_pass_34 rfl (lv_at hl 1 rfl) ?_
            refine va_get (D := D) (ci := 4) (v := .ref (Y 0)) (C := RX4) (T := TX4) (N := 16) hx hb hts hinX4 hown hK hP (4) rfl rfl 15 (by decide) hf3 (fun _ h9 => h9) rfl dX4_pass_35 ?_
            refine va_getN (D := D) (ci := 5) (v := .int (nI c)) (C := RX5) (T := TX5) (N := 7) hx hb hts hinX5 hown hK hP (0) rfl rfl 2 (by decide) hf86 (fun _ h9 => h9) rfl dX4_pass_38 ?_
            refine lv_icmp_ge (tgt := 88) hx hb dX4_pass_41 (by decide) (fun c4 => ?_) (fun c4 => ?_)
            · have d4 := Int32.not_lt.mpr c4
              refine lv_iconst (v := 0) hx hb dX4_pass_88 (by decide) ?_
              refine lv_istore_n (lv' := [(1, .int 0), (0, .ref (Z 0))]) hx hb dX4_pass_89 rfl hl (by decide) rfl (fun ls hl => ?_)
              by_cases hm : n % 14 = 13
              · skip
                have loop5 : ∀ k, k ≤ c → ∀ (H : Heap) (locs : List Loc) (ls : Array Slot), va_P D vwCl (mW Y Z r1 r2 y th t c ((rentM (rotM (upM c bc ((dnO (-1) c 40 (q, runM t n, 0)).1, b, fi)).1 c n) k rn).1) ((lvM ((upM c bc ((dnO (-1) c 40 (q, runM t n, 0)).1, b, fi)).2.1) bc ar).1) ((lvM ((upM c bc ((dnO (-1) c 40 (q, runM t n, 0)).1, b, fi)).2.1) bc ar).2.1) n ((lvM ((upM c bc ((dnO (-1) c 40 (q, runM t n, 0)).1, b, fi)).2.1) bc ar).2.2) ((upM c bc ((dnO (-1) c 40 (q, runM t n, 0)).1, b, fi)).2.2) ((rentM (rotM (upM c bc ((dnO (-1) c 40 (q, runM t n, 0)).1, b, fi)).1 c n) k rn).2)) H → va_D A (mW Y Z r1 r2 y th t c ((rentM (rotM (upM c bc ((dnO (-1) c 40 (q, runM t n, 0)).1, b, fi)).1 c n) k rn).1) ((lvM ((upM c bc ((dnO (-1) c 40 (q, runM t n, 0)).1, b, fi)).2.1) bc ar).1) ((lvM ((upM c bc ((dnO (-1) c 40 (q, runM t n, 0)).1, b, fi)).2.1) bc ar).2.1) n ((lvM ((upM c bc ((dnO (-1) c 40 (q, runM t n, 0)).1, b, fi)).2.1) bc ar).2.2) ((upM c bc ((dnO (-1) c 40 (q, runM t n, 0)).1, b, fi)).2.2) ((rentM (rotM (upM c bc ((dnO (-1) c 40 (q, runM t n, 0)).1, b, fi)).1 c n) k rn).2)) → va_S A s.heap H locs → lv_has ls 2 [(1, .int (nI k)), (0, .ref (Z 0))] → W p l e ({ frames := 4, cells := 0, slots := 0, locals := 89 } : Room) s m args below meth cd H locs 0 0 (MQ below (zMQ (none) D (mW Y Z r1 r2 y th t c ((nightM t c (q, b, bc, n, ar, fi, rn)).1) ((nightM t c (q, b, bc, n, ar, fi, rn)).2.1) ((nightM t c (q, b, bc, n, ar, fi, rn)).2.2.1) ((nightM t c (q, b, bc, n, ar, fi, rn)).2.2.2.1) ((nightM t c (q, b, bc, n, ar, fi, rn)).2.2.2.2.1) ((nightM t c (q, b, bc, n, ar, fi, rn)).2.2.2.2.2.1) ((nightM t c (q, b, bc, n, ar, fi, rn)).2.2.2.2.2.2)) A) args s 0 0 A) (F0 m 90 ls []) := by
                  refine down ?_ ?_
                  · intro H locs ls hP hD hS hl
                    refine lv_iload_n hx hb dX4_pass_90 rfl (lv_at hl 0 rfl) ?_
                    refine lv_aload_n hx hb dX4_pass_91 rfl (lv_at hl 1 rfl) ?_
                    refine va_get (D := D) (ci := 4) (v := .ref (Y 0)) (C := RX4) (T := TX4) (N := 16) hx hb hts hinX4 hown hK hP (4) rfl rfl 15 (by decide) hf3 (fun _ h9 => h9) rfl dX4_pass_92 ?_
                    refine va_getN (D := D) (ci := 5) (v := .int (nI c)) (C := RX5) (T := TX5) (N := 7) hx hb hts hinX5 hown hK hP (0) rfl rfl 2 (by decide) hf86 (fun _ h9 => h9) rfl dX4_pass_95 ?_
                    refine lv_icmp_ge (tgt := 132) hx hb dX4_pass_98 (by decide) (fun c6 => ?_) (fun c6 => ?_)
                    · have d6 := Int32.not_lt.mpr c6
                      refine lv_aload_n hx hb dX4_pass_132 rfl (lv_at hl 1 rfl) ?_
                      refine lv_dup hx hb dX4_pass_133 rfl ?_
                      refine va_get (D := D) (ci := 4) (v := .int (nI n)) (C := RX4) (T := TX4) (N := 16) hx hb hts hinX4 hown hK hP (4) rfl rfl 0 (by decide) hf52 (fun _ h9 => h9) rfl dX4_pass_134 ?_
                      refine lv_iconst (v := 1) hx hb dX4_pass_137 (by decide) ?_
                      refine lv_iadd hx hb dX4_pass_138 ?_
                      refine zt_i (x' := nI (n + 1)) (nI_1 _) ?_
                      refine va_put (D := D) (ci := 4) (v := .int (nI (n + 1))) (ty := .int) (C := RX4) (T := TX4) (N := 16) hx hb hts hinX4 tyX4 tyX4_ok nmX4 hown hK hP hD hS (4) rfl rfl 0 (by decide) hf52 (fun _ h9 => h9) rfl (by decide +kernel) rfl rfl (Nat.le_of_ble_eq_true rfl) dX4_pass_139 (fun H locs hP hD hS => ?_)
                      have hP : va_P D vwCl (mW Y Z r1 r2 y th t c ((rentM (rotM (upM c bc ((dnO (-1) c 40 (q, runM t n, 0)).1, b, fi)).1 c n) c rn).1) ((lvM ((upM c bc ((dnO (-1) c 40 (q, runM t n, 0)).1, b, fi)).2.1) bc ar).1) ((lvM ((upM c bc ((dnO (-1) c 40 (q, runM t n, 0)).1, b, fi)).2.1) bc ar).2.1) (n + 1) ((lvM ((upM c bc ((dnO (-1) c 40 (q, runM t n, 0)).1, b, fi)).2.1) bc ar).2.2) ((upM c bc ((dnO (-1) c 40 (q, runM t n, 0)).1, b, fi)).2.2) ((rentM (rotM (upM c bc ((dnO (-1) c 40 (q, runM t n, 0)).1, b, fi)).1 c n) c rn).2)) H := hP
                      have hD : va_D A (mW Y Z r1 r2 y th t c ((rentM (rotM (upM c bc ((dnO (-1) c 40 (q, runM t n, 0)).1, b, fi)).1 c n) c rn).1) ((lvM ((upM c bc ((dnO (-1) c 40 (q, runM t n, 0)).1, b, fi)).2.1) bc ar).1) ((lvM ((upM c bc ((dnO (-1) c 40 (q, runM t n, 0)).1, b, fi)).2.1) bc ar).2.1) (n + 1) ((lvM ((upM c bc ((dnO (-1) c 40 (q, runM t n, 0)).1, b, fi)).2.1) bc ar).2.2) ((upM c bc ((dnO (-1) c 40 (q, runM t n, 0)).1, b, fi)).2.2) ((rentM (rotM (upM c bc ((dnO (-1) c 40 (q, runM t n, 0)).1, b, fi)).1 c n) c rn).2)) := hD
                      exact zM_v hx hb hr hlocks hS dX4_pass_142 rfl (by rw [show nightM t c (q, b, bc, n, ar, fi, rn) = ((rentM (rotM (upM c bc ((dnO (-1) c 40 (q, runM t n, 0)).1, b, fi)).1 c n) c rn).1, (lvM ((upM c bc ((dnO (-1) c 40 (q, runM t n, 0)).1, b, fi)).2.1) bc ar).1, (lvM ((upM c bc ((dnO (-1) c 40 (q, runM t n, 0)).1, b, fi)).2.1) bc ar).2.1, (n + 1), (lvM ((upM c bc ((dnO (-1) c 40 (q, runM t n, 0)).1, b, fi)).2.1) bc ar).2.2, (upM c bc ((dnO (-1) c 40 (q, runM t n, 0)).1, b, fi)).2.2, (rentM (rotM (upM c bc ((dnO (-1) c 40 (q, runM t n, 0)).1, b, fi)).1 c n) c rn).2) from by unfold nightM; dsimp only; rw [if_pos hm]]; exact hP)
                    · exact absurd (nI_le (a := c) (b := c) (by omega) (by omega)) c6
                  · intro k hkk ihk H locs ls hP hD hS hl
                    refine lv_iload_n hx hb dX4_pass_90 rfl (lv_at hl 0 rfl) ?_
                    refine lv_aload_n hx hb dX4_pass_91 rfl (lv_at hl 1 rfl) ?_
                    refine va_get (D := D) (ci := 4) (v := .ref (Y 0)) (C := RX4) (T := TX4) (N := 16) hx hb hts hinX4 hown hK hP (4) rfl rfl 15 (by decide) hf3 (fun _ h9 => h9) rfl dX4_pass_92 ?_
                    refine va_getN (D := D) (ci := 5) (v := .int (nI c)) (C := RX5) (T := TX5) (N := 7) hx hb hts hinX5 hown hK hP (0) rfl rfl 2 (by decide) hf86 (fun _ h9 => h9) rfl dX4_pass_95 ?_
                    refine lv_icmp_ge (tgt := 132) hx hb dX4_pass_98 (by decide) (fun c7 => ?_) (fun c7 => ?_)
                    · exact absurd c7 (nI_ge (a := k) (b := c) (by omega) (by omega))
                    · have d7 := Int32.not_le.mp c7
                      refine lv_aload_n hx hb dX4_pass_101 rfl (lv_at hl 1 rfl) ?_
                      refine va_get (D := D) (ci := 4) (v := .int (nI n)) (C := RX4) (T := TX4) (N := 16) hx hb hts hinX4 hown hK hP (4) rfl rfl 0 (by decide) hf52 (fun _ h9 => h9) rfl dX4_pass_102 ?_
                      refine lv_bipush (v := 14) hx hb dX4_pass_105 (by decide) ?_
                      refine lv_irem hx hb dX4_pass_107 (by decide) ?_
                      refine zt_i (x' := nI (n % 14)) (pk_rem (by omega) (by decide) (by decide)) ?_
                      refine lv_bipush (v := 13) hx hb dX4_pass_108 (by decide) ?_
                      refine lv_icmp_ne (tgt := 132) hx hb dX4_pass_110 (by decide) (fun c8 => ?_) (fun c8 => ?_)
                      · exact absurd c8 (fun h9 => h9 ((nI_eq (a := n % 14) (b := 13) (by omega) (by omega)).mpr hm))
                      · have d8 := c8
                        refine lv_aload_n hx hb dX4_pass_113 rfl (lv_at hl 1 rfl) ?_
                        refine lv_iload_n hx hb dX4_pass_114 rfl (lv_at hl 0 rfl) ?_
                        refine zcRV (As := [.int (nI k)]) (rest := []) (st1 := [.int (zb (heldB ((rentM (rotM (upM c bc ((dnO (-1) c 40 (q, runM t n, 0)).1, b, fi)).1 c n) k rn).1) k))]) ⟨hx, hb, hml, hown, hts⟩ (c_X4_isHeld l D y Y Z r1 r2 th t c ((rentM (rotM (upM c bc ((dnO (-1) c 40 (q, runM t n, 0)).1, b, fi)).1 c n) k rn).1) ((lvM ((upM c bc ((dnO (-1) c 40 (q, runM t n, 0)).1, b, fi)).2.1) bc ar).1) ((lvM ((upM c bc ((dnO (-1) c 40 (q, runM t n, 0)).1, b, fi)).2.1) bc ar).2.1) n ((lvM ((upM c bc ((dnO (-1) c 40 (q, runM t n, 0)).1, b, fi)).2.1) bc ar).2.2) ((upM c bc ((dnO (-1) c 40 (q, runM t n, 0)).1, b, fi)).2.2) ((rentM (rotM (upM c bc ((dnO (-1) c 40 (q, runM t n, 0)).1, b, fi)).1 c n) k rn).2) k (by omega)) (cwV 1 hts gX4_pass_X4_isHeld rfl rfl rfl (by decide +kernel) ⟨Nat.le_of_ble_eq_true rfl, Nat.le_of_ble_eq_true rfl⟩) hK hP (ci := 4) (q0 := 4) rfl rfl rfl rfl hl.1 rfl (lv_room (Nat.le_of_ble_eq_true rfl)) dX4_pass_115 ⟨Nat.le_of_ble_eq_true rfl, Nat.le_of_ble_eq_true rfl⟩ rfl ?_
                        refine lv_if_eq (tgt := 126) hx hb dX4_pass_118 (by decide) (fun c9 => ?_) (fun c9 => ?_)
                        · have c9 : heldB ((rentM (rotM (upM c bc ((dnO (-1) c 40 (q, runM t n, 0)).1, b, fi)).1 c n) k rn).1) k = false := zb_f c9
                          refine lv_iinc (v := nI (k + 1)) (lv' := [(1, .int (nI (k + 1))), (0, .ref (Z 0))]) hx hb dX4_pass_126 hl (k := 0) rfl (nI_1 _) (by decide) rfl (fun ls hl => ?_)
                          refine lv_goto (tgt := 90) hx hb dX4_pass_129 (by decide) ?_
                          have e10 : (rentM (rotM (upM c bc ((dnO (-1) c 40 (q, runM t n, 0)).1, b, fi)).1 c n) (k + 1) rn).1 = (rentM (rotM (upM c bc ((dnO (-1) c 40 (q, runM t n, 0)).1, b, fi)).1 c n) k rn).1 := by simp [rentM_s, rentMS, c9]
                          have e11 : (rentM (rotM (upM c bc ((dnO (-1) c 40 (q, runM t n, 0)).1, b, fi)).1 c n) (k + 1) rn).2 = (rentM (rotM (upM c bc ((dnO (-1) c 40 (q, runM t n, 0)).1, b, fi)).1 c n) k rn).2 := by simp [rentM_s, rentMS, c9]
                          refine ihk H locs ls ?_ ?_ hS ?_
                          · first | exact hP | (simp only [e10, e11]; exact hP)
                          · first | exact hD | (simp only [e10, e11]; exact hD)
                          · first | exact lv_sub hl [0, 1] rfl | (simp only [e10, e11]; exact lv_sub hl [0, 1] rfl)
                        · have c9 : heldB ((rentM (rotM (upM c bc ((dnO (-1) c 40 (q, runM t n, 0)).1, b, fi)).1 c n) k rn).1) k = true := zb_t c9
                          refine lv_aload_n hx hb dX4_pass_121 rfl (lv_at hl 1 rfl) ?_
                          refine lv_iload_n hx hb dX4_pass_122 rfl (lv_at hl 0 rfl) ?_
                          refine zcNMV (As := [.int (nI k)]) (rest := []) (st1 := []) (cells1 := 0) (slots1 := 0) ⟨hx, hb, hml, hown, hts⟩ (c_X4_payRent l D y Y Z r1 r2 th t c ((rentM (rotM (upM c bc ((dnO (-1) c 40 (q, runM t n, 0)).1, b, fi)).1 c n) k rn).1) ((lvM ((upM c bc ((dnO (-1) c 40 (q, runM t n, 0)).1, b, fi)).2.1) bc ar).1) ((lvM ((upM c bc ((dnO (-1) c 40 (q, runM t n, 0)).1, b, fi)).2.1) bc ar).2.1) n ((lvM ((upM c bc ((dnO (-1) c 40 (q, runM t n, 0)).1, b, fi)).2.1) bc ar).2.2) ((upM c bc ((dnO (-1) c 40 (q, runM t n, 0)).1, b, fi)).2.2) ((rentM (rotM (upM c bc ((dnO (-1) c 40 (q, runM t n, 0)).1, b, fi)).1 c n) k rn).2) k (by omega) _) (cwV 1 hts gX4_pass_X4_payRent rfl rfl rfl (by decide +kernel) ⟨Nat.le_of_ble_eq_true rfl, Nat.le_of_ble_eq_true rfl⟩) hN hK hP (z_D_T hD) (ci := 4) (q0 := 4) rfl rfl rfl rfl hl.1 rfl (lv_room (Nat.le_of_ble_eq_true rfl)) dX4_pass_123 hS (z_sub_F hD hS hA z_in_r) ⟨Nat.le_of_ble_eq_true rfl, Nat.le_of_ble_eq_true rfl⟩ rfl rfl rfl (fun H locs hP1 hz hfr hS => ?_)
                          have hD := z_D_adr hD (show (mW Y Z r1 r2 y th t c (payM ((rentM (rotM (upM c bc ((dnO (-1) c 40 (q, runM t n, 0)).1, b, fi)).1 c n) k rn).1) k) ((lvM ((upM c bc ((dnO (-1) c 40 (q, runM t n, 0)).1, b, fi)).2.1) bc ar).1) ((lvM ((upM c bc ((dnO (-1) c 40 (q, runM t n, 0)).1, b, fi)).2.1) bc ar).2.1) n ((lvM ((upM c bc ((dnO (-1) c 40 (q, runM t n, 0)).1, b, fi)).2.1) bc ar).2.2) ((upM c bc ((dnO (-1) c 40 (q, runM t n, 0)).1, b, fi)).2.2) ((rentM (rotM (upM c bc ((dnO (-1) c 40 (q, runM t n, 0)).1, b, fi)).1 c n) k rn).2 + paidI ((rentM (rotM (upM c bc ((dnO (-1) c 40 (q, runM t n, 0)).1, b, fi)).1 c n) k rn).1) k)).map Prod.fst = _ from rfl)
                          have hP := hP1
                          refine lv_iinc (v := nI (k + 1)) (lv' := [(1, .int (nI (k + 1))), (0, .ref (Z 0))]) hx hb dX4_pass_126 hl (k := 0) rfl (nI_1 _) (by decide) rfl (fun ls hl => ?_)
                          refine lv_goto (tgt := 90) hx hb dX4_pass_129 (by decide) ?_
                          have e12 : (rentM (rotM (upM c bc ((dnO (-1) c 40 (q, runM t n, 0)).1, b, fi)).1 c n) (k + 1) rn).1 = (payM ((rentM (rotM (upM c bc ((dnO (-1) c 40 (q, runM t n, 0)).1, b, fi)).1 c n) k rn).1) k) := by simp [rentM_s, rentMS, c9]
                          have e13 : (rentM (rotM (upM c bc ((dnO (-1) c 40 (q, runM t n, 0)).1, b, fi)).1 c n) (k + 1) rn).2 = ((rentM (rotM (upM c bc ((dnO (-1) c 40 (q, runM t n, 0)).1, b, fi)).1 c n) k rn).2 + paidI ((rentM (rotM (upM c bc ((dnO (-1) c 40 (q, runM t n, 0)).1, b, fi)).1 c n) k rn).1) k) := by simp [rentM_s, rentMS, c9]
                          refine ihk H locs ls ?_ ?_ hS ?_
                          · first | exact hP | (simp only [e12, e13]; exact hP)
                          · first | exact hD | (simp only [e12, e13]; exact hD)
                          · first | exact lv_sub hl [0, 1] rfl | (simp only [e12, e13]; exact lv_sub hl [0, 1] rfl)
                exact loop5 0 (Nat.zero_le _) H locs ls hP hD hS (lv_sub hl [0, 1] rfl)
              · skip
                refine lv_iload_n hx hb dX4_pass_90 rfl (lv_at hl 0 rfl) ?_
                refine lv_aload_n hx hb dX4_pass_91 rfl (lv_at hl 1 rfl) ?_
                refine va_get (D := D) (ci := 4) (v := .ref (Y 0)) (C := RX4) (T := TX4) (N := 16) hx hb hts hinX4 hown hK hP (4) rfl rfl 15 (by decide) hf3 (fun _ h9 => h9) rfl dX4_pass_92 ?_
                refine va_getN (D := D) (ci := 5) (v := .int (nI c)) (C := RX5) (T := TX5) (N := 7) hx hb hts hinX5 hown hK hP (0) rfl rfl 2 (by decide) hf86 (fun _ h9 => h9) rfl dX4_pass_95 ?_
                refine lv_icmp_ge (tgt := 132) hx hb dX4_pass_98 (by decide) (fun c14 => ?_) (fun c14 => ?_)
                · have d14 := Int32.not_lt.mpr c14
                  refine lv_aload_n hx hb dX4_pass_132 rfl (lv_at hl 1 rfl) ?_
                  refine lv_dup hx hb dX4_pass_133 rfl ?_
                  refine va_get (D := D) (ci := 4) (v := .int (nI n)) (C := RX4) (T := TX4) (N := 16) hx hb hts hinX4 hown hK hP (4) rfl rfl 0 (by decide) hf52 (fun _ h9 => h9) rfl dX4_pass_134 ?_
                  refine lv_iconst (v := 1) hx hb dX4_pass_137 (by decide) ?_
                  refine lv_iadd hx hb dX4_pass_138 ?_
                  refine zt_i (x' := nI (n + 1)) (nI_1 _) ?_
                  refine va_put (D := D) (ci := 4) (v := .int (nI (n + 1))) (ty := .int) (C := RX4) (T := TX4) (N := 16) hx hb hts hinX4 tyX4 tyX4_ok nmX4 hown hK hP hD hS (4) rfl rfl 0 (by decide) hf52 (fun _ h9 => h9) rfl (by decide +kernel) rfl rfl (Nat.le_of_ble_eq_true rfl) dX4_pass_139 (fun H locs hP hD hS => ?_)
                  have hP : va_P D vwCl (mW Y Z r1 r2 y th t c (rotM (upM c bc ((dnO (-1) c 40 (q, runM t n, 0)).1, b, fi)).1 c n) ((lvM ((upM c bc ((dnO (-1) c 40 (q, runM t n, 0)).1, b, fi)).2.1) bc ar).1) ((lvM ((upM c bc ((dnO (-1) c 40 (q, runM t n, 0)).1, b, fi)).2.1) bc ar).2.1) (n + 1) ((lvM ((upM c bc ((dnO (-1) c 40 (q, runM t n, 0)).1, b, fi)).2.1) bc ar).2.2) ((upM c bc ((dnO (-1) c 40 (q, runM t n, 0)).1, b, fi)).2.2) rn) H := hP
                  have hD : va_D A (mW Y Z r1 r2 y th t c (rotM (upM c bc ((dnO (-1) c 40 (q, runM t n, 0)).1, b, fi)).1 c n) ((lvM ((upM c bc ((dnO (-1) c 40 (q, runM t n, 0)).1, b, fi)).2.1) bc ar).1) ((lvM ((upM c bc ((dnO (-1) c 40 (q, runM t n, 0)).1, b, fi)).2.1) bc ar).2.1) (n + 1) ((lvM ((upM c bc ((dnO (-1) c 40 (q, runM t n, 0)).1, b, fi)).2.1) bc ar).2.2) ((upM c bc ((dnO (-1) c 40 (q, runM t n, 0)).1, b, fi)).2.2) rn) := hD
                  exact zM_v hx hb hr hlocks hS dX4_pass_142 rfl (by rw [show nightM t c (q, b, bc, n, ar, fi, rn) = ((rotM (upM c bc ((dnO (-1) c 40 (q, runM t n, 0)).1, b, fi)).1 c n), (lvM ((upM c bc ((dnO (-1) c 40 (q, runM t n, 0)).1, b, fi)).2.1) bc ar).1, (lvM ((upM c bc ((dnO (-1) c 40 (q, runM t n, 0)).1, b, fi)).2.1) bc ar).2.1, (n + 1), (lvM ((upM c bc ((dnO (-1) c 40 (q, runM t n, 0)).1, b, fi)).2.1) bc ar).2.2, (upM c bc ((dnO (-1) c 40 (q, runM t n, 0)).1, b, fi)).2.2, rn) from by unfold nightM; dsimp only; rw [if_neg hm]]; exact hP)
                · have d14 := Int32.not_le.mp c14
                  refine lv_aload_n hx hb dX4_pass_101 rfl (lv_at hl 1 rfl) ?_
                  refine va_get (D := D) (ci := 4) (v := .int (nI n)) (C := RX4) (T := TX4) (N := 16) hx hb hts hinX4 hown hK hP (4) rfl rfl 0 (by decide) hf52 (fun _ h9 => h9) rfl dX4_pass_102 ?_
                  refine lv_bipush (v := 14) hx hb dX4_pass_105 (by decide) ?_
                  refine lv_irem hx hb dX4_pass_107 (by decide) ?_
                  refine zt_i (x' := nI (n % 14)) (pk_rem (by omega) (by decide) (by decide)) ?_
                  refine lv_bipush (v := 13) hx hb dX4_pass_108 (by decide) ?_
                  refine lv_icmp_ne (tgt := 132) hx hb dX4_pass_110 (by decide) (fun c15 => ?_) (fun c15 => ?_)
                  · have d15 := c15
                    refine lv_aload_n hx hb dX4_pass_132 rfl (lv_at hl 1 rfl) ?_
                    refine lv_dup hx hb dX4_pass_133 rfl ?_
                    refine va_get (D := D) (ci := 4) (v := .int (nI n)) (C := RX4) (T := TX4) (N := 16) hx hb hts hinX4 hown hK hP (4) rfl rfl 0 (by decide) hf52 (fun _ h9 => h9) rfl dX4_pass_134 ?_
                    refine lv_iconst (v := 1) hx hb dX4_pass_137 (by decide) ?_
                    refine lv_iadd hx hb dX4_pass_138 ?_
                    refine zt_i (x' := nI (n + 1)) (nI_1 _) ?_
                    refine va_put (D := D) (ci := 4) (v := .int (nI (n + 1))) (ty := .int) (C := RX4) (T := TX4) (N := 16) hx hb hts hinX4 tyX4 tyX4_ok nmX4 hown hK hP hD hS (4) rfl rfl 0 (by decide) hf52 (fun _ h9 => h9) rfl (by decide +kernel) rfl rfl (Nat.le_of_ble_eq_true rfl) dX4_pass_139 (fun H locs hP hD hS => ?_)
                    have hP : va_P D vwCl (mW Y Z r1 r2 y th t c (rotM (upM c bc ((dnO (-1) c 40 (q, runM t n, 0)).1, b, fi)).1 c n) ((lvM ((upM c bc ((dnO (-1) c 40 (q, runM t n, 0)).1, b, fi)).2.1) bc ar).1) ((lvM ((upM c bc ((dnO (-1) c 40 (q, runM t n, 0)).1, b, fi)).2.1) bc ar).2.1) (n + 1) ((lvM ((upM c bc ((dnO (-1) c 40 (q, runM t n, 0)).1, b, fi)).2.1) bc ar).2.2) ((upM c bc ((dnO (-1) c 40 (q, runM t n, 0)).1, b, fi)).2.2) rn) H := hP
                    have hD : va_D A (mW Y Z r1 r2 y th t c (rotM (upM c bc ((dnO (-1) c 40 (q, runM t n, 0)).1, b, fi)).1 c n) ((lvM ((upM c bc ((dnO (-1) c 40 (q, runM t n, 0)).1, b, fi)).2.1) bc ar).1) ((lvM ((upM c bc ((dnO (-1) c 40 (q, runM t n, 0)).1, b, fi)).2.1) bc ar).2.1) (n + 1) ((lvM ((upM c bc ((dnO (-1) c 40 (q, runM t n, 0)).1, b, fi)).2.1) bc ar).2.2) ((upM c bc ((dnO (-1) c 40 (q, runM t n, 0)).1, b, fi)).2.2) rn) := hD
                    exact zM_v hx hb hr hlocks hS dX4_pass_142 rfl (by rw [show nightM t c (q, b, bc, n, ar, fi, rn) = ((rotM (upM c bc ((dnO (-1) c 40 (q, runM t n, 0)).1, b, fi)).1 c n), (lvM ((upM c bc ((dnO (-1) c 40 (q, runM t n, 0)).1, b, fi)).2.1) bc ar).1, (lvM ((upM c bc ((dnO (-1) c 40 (q, runM t n, 0)).1, b, fi)).2.1) bc ar).2.1, (n + 1), (lvM ((upM c bc ((dnO (-1) c 40 (q, runM t n, 0)).1, b, fi)).2.1) bc ar).2.2, (upM c bc ((dnO (-1) c 40 (q, runM t n, 0)).1, b, fi)).2.2, rn) from by unfold nightM; dsimp only; rw [if_neg hm]]; exact hP)
                  · exact absurd c15 (fun h9 => hm ((nI_eq (a := n % 14) (b := 13) (by omega) (by omega)).mp h9))
            · exact absurd (nI_le (a := c) (b := c) (by omega) (by omega)) c4
          · intro k hkk ihk H locs ls hP hD hS hl
            refine lv_iload_n hx hb dX4_pass_33 rfl (lv_at hl 0 rfl) ?_
            refine lv_aload_n hx hb dX4_pass_34 rfl (lv_at hl 1 rfl) ?_
            refine va_get (D := D) (ci := 4) (v := .ref (Y 0)) (C := RX4) (T := TX4) (N := 16) hx hb hts hinX4 hown hK hP (4) rfl rfl 15 (by decide) hf3 (fun _ h9 => h9) rfl dX4_pass_35 ?_
            refine va_getN (D := D) (ci := 5) (v := .int (nI c)) (C := RX5) (T := TX5) (N := 7) hx hb hts hinX5 hown hK hP (0) rfl rfl 2 (by decide) hf86 (fun _ h9 => h9) rfl dX4_pass_38 ?_
            refine lv_icmp_ge (tgt := 88) hx hb dX4_pass_41 (by decide) (fun c16 => ?_) (fun c16 => ?_)
            · exact absurd c16 (nI_ge (a := k) (b := c) (by omega) (by omega))
            · have d16 := Int32.not_le.mp c16
              refine lv_aload_n hx hb dX4_pass_44 rfl (lv_at hl 1 rfl) ?_
              refine lv_iload_n hx hb dX4_pass_45 rfl (lv_at hl 0 rfl) ?_
              refine zcRV (As := [.int (nI k)]) (rest := []) (st1 := [.int (zb (heldB (rotM (upM c bc ((dnO (-1) c 40 (q, runM t n, 0)).1, b, fi)).1 k n) k))]) ⟨hx, hb, hml, hown, hts⟩ (c_X4_isHeld l D y Y Z r1 r2 th t c (rotM (upM c bc ((dnO (-1) c 40 (q, runM t n, 0)).1, b, fi)).1 k n) ((lvM ((upM c bc ((dnO (-1) c 40 (q, runM t n, 0)).1, b, fi)).2.1) bc ar).1) ((lvM ((upM c bc ((dnO (-1) c 40 (q, runM t n, 0)).1, b, fi)).2.1) bc ar).2.1) n ((lvM ((upM c bc ((dnO (-1) c 40 (q, runM t n, 0)).1, b, fi)).2.1) bc ar).2.2) ((upM c bc ((dnO (-1) c 40 (q, runM t n, 0)).1, b, fi)).2.2) rn k (by omega)) (cwV 1 hts gX4_pass_X4_isHeld rfl rfl rfl (by decide +kernel) ⟨Nat.le_of_ble_eq_true rfl, Nat.le_of_ble_eq_true rfl⟩) hK hP (ci := 4) (q0 := 4) rfl rfl rfl rfl hl.1 rfl (lv_room (Nat.le_of_ble_eq_true rfl)) dX4_pass_46 ⟨Nat.le_of_ble_eq_true rfl, Nat.le_of_ble_eq_true rfl⟩ rfl ?_
              refine lv_if_eq (tgt := 82) hx hb dX4_pass_49 (by decide) (fun c17 => ?_) (fun c17 => ?_)
              · have c17 : heldB (rotM (upM c bc ((dnO (-1) c 40 (q, runM t n, 0)).1, b, fi)).1 k n) k = false := zb_f c17
                refine lv_iinc (v := nI (k + 1)) (lv' := [(1, .int (nI (k + 1))), (0, .ref (Z 0))]) hx hb dX4_pass_82 hl (k := 0) rfl (nI_1 _) (by decide) rfl (fun ls hl => ?_)
                refine lv_goto (tgt := 33) hx hb dX4_pass_85 (by decide) ?_
                have e18 : (rotM (upM c bc ((dnO (-1) c 40 (q, runM t n, 0)).1, b, fi)).1 (k + 1) n) = (rotM (upM c bc ((dnO (-1) c 40 (q, runM t n, 0)).1, b, fi)).1 k n) := by simp [rotM_s, rotI, c17]
                refine ihk H locs ls ?_ ?_ hS ?_
                · first | exact hP | (simp only [e18]; exact hP)
                · first | exact hD | (simp only [e18]; exact hD)
                · first | exact lv_sub hl [0, 1] rfl | (simp only [e18]; exact lv_sub hl [0, 1] rfl)
              · have c17 : heldB (rotM (upM c bc ((dnO (-1) c 40 (q, runM t n, 0)).1, b, fi)).1 k n) k = true := zb_t c17
                refine lv_aload_n hx hb dX4_pass_52 rfl (lv_at hl 1 rfl) ?_
                refine va_get (D := D) (ci := 4) (v := .ref (Z 2)) (C := RX4) (T := TX4) (N := 16) hx hb hts hinX4 hown hK hP (4) rfl rfl 2 (by decide) hf19 (fun _ h9 => h9) rfl dX4_pass_53 ?_
                refine lv_iload_n hx hb dX4_pass_56 rfl (lv_at hl 0 rfl) ?_
                refine lv_iconst (v := 0) hx hb dX4_pass_57 (by decide) ?_
                refine lv_aload_n hx hb dX4_pass_58 rfl (lv_at hl 1 rfl) ?_
                refine va_get (D := D) (ci := 4) (v := .ref (Z 2)) (C := RX4) (T := TX4) (N := 16) hx hb hts hinX4 hown hK hP (4) rfl rfl 2 (by decide) hf19 (fun _ h9 => h9) rfl dX4_pass_59 ?_
                refine lv_iload_n hx hb dX4_pass_62 rfl (lv_at hl 0 rfl) ?_
                refine z_ald hx hb hK hP 6 (f := (rotM (upM c bc ((dnO (-1) c 40 (q, runM t n, 0)).1, b, fi)).1 k n) 2) rfl k rfl (by omega) (by decide) dX4_pass_63 ?_
                refine lv_aload_n hx hb dX4_pass_64 rfl (lv_at hl 1 rfl) ?_
                refine zcRV (As := []) (rest := [.int (((rotM (upM c bc ((dnO (-1) c 40 (q, runM t n, 0)).1, b, fi)).1 k n) 2 k)), .int 0, .int (nI k), .ref (Z 2)]) (st1 := [.int ((moonI n)), .int (((rotM (upM c bc ((dnO (-1) c 40 (q, runM t n, 0)).1, b, fi)).1 k n) 2 k)), .int 0, .int (nI k), .ref (Z 2)]) ⟨hx, hb, hml, hown, hts⟩ (c_X4_moon l D y Y Z r1 r2 th t c (rotM (upM c bc ((dnO (-1) c 40 (q, runM t n, 0)).1, b, fi)).1 k n) ((lvM ((upM c bc ((dnO (-1) c 40 (q, runM t n, 0)).1, b, fi)).2.1) bc ar).1) ((lvM ((upM c bc ((dnO (-1) c 40 (q, runM t n, 0)).1, b, fi)).2.1) bc ar).2.1) n ((lvM ((upM c bc ((dnO (-1) c 40 (q, runM t n, 0)).1, b, fi)).2.1) bc ar).2.2) ((upM c bc ((dnO (-1) c 40 (q, runM t n, 0)).1, b, fi)).2.2) rn  (by omega)) (cwV 0 hts gX4_pass_X4_moon rfl rfl rfl (by decide +kernel) ⟨Nat.le_of_ble_eq_true rfl, Nat.le_of_ble_eq_true rfl⟩) hK hP (ci := 4) (q0 := 4) rfl rfl rfl rfl hl.1 rfl (lv_room (Nat.le_of_ble_eq_true rfl)) dX4_pass_65 ⟨Nat.le_of_ble_eq_true rfl, Nat.le_of_ble_eq_true rfl⟩ rfl ?_
                refine lv_iconst (v := 1) hx hb dX4_pass_68 (by decide) ?_
                refine lv_icmp_ne (tgt := 76) hx hb dX4_pass_69 (by decide) (fun c19 => ?_) (fun c19 => ?_)
                · have d19 := c19
                  refine lv_iconst (v := 3) hx hb dX4_pass_76 (by decide) ?_
                  refine lv_isub hx hb dX4_pass_77 ?_
                  refine va_mmax hx hb (hml.trans hl.1.symm) hown hlmax102 hstmax hiM hcmax (Nat.le_of_ble_eq_true rfl) (Nat.le_of_ble_eq_true rfl) (Nat.le_of_ble_eq_true rfl) (Nat.le_of_ble_eq_true rfl) dX4_pass_78 ?_
                  refine z_ast hx hb hK hP hD hS 6 (f := (rotM (upM c bc ((dnO (-1) c 40 (q, runM t n, 0)).1, b, fi)).1 k n) 2) rfl k rfl (by omega) (by decide) (mW_q2 (k := k)) dX4_pass_81 (fun H locs hP hD hS => ?_)
                  have hP : va_P D vwCl (mW Y Z r1 r2 y th t c (up2 (rotM (upM c bc ((dnO (-1) c 40 (q, runM t n, 0)).1, b, fi)).1 k n) 2 k (maxI 0 ((((rotM (upM c bc ((dnO (-1) c 40 (q, runM t n, 0)).1, b, fi)).1 k n) 2 k) - 3)))) ((lvM ((upM c bc ((dnO (-1) c 40 (q, runM t n, 0)).1, b, fi)).2.1) bc ar).1) ((lvM ((upM c bc ((dnO (-1) c 40 (q, runM t n, 0)).1, b, fi)).2.1) bc ar).2.1) n ((lvM ((upM c bc ((dnO (-1) c 40 (q, runM t n, 0)).1, b, fi)).2.1) bc ar).2.2) ((upM c bc ((dnO (-1) c 40 (q, runM t n, 0)).1, b, fi)).2.2) rn) H := hP
                  have hD : va_D A (mW Y Z r1 r2 y th t c (up2 (rotM (upM c bc ((dnO (-1) c 40 (q, runM t n, 0)).1, b, fi)).1 k n) 2 k (maxI 0 ((((rotM (upM c bc ((dnO (-1) c 40 (q, runM t n, 0)).1, b, fi)).1 k n) 2 k) - 3)))) ((lvM ((upM c bc ((dnO (-1) c 40 (q, runM t n, 0)).1, b, fi)).2.1) bc ar).1) ((lvM ((upM c bc ((dnO (-1) c 40 (q, runM t n, 0)).1, b, fi)).2.1) bc ar).2.1) n ((lvM ((upM c bc ((dnO (-1) c 40 (q, runM t n, 0)).1, b, fi)).2.1) bc ar).2.2) ((upM c bc ((dnO (-1) c 40 (q, runM t n, 0)).1, b, fi)).2.2) rn) := hD
                  refine lv_iinc (v := nI (k + 1)) (lv' := [(1, .int (nI (k + 1))), (0, .ref (Z 0))]) hx hb dX4_pass_82 hl (k := 0) rfl (nI_1 _) (by decide) rfl (fun ls hl => ?_)
                  refine lv_goto (tgt := 33) hx hb dX4_pass_85 (by decide) ?_
                  have e20 : (rotM (upM c bc ((dnO (-1) c 40 (q, runM t n, 0)).1, b, fi)).1 (k + 1) n) = (up2 (rotM (upM c bc ((dnO (-1) c 40 (q, runM t n, 0)).1, b, fi)).1 k n) 2 k (maxI 0 ((((rotM (upM c bc ((dnO (-1) c 40 (q, runM t n, 0)).1, b, fi)).1 k n) 2 k) - 3)))) := by simp [rotM_s, rotI, c17, c19, d19]
                  refine ihk H locs ls ?_ ?_ hS ?_
                  · first | exact hP | (simp only [e20]; exact hP)
                  · first | exact hD | (simp only [e20]; exact hD)
                  · first | exact lv_sub hl [0, 1] rfl | (simp only [e20]; exact lv_sub hl [0, 1] rfl)
                · have d19 := c19
                  refine lv_iconst (v := 1) hx hb dX4_pass_72 (by decide) ?_
                  refine lv_goto (tgt := 77) hx hb dX4_pass_73 (by decide) ?_
                  refine lv_isub hx hb dX4_pass_77 ?_
                  refine va_mmax hx hb (hml.trans hl.1.symm) hown hlmax102 hstmax hiM hcmax (Nat.le_of_ble_eq_true rfl) (Nat.le_of_ble_eq_true rfl) (Nat.le_of_ble_eq_true rfl) (Nat.le_of_ble_eq_true rfl) dX4_pass_78 ?_
                  refine z_ast hx hb hK hP hD hS 6 (f := (rotM (upM c bc ((dnO (-1) c 40 (q, runM t n, 0)).1, b, fi)).1 k n) 2) rfl k rfl (by omega) (by decide) (mW_q2 (k := k)) dX4_pass_81 (fun H locs hP hD hS => ?_)
                  have hP : va_P D vwCl (mW Y Z r1 r2 y th t c (up2 (rotM (upM c bc ((dnO (-1) c 40 (q, runM t n, 0)).1, b, fi)).1 k n) 2 k (maxI 0 ((((rotM (upM c bc ((dnO (-1) c 40 (q, runM t n, 0)).1, b, fi)).1 k n) 2 k) - 1)))) ((lvM ((upM c bc ((dnO (-1) c 40 (q, runM t n, 0)).1, b, fi)).2.1) bc ar).1) ((lvM ((upM c bc ((dnO (-1) c 40 (q, runM t n, 0)).1, b, fi)).2.1) bc ar).2.1) n ((lvM ((upM c bc ((dnO (-1) c 40 (q, runM t n, 0)).1, b, fi)).2.1) bc ar).2.2) ((upM c bc ((dnO (-1) c 40 (q, runM t n, 0)).1, b, fi)).2.2) rn) H := hP
                  have hD : va_D A (mW Y Z r1 r2 y th t c (up2 (rotM (upM c bc ((dnO (-1) c 40 (q, runM t n, 0)).1, b, fi)).1 k n) 2 k (maxI 0 ((((rotM (upM c bc ((dnO (-1) c 40 (q, runM t n, 0)).1, b, fi)).1 k n) 2 k) - 1)))) ((lvM ((upM c bc ((dnO (-1) c 40 (q, runM t n, 0)).1, b, fi)).2.1) bc ar).1) ((lvM ((upM c bc ((dnO (-1) c 40 (q, runM t n, 0)).1, b, fi)).2.1) bc ar).2.1) n ((lvM ((upM c bc ((dnO (-1) c 40 (q, runM t n, 0)).1, b, fi)).2.1) bc ar).2.2) ((upM c bc ((dnO (-1) c 40 (q, runM t n, 0)).1, b, fi)).2.2) rn) := hD
                  refine lv_iinc (v := nI (k + 1)) (lv' := [(1, .int (nI (k + 1))), (0, .ref (Z 0))]) hx hb dX4_pass_82 hl (k := 0) rfl (nI_1 _) (by decide) rfl (fun ls hl => ?_)
                  refine lv_goto (tgt := 33) hx hb dX4_pass_85 (by decide) ?_
                  have e21 : (rotM (upM c bc ((dnO (-1) c 40 (q, runM t n, 0)).1, b, fi)).1 (k + 1) n) = (up2 (rotM (upM c bc ((dnO (-1) c 40 (q, runM t n, 0)).1, b, fi)).1 k n) 2 k (maxI 0 ((((rotM (upM c bc ((dnO (-1) c 40 (q, runM t n, 0)).1, b, fi)).1 k n) 2 k) - 1)))) := by simp [rotM_s, rotI, c17, c19, d19]
                  refine ihk H locs ls ?_ ?_ hS ?_
                  · first | exact hP | (simp only [e21]; exact hP)
                  · first | exact hD | (simp only [e21]; exact hD)
                  · first | exact lv_sub hl [0, 1] rfl | (simp only [e21]; exact lv_sub hl [0, 1] rfl)
        exact loop3 0 (Nat.zero_le _) H locs ls hP hD hS (lv_sub hl [0, 1] rfl)
      · exact absurd (nI_le (a := bc) (b := bc) (by omega) (by omega)) c2
    · intro k hkk ihk H locs ls hP hD hS hl
      refine lv_iload_n hx hb dX4_pass_8 rfl (lv_at hl 0 rfl) ?_
      refine lv_aload_n hx hb dX4_pass_9 rfl (lv_at hl 1 rfl) ?_
      refine va_get (D := D) (ci := 4) (v := .int (nI bc)) (C := RX4) (T := TX4) (N := 16) hx hb hts hinX4 hown hK hP (4) rfl rfl 7 (by decide) hf56 (fun _ h9 => h9) rfl dX4_pass_10 ?_
      refine lv_icmp_ge (tgt := 27) hx hb dX4_pass_13 (by decide) (fun c22 => ?_) (fun c22 => ?_)
      · exact absurd c22 (nI_ge (a := k) (b := bc) (by omega) (by omega))
      · have d22 := Int32.not_le.mp c22
        refine lv_aload_n hx hb dX4_pass_16 rfl (lv_at hl 1 rfl) ?_
        refine lv_iload_n hx hb dX4_pass_17 rfl (lv_at hl 0 rfl) ?_
        refine zcNMV (As := [.int (nI k)]) (rest := []) (st1 := []) (cells1 := 0) (slots1 := 0) ⟨hx, hb, hml, hown, hts⟩ (c_X4_goUp l D y Y Z r1 r2 th t c ((upM c k ((dnO (-1) c 40 (q, runM t n, 0)).1, b, fi)).1) ((upM c k ((dnO (-1) c 40 (q, runM t n, 0)).1, b, fi)).2.1) bc n ar ((upM c k ((dnO (-1) c 40 (q, runM t n, 0)).1, b, fi)).2.2) rn k (by omega) (by omega) _) (cwV 1 hts gX4_pass_X4_goUp rfl rfl rfl (by decide +kernel) ⟨Nat.le_of_ble_eq_true rfl, Nat.le_of_ble_eq_true rfl⟩) hN hK hP (z_D_T hD) (ci := 4) (q0 := 4) rfl rfl rfl rfl hl.1 rfl (lv_room (Nat.le_of_ble_eq_true rfl)) dX4_pass_18 hS (z_sub_F hD hS hA z_in_r) ⟨Nat.le_of_ble_eq_true rfl, Nat.le_of_ble_eq_true rfl⟩ rfl rfl rfl (fun H locs hP1 hz hfr hS => ?_)
        have hD := z_D_adr hD (show (mW Y Z r1 r2 y th t c ((guE c k 5 ((upM c k ((dnO (-1) c 40 (q, runM t n, 0)).1, b, fi)).1, (upM c k ((dnO (-1) c 40 (q, runM t n, 0)).1, b, fi)).2.1, (upM c k ((dnO (-1) c 40 (q, runM t n, 0)).1, b, fi)).2.2)).1) ((guE c k 5 ((upM c k ((dnO (-1) c 40 (q, runM t n, 0)).1, b, fi)).1, (upM c k ((dnO (-1) c 40 (q, runM t n, 0)).1, b, fi)).2.1, (upM c k ((dnO (-1) c 40 (q, runM t n, 0)).1, b, fi)).2.2)).2.1) bc n ar ((guE c k 5 ((upM c k ((dnO (-1) c 40 (q, runM t n, 0)).1, b, fi)).1, (upM c k ((dnO (-1) c 40 (q, runM t n, 0)).1, b, fi)).2.1, (upM c k ((dnO (-1) c 40 (q, runM t n, 0)).1, b, fi)).2.2)).2.2) rn).map Prod.fst = _ from rfl)
        have hP := hP1
        refine lv_iinc (v := nI (k + 1)) (lv' := [(1, .int (nI (k + 1))), (0, .ref (Z 0))]) hx hb dX4_pass_21 hl (k := 0) rfl (nI_1 _) (by decide) rfl (fun ls hl => ?_)
        refine lv_goto (tgt := 8) hx hb dX4_pass_24 (by decide) ?_
        have e23 : (upM c (k + 1) ((dnO (-1) c 40 (q, runM t n, 0)).1, b, fi)).1 = (guE c k 5 ((upM c k ((dnO (-1) c 40 (q, runM t n, 0)).1, b, fi)).1, (upM c k ((dnO (-1) c 40 (q, runM t n, 0)).1, b, fi)).2.1, (upM c k ((dnO (-1) c 40 (q, runM t n, 0)).1, b, fi)).2.2)).1 := by rw [upM_s]
        have e24 : (upM c (k + 1) ((dnO (-1) c 40 (q, runM t n, 0)).1, b, fi)).2.1 = (guE c k 5 ((upM c k ((dnO (-1) c 40 (q, runM t n, 0)).1, b, fi)).1, (upM c k ((dnO (-1) c 40 (q, runM t n, 0)).1, b, fi)).2.1, (upM c k ((dnO (-1) c 40 (q, runM t n, 0)).1, b, fi)).2.2)).2.1 := by rw [upM_s]
        have e25 : (upM c (k + 1) ((dnO (-1) c 40 (q, runM t n, 0)).1, b, fi)).2.2 = (guE c k 5 ((upM c k ((dnO (-1) c 40 (q, runM t n, 0)).1, b, fi)).1, (upM c k ((dnO (-1) c 40 (q, runM t n, 0)).1, b, fi)).2.1, (upM c k ((dnO (-1) c 40 (q, runM t n, 0)).1, b, fi)).2.2)).2.2 := by rw [upM_s]
        refine ihk H locs ls ?_ ?_ hS ?_
        · first | exact hP | (simp only [e23, e24, e25]; exact hP)
        · first | exact hD | (simp only [e23, e24, e25]; exact hD)
        · first | exact lv_sub hl [0, 1] rfl | (simp only [e23, e24, e25]; exact lv_sub hl [0, 1] rfl)
  exact loop1 0 (Nat.zero_le _) H locs ls hP hD hS (lv_sub hl [0, 1] rfl)
set_option maxHeartbeats 1000000 in
set_option maxRecDepth 100000 in
theorem c_X4_pass_ (l : Launch) (D : va_G) (y : Nat → ClassId) (Y Z : Nat → Nat) (r1 r2 : Nat) (th : Int32) (t : Nat → Int32) (c : Nat) (q b : Fld) (bc n : Nat) (ar fi rn : Int32) (mm : Nat) (hc : c ≤ 6) (hbc : bc ≤ 5) (hn : n + mm < 2147483648) (sz : Nat) : zMN l yX4_pass_ wsX4_pass_ { frames := 5, cells := 0, slots := 0, locals := 110 } D y [.ref (Z 0), .int (nI mm)] (mW Y Z r1 r2 y th t c q b bc n ar fi rn) sz (none) (mW Y Z r1 r2 y th t c ((nightsM t c mm (q, b, bc, n, ar, fi, rn)).1) ((nightsM t c mm (q, b, bc, n, ar, fi, rn)).2.1) ((nightsM t c mm (q, b, bc, n, ar, fi, rn)).2.2.1) ((nightsM t c mm (q, b, bc, n, ar, fi, rn)).2.2.2.1) ((nightsM t c mm (q, b, bc, n, ar, fi, rn)).2.2.2.2.1) ((nightsM t c mm (q, b, bc, n, ar, fi, rn)).2.2.2.2.2.1) ((nightsM t c mm (q, b, bc, n, ar, fi, rn)).2.2.2.2.2.2)) 0 0 := by
  refine zMN.of (cc := cX4_pass_) (maxL := 3) (ret := none) (own := RX4) (by decide) rfl (Nat.le_of_ble_eq_true rfl) rfl ?_
  intro p e s m args below meth cd ls A H locs hx hb hr hml hown hts hlocks hP hK hD hA hS hN hl hin
  have hS0 := hS
  have hl : lv_has ls 3 [(0, .ref (Z 0)), (1, .int (nI mm))] := hl
  refine lv_iconst (v := 0) hx hb dX4_pass__0 (by decide) ?_
  refine lv_istore_n (lv' := [(2, .int 0), (0, .ref (Z 0)), (1, .int (nI mm))]) hx hb dX4_pass__1 rfl hl (by decide) rfl (fun ls hl => ?_)
  have loop1 : ∀ k, k ≤ mm → ∀ (H : Heap) (locs : List Loc) (ls : Array Slot), va_P D vwCl (mW Y Z r1 r2 y th t c ((nightsM t c k (q, b, bc, n, ar, fi, rn)).1) ((nightsM t c k (q, b, bc, n, ar, fi, rn)).2.1) ((nightsM t c k (q, b, bc, n, ar, fi, rn)).2.2.1) ((nightsM t c k (q, b, bc, n, ar, fi, rn)).2.2.2.1) ((nightsM t c k (q, b, bc, n, ar, fi, rn)).2.2.2.2.1) ((nightsM t c k (q, b, bc, n, ar, fi, rn)).2.2.2.2.2.1) ((nightsM t c k (q, b, bc, n, ar, fi, rn)).2.2.2.2.2.2)) H → va_D A (mW Y Z r1 r2 y th t c ((nightsM t c k (q, b, bc, n, ar, fi, rn)).1) ((nightsM t c k (q, b, bc, n, ar, fi, rn)).2.1) ((nightsM t c k (q, b, bc, n, ar, fi, rn)).2.2.1) ((nightsM t c k (q, b, bc, n, ar, fi, rn)).2.2.2.1) ((nightsM t c k (q, b, bc, n, ar, fi, rn)).2.2.2.2.1) ((nightsM t c k (q, b, bc, n, ar, fi, rn)).2.2.2.2.2.1) ((nightsM t c k (q, b, bc, n, ar, fi, rn)).2.2.2.2.2.2)) → va_S A s.heap H locs → lv_has ls 3 [(2, .int (nI k)), (0, .ref (Z 0)), (1, .int (nI mm))] → W p l e ({ frames := 5, cells := 0, slots := 0, locals := 110 } : Room) s m args below meth cd H locs 0 0 (MQ below (zMQ (none) D (mW Y Z r1 r2 y th t c ((nightsM t c mm (q, b, bc, n, ar, fi, rn)).1) ((nightsM t c mm (q, b, bc, n, ar, fi, rn)).2.1) ((nightsM t c mm (q, b, bc, n, ar, fi, rn)).2.2.1) ((nightsM t c mm (q, b, bc, n, ar, fi, rn)).2.2.2.1) ((nightsM t c mm (q, b, bc, n, ar, fi, rn)).2.2.2.2.1) ((nightsM t c mm (q, b, bc, n, ar, fi, rn)).2.2.2.2.2.1) ((nightsM t c mm (q, b, bc, n, ar, fi, rn)).2.2.2.2.2.2)) A) args s 0 0 A) (F0 m 2 ls []) := by
    refine down ?_ ?_
    · intro H locs ls hP hD hS hl
      refine lv_iload_n hx hb dX4_pass__2 rfl (lv_at hl 0 rfl) ?_
      refine lv_iload_n hx hb dX4_pass__3 rfl (lv_at hl 2 rfl) ?_
      refine lv_icmp_ge (tgt := 17) hx hb dX4_pass__4 (by decide) (fun c2 => ?_) (fun c2 => ?_)
      · have d2 := Int32.not_lt.mpr c2
        exact zM_v hx hb hr hlocks hS dX4_pass__17 rfl hP
      · exact absurd (nI_le (a := mm) (b := mm) (by omega) (by omega)) c2
    · intro k hkk ihk H locs ls hP hD hS hl
      have hnk : (nightsM t c k (q, b, bc, n, ar, fi, rn)).2.2.2.1 = n + k := nightsM_n t c k (q, b, bc, n, ar, fi, rn)
      have hbk : (nightsM t c k (q, b, bc, n, ar, fi, rn)).2.2.1 ≤ bc := nightsM_b t c k (q, b, bc, n, ar, fi, rn)
      refine lv_iload_n hx hb dX4_pass__2 rfl (lv_at hl 0 rfl) ?_
      refine lv_iload_n hx hb dX4_pass__3 rfl (lv_at hl 2 rfl) ?_
      refine lv_icmp_ge (tgt := 17) hx hb dX4_pass__4 (by decide) (fun c3 => ?_) (fun c3 => ?_)
      · exact absurd c3 (nI_ge (a := k) (b := mm) (by omega) (by omega))
      · have d3 := Int32.not_le.mp c3
        refine lv_aload_n hx hb dX4_pass__7 rfl (lv_at hl 1 rfl) ?_
        refine zcNMV (As := []) (rest := []) (st1 := []) (cells1 := 0) (slots1 := 0) ⟨hx, hb, hml, hown, hts⟩ (c_X4_pass l D y Y Z r1 r2 th t c ((nightsM t c k (q, b, bc, n, ar, fi, rn)).1) ((nightsM t c k (q, b, bc, n, ar, fi, rn)).2.1) ((nightsM t c k (q, b, bc, n, ar, fi, rn)).2.2.1) ((nightsM t c k (q, b, bc, n, ar, fi, rn)).2.2.2.1) ((nightsM t c k (q, b, bc, n, ar, fi, rn)).2.2.2.2.1) ((nightsM t c k (q, b, bc, n, ar, fi, rn)).2.2.2.2.2.1) ((nightsM t c k (q, b, bc, n, ar, fi, rn)).2.2.2.2.2.2)  (by omega) (by omega) (by omega) _) (cwV 0 hts gX4_pass__X4_pass rfl rfl rfl (by decide +kernel) ⟨Nat.le_of_ble_eq_true rfl, Nat.le_of_ble_eq_true rfl⟩) hN hK hP (z_D_T hD) (ci := 4) (q0 := 4) rfl rfl rfl rfl hl.1 rfl (lv_room (Nat.le_of_ble_eq_true rfl)) dX4_pass__8 hS (z_sub_F hD hS hA z_in_r) ⟨Nat.le_of_ble_eq_true rfl, Nat.le_of_ble_eq_true rfl⟩ rfl rfl rfl (fun H locs hP1 hz hfr hS => ?_)
        have hD := z_D_adr hD (show (mW Y Z r1 r2 y th t c ((nightM t c ((nightsM t c k (q, b, bc, n, ar, fi, rn)).1, (nightsM t c k (q, b, bc, n, ar, fi, rn)).2.1, (nightsM t c k (q, b, bc, n, ar, fi, rn)).2.2.1, (nightsM t c k (q, b, bc, n, ar, fi, rn)).2.2.2.1, (nightsM t c k (q, b, bc, n, ar, fi, rn)).2.2.2.2.1, (nightsM t c k (q, b, bc, n, ar, fi, rn)).2.2.2.2.2.1, (nightsM t c k (q, b, bc, n, ar, fi, rn)).2.2.2.2.2.2)).1) ((nightM t c ((nightsM t c k (q, b, bc, n, ar, fi, rn)).1, (nightsM t c k (q, b, bc, n, ar, fi, rn)).2.1, (nightsM t c k (q, b, bc, n, ar, fi, rn)).2.2.1, (nightsM t c k (q, b, bc, n, ar, fi, rn)).2.2.2.1, (nightsM t c k (q, b, bc, n, ar, fi, rn)).2.2.2.2.1, (nightsM t c k (q, b, bc, n, ar, fi, rn)).2.2.2.2.2.1, (nightsM t c k (q, b, bc, n, ar, fi, rn)).2.2.2.2.2.2)).2.1) ((nightM t c ((nightsM t c k (q, b, bc, n, ar, fi, rn)).1, (nightsM t c k (q, b, bc, n, ar, fi, rn)).2.1, (nightsM t c k (q, b, bc, n, ar, fi, rn)).2.2.1, (nightsM t c k (q, b, bc, n, ar, fi, rn)).2.2.2.1, (nightsM t c k (q, b, bc, n, ar, fi, rn)).2.2.2.2.1, (nightsM t c k (q, b, bc, n, ar, fi, rn)).2.2.2.2.2.1, (nightsM t c k (q, b, bc, n, ar, fi, rn)).2.2.2.2.2.2)).2.2.1) ((nightM t c ((nightsM t c k (q, b, bc, n, ar, fi, rn)).1, (nightsM t c k (q, b, bc, n, ar, fi, rn)).2.1, (nightsM t c k (q, b, bc, n, ar, fi, rn)).2.2.1, (nightsM t c k (q, b, bc, n, ar, fi, rn)).2.2.2.1, (nightsM t c k (q, b, bc, n, ar, fi, rn)).2.2.2.2.1, (nightsM t c k (q, b, bc, n, ar, fi, rn)).2.2.2.2.2.1, (nightsM t c k (q, b, bc, n, ar, fi, rn)).2.2.2.2.2.2)).2.2.2.1) ((nightM t c ((nightsM t c k (q, b, bc, n, ar, fi, rn)).1, (nightsM t c k (q, b, bc, n, ar, fi, rn)).2.1, (nightsM t c k (q, b, bc, n, ar, fi, rn)).2.2.1, (nightsM t c k (q, b, bc, n, ar, fi, rn)).2.2.2.1, (nightsM t c k (q, b, bc, n, ar, fi, rn)).2.2.2.2.1, (nightsM t c k (q, b, bc, n, ar, fi, rn)).2.2.2.2.2.1, (nightsM t c k (q, b, bc, n, ar, fi, rn)).2.2.2.2.2.2)).2.2.2.2.1) ((nightM t c ((nightsM t c k (q, b, bc, n, ar, fi, rn)).1, (nightsM t c k (q, b, bc, n, ar, fi, rn)).2.1, (nightsM t c k (q, b, bc, n, ar, fi, rn)).2.2.1, (nightsM t c k (q, b, bc, n, ar, fi, rn)).2.2.2.1, (nightsM t c k (q, b, bc, n, ar, fi, rn)).2.2.2.2.1, (nightsM t c k (q, b, bc, n, ar, fi, rn)).2.2.2.2.2.1, (nightsM t c k (q, b, bc, n, ar, fi, rn)).2.2.2.2.2.2)).2.2.2.2.2.1) ((nightM t c ((nightsM t c k (q, b, bc, n, ar, fi, rn)).1, (nightsM t c k (q, b, bc, n, ar, fi, rn)).2.1, (nightsM t c k (q, b, bc, n, ar, fi, rn)).2.2.1, (nightsM t c k (q, b, bc, n, ar, fi, rn)).2.2.2.1, (nightsM t c k (q, b, bc, n, ar, fi, rn)).2.2.2.2.1, (nightsM t c k (q, b, bc, n, ar, fi, rn)).2.2.2.2.2.1, (nightsM t c k (q, b, bc, n, ar, fi, rn)).2.2.2.2.2.2)).2.2.2.2.2.2)).map Prod.fst = _ from rfl)
        have hP := hP1
        refine lv_iinc (v := nI (k + 1)) (lv' := [(2, .int (nI (k + 1))), (0, .ref (Z 0)), (1, .int (nI mm))]) hx hb dX4_pass__11 hl (k := 0) rfl (nI_1 _) (by decide) rfl (fun ls hl => ?_)
        refine lv_goto (tgt := 2) hx hb dX4_pass__14 (by decide) ?_
        have e4 : (nightsM t c (k + 1) (q, b, bc, n, ar, fi, rn)).1 = (nightM t c ((nightsM t c k (q, b, bc, n, ar, fi, rn)).1, (nightsM t c k (q, b, bc, n, ar, fi, rn)).2.1, (nightsM t c k (q, b, bc, n, ar, fi, rn)).2.2.1, (nightsM t c k (q, b, bc, n, ar, fi, rn)).2.2.2.1, (nightsM t c k (q, b, bc, n, ar, fi, rn)).2.2.2.2.1, (nightsM t c k (q, b, bc, n, ar, fi, rn)).2.2.2.2.2.1, (nightsM t c k (q, b, bc, n, ar, fi, rn)).2.2.2.2.2.2)).1 := by rw [nightsM_s]
        have e5 : (nightsM t c (k + 1) (q, b, bc, n, ar, fi, rn)).2.1 = (nightM t c ((nightsM t c k (q, b, bc, n, ar, fi, rn)).1, (nightsM t c k (q, b, bc, n, ar, fi, rn)).2.1, (nightsM t c k (q, b, bc, n, ar, fi, rn)).2.2.1, (nightsM t c k (q, b, bc, n, ar, fi, rn)).2.2.2.1, (nightsM t c k (q, b, bc, n, ar, fi, rn)).2.2.2.2.1, (nightsM t c k (q, b, bc, n, ar, fi, rn)).2.2.2.2.2.1, (nightsM t c k (q, b, bc, n, ar, fi, rn)).2.2.2.2.2.2)).2.1 := by rw [nightsM_s]
        have e6 : (nightsM t c (k + 1) (q, b, bc, n, ar, fi, rn)).2.2.1 = (nightM t c ((nightsM t c k (q, b, bc, n, ar, fi, rn)).1, (nightsM t c k (q, b, bc, n, ar, fi, rn)).2.1, (nightsM t c k (q, b, bc, n, ar, fi, rn)).2.2.1, (nightsM t c k (q, b, bc, n, ar, fi, rn)).2.2.2.1, (nightsM t c k (q, b, bc, n, ar, fi, rn)).2.2.2.2.1, (nightsM t c k (q, b, bc, n, ar, fi, rn)).2.2.2.2.2.1, (nightsM t c k (q, b, bc, n, ar, fi, rn)).2.2.2.2.2.2)).2.2.1 := by rw [nightsM_s]
        have e7 : (nightsM t c (k + 1) (q, b, bc, n, ar, fi, rn)).2.2.2.1 = (nightM t c ((nightsM t c k (q, b, bc, n, ar, fi, rn)).1, (nightsM t c k (q, b, bc, n, ar, fi, rn)).2.1, (nightsM t c k (q, b, bc, n, ar, fi, rn)).2.2.1, (nightsM t c k (q, b, bc, n, ar, fi, rn)).2.2.2.1, (nightsM t c k (q, b, bc, n, ar, fi, rn)).2.2.2.2.1, (nightsM t c k (q, b, bc, n, ar, fi, rn)).2.2.2.2.2.1, (nightsM t c k (q, b, bc, n, ar, fi, rn)).2.2.2.2.2.2)).2.2.2.1 := by rw [nightsM_s]
        have e8 : (nightsM t c (k + 1) (q, b, bc, n, ar, fi, rn)).2.2.2.2.1 = (nightM t c ((nightsM t c k (q, b, bc, n, ar, fi, rn)).1, (nightsM t c k (q, b, bc, n, ar, fi, rn)).2.1, (nightsM t c k (q, b, bc, n, ar, fi, rn)).2.2.1, (nightsM t c k (q, b, bc, n, ar, fi, rn)).2.2.2.1, (nightsM t c k (q, b, bc, n, ar, fi, rn)).2.2.2.2.1, (nightsM t c k (q, b, bc, n, ar, fi, rn)).2.2.2.2.2.1, (nightsM t c k (q, b, bc, n, ar, fi, rn)).2.2.2.2.2.2)).2.2.2.2.1 := by rw [nightsM_s]
        have e9 : (nightsM t c (k + 1) (q, b, bc, n, ar, fi, rn)).2.2.2.2.2.1 = (nightM t c ((nightsM t c k (q, b, bc, n, ar, fi, rn)).1, (nightsM t c k (q, b, bc, n, ar, fi, rn)).2.1, (nightsM t c k (q, b, bc, n, ar, fi, rn)).2.2.1, (nightsM t c k (q, b, bc, n, ar, fi, rn)).2.2.2.1, (nightsM t c k (q, b, bc, n, ar, fi, rn)).2.2.2.2.1, (nightsM t c k (q, b, bc, n, ar, fi, rn)).2.2.2.2.2.1, (nightsM t c k (q, b, bc, n, ar, fi, rn)).2.2.2.2.2.2)).2.2.2.2.2.1 := by rw [nightsM_s]
        have e10 : (nightsM t c (k + 1) (q, b, bc, n, ar, fi, rn)).2.2.2.2.2.2 = (nightM t c ((nightsM t c k (q, b, bc, n, ar, fi, rn)).1, (nightsM t c k (q, b, bc, n, ar, fi, rn)).2.1, (nightsM t c k (q, b, bc, n, ar, fi, rn)).2.2.1, (nightsM t c k (q, b, bc, n, ar, fi, rn)).2.2.2.1, (nightsM t c k (q, b, bc, n, ar, fi, rn)).2.2.2.2.1, (nightsM t c k (q, b, bc, n, ar, fi, rn)).2.2.2.2.2.1, (nightsM t c k (q, b, bc, n, ar, fi, rn)).2.2.2.2.2.2)).2.2.2.2.2.2 := by rw [nightsM_s]
        refine ihk H locs ls ?_ ?_ hS ?_
        · first | exact hP | (simp only [e4, e5, e6, e7, e8, e9, e10]; exact hP)
        · first | exact hD | (simp only [e4, e5, e6, e7, e8, e9, e10]; exact hD)
        · first | exact lv_sub hl [0, 1, 2] rfl | (simp only [e4, e5, e6, e7, e8, e9, e10]; exact lv_sub hl [0, 1, 2] rfl)
  exact loop1 0 (Nat.zero_le _) H locs ls hP hD hS (lv_sub hl [0, 1, 2] rfl)
