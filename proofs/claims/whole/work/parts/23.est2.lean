theorem zM.ofH {l : Launch} {n : MethodName} {ws ws' : List Cond} {rm : Room} {D : va_G} {y : Nat → ClassId} {av : List Value} {w w1 : va_W} {sz : Nat} {rv : Option Value} {mc ms : Nat} {cc : ByteArray} {maxL : Nat} {ret : Option FieldType} {own : String}
    (hy : plainName n.cls = true) (hw : ws = Cond.code n cc maxL ret :: ws') (hlen : (lg_sl av).length ≤ maxL) (ho : n.cls = own)
    (body : ∀ (p : Program) (e : Env) (s : State) (m : MethodId) (args : Array Value) (below : List Frame) (meth : Method) (c : Code) (ls : Array Slot) (A : Nat → Prop) (H : Heap) (locs : List Loc), p.tables.exec = Jvm.exec → c.code = cc → meth.sig.returnType = ret → c.maxLocals = maxL → s.vm.findClass own = some m.cls → (∀ x ∈ ws, x.before args s = true) → meth.locks = false → va_P D vwCl w H → va_K D vwCl (tyL y) s → va_D A w → (∀ q : Nat, s.heap.size ≤ q → A q) → va_S A s.heap H locs → lv_has ls maxL (lv_args 0 av) → meth.name = n.name → W p l e rm s m args below meth c H locs 0 0 (MQ below (zMQ rv D w1 A) args s mc ms A) (F0 m 0 ls [])) : zM l n ws rm D y av w sz rv w1 mc ms :=
  zM.of hy hw hlen ho (fun p e s m args below meth c ls A h1 h2 h3 h4 h5 h6 h7 hP hK hD hA hS hl hin => body p e s m args below meth c ls A s.heap [] h1 h2 h3 h4 h5 h6 h7 hP hK hD hA hS hl hin)
theorem underE_t {b : Fld} {x : Int32} : ∀ {n k : Nat}, k < n → b 0 k = x → underE b n x = true
  | 0, _, h, _ => absurd h (Nat.not_lt_zero _)
  | n + 1, k, h, e => by
    show (underE b n x || decide (b 0 n = x)) = true
    rcases Nat.lt_or_eq_of_le (Nat.lt_succ_iff.mp h) with h1 | h1
    · rw [underE_t h1 e, Bool.true_or]
    · subst h1; rw [e]; simp
theorem underE_s (b : Fld) (n : Nat) (x : Int32) : underE b (n + 1) x = (underE b n x || decide (b 0 n = x)) := rfl
theorem z_updO (o : Nat → Nat) (k v : Nat) : upd (fun i => nI (o i)) k (nI v) = fun i => nI (va_up o k v i) := by
  funext i
  unfold upd va_up
  split <;> rfl
theorem catchE_s (o : Nat → Nat) (q : Fld) (k : Nat) (x : Int32) : itN (catchS o) (k + 1) (q, x) = catchS o k (itN (catchS o) k (q, x)) := rfl
def catchP (o : Nat → Nat) (q : Fld) (k : Nat) (x : Int32) : Fld × Int32 := itN (catchS o) k (q, x)
theorem catchP_s (o : Nat → Nat) (q : Fld) (k : Nat) (x : Int32) : catchP o q (k + 1) x = catchS o k (catchP o q k x) := rfl
theorem brkE_s (q : Fld) (k : Nat) (bp bw fi br : Int32) : brkE q (k + 1) bp bw fi br = brkS bp bw k (brkE q k bp bw fi br) := rfl
theorem movE_s (q b : Fld) (c k : Nat) (fi : Int32) : movE q b c (k + 1) fi = movS c k (movE q b c k fi) := rfl
theorem lvE_s (b : Fld) (k : Nat) : lvE b (k + 1) = lvS k (lvE b k) := rfl
theorem rotE_s (q : Fld) (k n : Nat) : rotE q (k + 1) n = (if heldB (rotE q k n) k = true then loseW (rotE q k n) k (rotI n) else rotE q k n) := rfl
theorem rentE_s (q : Fld) (k : Nat) (re : Int32) : rentE q (k + 1) re = rentS k (rentE q k re) := rfl
theorem nightsE_s (t : Nat → Int32) (o : Nat → Nat) (c k : Nat) (a : Nst) : nightsE t o c (k + 1) a = nightE t o c (nightsE t o c k a) := rfl
theorem lvE_le (b : Fld) (k : Nat) : (lvE b k).2 ≤ k := by
  induction k with
  | zero => exact Nat.le_refl _
  | succ k ih =>
    rw [lvE_s]
    unfold lvS
    split
    · exact Nat.succ_le_succ ih
    · exact Nat.le_succ_of_le ih
theorem nightsE_n (t : Nat → Int32) (o : Nat → Nat) (c k : Nat) (a : Nst) : (nightsE t o c k a).2.2.2.1 = a.2.2.2.1 + k := by
  induction k with
  | zero => rfl
  | succ k ih => rw [nightsE_s]; show (nightsE t o c k a).2.2.2.1 + 1 = _; rw [ih]; omega
theorem nightsE_b (t : Nat → Int32) (o : Nat → Nat) (c k : Nat) (a : Nst) : (nightsE t o c k a).2.2.1 ≤ a.2.2.1 := by
  induction k with
  | zero => exact Nat.le_refl _
  | succ k ih => rw [nightsE_s]; exact Nat.le_trans (lvE_le _ _) ih
set_option maxHeartbeats 4000000 in
set_option maxRecDepth 100000 in
theorem c_X1_isUnderWay (l : Launch) (D : va_G) (y : Nat → ClassId) (E : Nat → Nat) (t : Nat → Int32) (o : Nat → Nat) (q b : Fld) (c bc n : Nat) (ar fi re : Int32) (x : Int32) (hbc : bc ≤ 5) : zR l yX1_isUnderWay wsX1_isUnderWay { frames := 1, cells := 0, slots := 0, locals := 22 } D y [.ref (E 0), .int x] (eW E y t o q b c bc n ar fi re) (some (.int (zb (underE b bc x)))) := by
  refine zR.of (cc := cX1_isUnderWay) (maxL := 4) (ret := (some .boolean)) (own := RX1) (by decide) rfl (Nat.le_of_ble_eq_true rfl) rfl ?_
  intro p e s m args below meth cd ls hx hb hr hml hown hts hlocks hP hK hl
  have hl : lv_has ls 4 [(0, .ref (E 0)), (1, .int x)] := hl
  have hf51 : (Cond.fieldLink RX1 51 "StakeWeirs$Estuary" "bargeCount" "I").before args s = true := hts _ (by decide +kernel)
  have hinX1 : ∀ w ∈ wsX10, w ∈ wsX1_isUnderWay := by decide +kernel
  have hf98 : (Cond.fieldLink RX1 98 "StakeWeirs$Barge" "ticket" "I").before args s = true := hts _ (by decide +kernel)
  have hinX0 : ∀ w ∈ wsX00, w ∈ wsX1_isUnderWay := by decide +kernel
  refine lv_iconst (v := 0) hx hb dX1_isUnderWay_0 (by decide) ?_
  refine lv_istore_n (lv' := [(2, .int 0), (0, .ref (E 0)), (1, .int x)]) hx hb dX1_isUnderWay_1 rfl hl (by decide) rfl (fun ls hl => ?_)
  have loop1 : ∀ k, k ≤ bc → ∀ (ls : Array Slot), underE b k x = false → lv_has ls 4 [(2, .int (nI k)), (0, .ref (E 0)), (1, .int x)] → W p l e ({ frames := 1, cells := 0, slots := 0, locals := 22 } : Room) s m args below meth cd s.heap [] 0 0 (MQ below (zRQ (some (.int (zb (underE b bc x))))) args s 0 0 (fun _ => False)) (F0 m 2 ls []) := by
    refine down ?_ ?_
    · intro ls hu hl
      refine lv_iload_n hx hb dX1_isUnderWay_2 rfl (lv_at hl 0 rfl) ?_
      refine lv_aload_n hx hb dX1_isUnderWay_3 rfl (lv_at hl 1 rfl) ?_
      refine va_get (D := D) (ci := 1) (v := .int (nI bc)) (C := RX1) (T := TX1) (N := 10) hx hb hts hinX1 hown hK hP (0) rfl rfl 5 (by decide) hf51 (fun _ h9 => h9) rfl dX1_isUnderWay_4 ?_
      refine lv_icmp_ge (tgt := 36) hx hb dX1_isUnderWay_7 (by decide) (fun c2 => ?_) (fun c2 => ?_)
      · have d2 := Int32.not_lt.mpr c2
        refine lv_iconst (v := 0) hx hb dX1_isUnderWay_36 (by decide) ?_
        exact zR_z hx hb hr hlocks dX1_isUnderWay_37 (Or.inl rfl) (by rw [hu]; rfl)
      · exact absurd (nI_le (a := bc) (b := bc) (by omega) (by omega)) c2
    · intro k hkk ihk ls hu hl
      refine lv_iload_n hx hb dX1_isUnderWay_2 rfl (lv_at hl 0 rfl) ?_
      refine lv_aload_n hx hb dX1_isUnderWay_3 rfl (lv_at hl 1 rfl) ?_
      refine va_get (D := D) (ci := 1) (v := .int (nI bc)) (C := RX1) (T := TX1) (N := 10) hx hb hts hinX1 hown hK hP (0) rfl rfl 5 (by decide) hf51 (fun _ h9 => h9) rfl dX1_isUnderWay_4 ?_
      refine lv_icmp_ge (tgt := 36) hx hb dX1_isUnderWay_7 (by decide) (fun c3 => ?_) (fun c3 => ?_)
      · exact absurd c3 (nI_ge (a := k) (b := bc) (by omega) (by omega))
      · have d3 := Int32.not_le.mp c3
        refine lv_aload_n hx hb dX1_isUnderWay_10 rfl (lv_at hl 1 rfl) ?_
        refine lv_iload_n hx hb dX1_isUnderWay_11 rfl (lv_at hl 0 rfl) ?_
        refine zcRV (As := [.int (nI k)]) (rest := []) (st1 := [.ref (E (11 + k))]) ⟨hx, hb, hml, hown, hts⟩ (c_X1_bargeAt l D y E t o q b c bc n ar fi re k (by omega) (by omega)) (cwV 1 hts gX1_isUnderWay_X1_bargeAt rfl rfl rfl (by decide +kernel) ⟨Nat.le_of_ble_eq_true rfl, Nat.le_of_ble_eq_true rfl⟩) hK hP (ci := 1) (q0 := 0) rfl rfl rfl rfl hl.1 rfl (lv_room (Nat.le_of_ble_eq_true rfl)) dX1_isUnderWay_12 ⟨Nat.le_of_ble_eq_true rfl, Nat.le_of_ble_eq_true rfl⟩ rfl ?_
        refine lv_astore_n (lv' := [(3, .ref (E (11 + k))), (2, .int (nI k)), (0, .ref (E 0)), (1, .int x)]) hx hb dX1_isUnderWay_15 rfl hl (by decide) rfl (fun ls hl => ?_)
        refine lv_aload_n hx hb dX1_isUnderWay_16 rfl (lv_at hl 0 rfl) ?_
        refine lv_ifnull hx hb dX1_isUnderWay_17 ?_
        refine lv_aload_n hx hb dX1_isUnderWay_20 rfl (lv_at hl 0 rfl) ?_
        refine va_get (D := D) (ci := 0) (v := .int ((b 0 k))) (C := RX0) (T := TX0) (N := 4) hx hb hts hinX0 hown hK hP (11 + k) (eW_b (by omega)) rfl 0 (by decide) hf98 (fun _ h9 => h9) rfl dX1_isUnderWay_21 ?_
        refine lv_iload_n hx hb dX1_isUnderWay_24 rfl (lv_at hl 3 rfl) ?_
        refine lv_icmp_ne (tgt := 30) hx hb dX1_isUnderWay_25 (by decide) (fun c4 => ?_) (fun c4 => ?_)
        · have d4 := c4
          refine lv_iinc (v := nI (k + 1)) (lv' := [(2, .int (nI (k + 1))), (3, .ref (E (11 + k))), (0, .ref (E 0)), (1, .int x)]) hx hb dX1_isUnderWay_30 hl (k := 1) rfl (nI_1 _) (by decide) rfl (fun ls hl => ?_)
          refine lv_goto (tgt := 2) hx hb dX1_isUnderWay_33 (by decide) ?_
          refine ihk ls (by rw [underE_s, hu]; simp [c4, d4]) ?_
          skip
          exact lv_sub hl [0, 2, 3] rfl
        · have d4 := c4
          refine lv_iconst (v := 1) hx hb dX1_isUnderWay_28 (by decide) ?_
          exact zR_z hx hb hr hlocks dX1_isUnderWay_29 (Or.inr rfl) (by rw [underE_t (k := k) hkk (by first | exact d4)]; rfl)
  exact loop1 0 (Nat.zero_le _) ls rfl (lv_sub hl [0, 1, 2] rfl)
set_option maxHeartbeats 4000000 in
set_option maxRecDepth 100000 in
theorem c_X1_setTableEels (l : Launch) (D : va_G) (y : Nat → ClassId) (E : Nat → Nat) (t : Nat → Int32) (o : Nat → Nat) (q b : Fld) (c bc n : Nat) (ar fi re : Int32) (k : Nat) (x : Int32) (hk : k < 7) (sz : Nat) : zM l yX1_setTableEels wsX1_setTableEels { frames := 0, cells := 0, slots := 0, locals := 0 } D y [.ref (E 0), .int (nI k), .int x] (eW E y t o q b c bc n ar fi re) sz (none) (eW E y (upd t k x) o q b c bc n ar fi re) 0 0 := by
  refine zM.ofH (cc := cX1_setTableEels) (maxL := 3) (ret := none) (own := RX1) (by decide) rfl (Nat.le_of_ble_eq_true rfl) rfl ?_
  intro p e s m args below meth cd ls A H locs hx hb hr hml hown hts hlocks hP hK hD hA hS hl hin
  have hS0 := hS
  have hl : lv_has ls 3 [(0, .ref (E 0)), (1, .int (nI k)), (2, .int x)] := hl
  have hf9 : (Cond.fieldLink RX1 9 "StakeWeirs$Estuary" "table" "[I").before args s = true := hts _ (by decide +kernel)
  have hinX1 : ∀ w ∈ wsX10, w ∈ wsX1_setTableEels := by decide +kernel
  refine lv_iload_n hx hb dX1_setTableEels_0 rfl (lv_at hl 1 rfl) ?_
  refine lv_if_lt (tgt := 20) hx hb dX1_setTableEels_1 (by decide) (fun c1 => ?_) (fun c1 => ?_)
  · exact absurd c1 (nI_nlt (a := k) (b := 0) (by omega) (by omega))
  · have d1 := Int32.not_lt.mp c1
    refine lv_iload_n hx hb dX1_setTableEels_4 rfl (lv_at hl 1 rfl) ?_
    refine lv_aload_n hx hb dX1_setTableEels_5 rfl (lv_at hl 0 rfl) ?_
    refine va_get (D := D) (ci := 1) (v := .ref (E 1)) (C := RX1) (T := TX1) (N := 10) hx hb hts hinX1 hown hK hP (0) rfl rfl 0 (by decide) hf9 (fun _ h9 => h9) rfl dX1_setTableEels_6 ?_
    refine va_alen hx hb hK hP 1 0 (v := nI 7) rfl rfl rfl dX1_setTableEels_9 ?_
    refine lv_icmp_ge (tgt := 20) hx hb dX1_setTableEels_10 (by decide) (fun c2 => ?_) (fun c2 => ?_)
    · exact absurd c2 (nI_ge (a := k) (b := 7) (by omega) (by omega))
    · have d2 := Int32.not_le.mp c2
      refine lv_aload_n hx hb dX1_setTableEels_13 rfl (lv_at hl 0 rfl) ?_
      refine va_get (D := D) (ci := 1) (v := .ref (E 1)) (C := RX1) (T := TX1) (N := 10) hx hb hts hinX1 hown hK hP (0) rfl rfl 0 (by decide) hf9 (fun _ h9 => h9) rfl dX1_setTableEels_14 ?_
      refine lv_iload_n hx hb dX1_setTableEels_17 rfl (lv_at hl 1 rfl) ?_
      refine lv_iload_n hx hb dX1_setTableEels_18 rfl (lv_at hl 2 rfl) ?_
      refine z_ast hx hb hK hP hD hS 1 (f := t) rfl k rfl (by omega) (by decide) rfl dX1_setTableEels_19 (fun H locs hP hD hS => ?_)
      have hP : va_P D vwCl (eW E y (upd t k x) o q b c bc n ar fi re) H := hP
      have hD : va_D A (eW E y (upd t k x) o q b c bc n ar fi re) := hD
      exact zM_v hx hb hr hlocks hS dX1_setTableEels_20 rfl hP
set_option maxHeartbeats 4000000 in
set_option maxRecDepth 100000 in
theorem c_X1_copyWeir (l : Launch) (D : va_G) (y : Nat → ClassId) (h h2 : Nat) (q q2 : Fld) (k k2 : Nat) (h01 : q2 6 k2 = 0 ∨ q2 6 k2 = 1)  (sz : Nat) : zM l yX1_copyWeir wsX1_copyWeir { frames := 1, cells := 0, slots := 0, locals := 21 } D y [.ref h, .ref h2] ([(h, .inr (2, qF q k)), (h2, .inr (2, qF q2 k2))]) sz (none) ([(h, .inr (2, qF (cpF q k q2 k2) k)), (h2, .inr (2, qF q2 k2))]) 0 0 := by
  refine zM.ofH (cc := cX1_copyWeir) (maxL := 2) (ret := none) (own := RX1) (by decide) rfl (Nat.le_of_ble_eq_true rfl) rfl ?_
  intro p e s m args below meth cd ls A H locs hx hb hr hml hown hts hlocks hP hK hD hA hS hl hin
  have hS0 := hS
  have hl : lv_has ls 2 [(0, .ref h), (1, .ref h2)] := hl
  refine lv_aload_n hx hb dX1_copyWeir_0 rfl (lv_at hl 0 rfl) ?_
  refine lv_ifnull hx hb dX1_copyWeir_1 ?_
  refine lv_aload_n hx hb dX1_copyWeir_4 rfl (lv_at hl 1 rfl) ?_
  refine lv_ifnull hx hb dX1_copyWeir_5 ?_
  refine lv_aload_n hx hb dX1_copyWeir_8 rfl (lv_at hl 0 rfl) ?_
  refine lv_aload_n hx hb dX1_copyWeir_9 rfl (lv_at hl 1 rfl) ?_
  refine zcMV (As := [.ref h2]) (rest := []) (st1 := []) (cells1 := 0) (slots1 := 0) ⟨hx, hb, hml, hown, hts⟩ (c_X2_copyFrom l D y h h2 q q2 k k2 h01 _) (cwV 1 hts gX1_copyWeir_X2_copyFrom rfl rfl rfl (by decide +kernel) ⟨Nat.le_of_ble_eq_true rfl, Nat.le_of_ble_eq_true rfl⟩) hK hP (z_D_T hD) (ci := 2) (q0 := 0) rfl rfl rfl rfl hl.1 rfl (lv_room (Nat.le_of_ble_eq_true rfl)) dX1_copyWeir_10 hS (z_sub_F hD hS hA z_in_r) ⟨Nat.le_of_ble_eq_true rfl, Nat.le_of_ble_eq_true rfl⟩ rfl rfl rfl (fun H locs hP1 hz hfr hS => ?_)
  have hP := hP1
  exact zM_v hx hb hr hlocks hS dX1_copyWeir_13 rfl hP
set_option maxHeartbeats 4000000 in
set_option maxRecDepth 100000 in
theorem c_X1_copyBarge (l : Launch) (D : va_G) (y : Nat → ClassId) (h h2 : Nat) (b b2 : Fld) (k k2 : Nat)  (sz : Nat) : zM l yX1_copyBarge wsX1_copyBarge { frames := 1, cells := 0, slots := 0, locals := 21 } D y [.ref h, .ref h2] ([(h, .inr (0, bF b k)), (h2, .inr (0, bF b2 k2))]) sz (none) ([(h, .inr (0, bF (cpF b k b2 k2) k)), (h2, .inr (0, bF b2 k2))]) 0 0 := by
  refine zM.ofH (cc := cX1_copyBarge) (maxL := 2) (ret := none) (own := RX1) (by decide) rfl (Nat.le_of_ble_eq_true rfl) rfl ?_
  intro p e s m args below meth cd ls A H locs hx hb hr hml hown hts hlocks hP hK hD hA hS hl hin
  have hS0 := hS
  have hl : lv_has ls 2 [(0, .ref h), (1, .ref h2)] := hl
  refine lv_aload_n hx hb dX1_copyBarge_0 rfl (lv_at hl 0 rfl) ?_
  refine lv_ifnull hx hb dX1_copyBarge_1 ?_
  refine lv_aload_n hx hb dX1_copyBarge_4 rfl (lv_at hl 1 rfl) ?_
  refine lv_ifnull hx hb dX1_copyBarge_5 ?_
  refine lv_aload_n hx hb dX1_copyBarge_8 rfl (lv_at hl 0 rfl) ?_
  refine lv_aload_n hx hb dX1_copyBarge_9 rfl (lv_at hl 1 rfl) ?_
  refine zcMV (As := [.ref h2]) (rest := []) (st1 := []) (cells1 := 0) (slots1 := 0) ⟨hx, hb, hml, hown, hts⟩ (c_X0_copyFrom l D y h h2 b b2 k k2 _) (cwV 1 hts gX1_copyBarge_X0_copyFrom rfl rfl rfl (by decide +kernel) ⟨Nat.le_of_ble_eq_true rfl, Nat.le_of_ble_eq_true rfl⟩) hK hP (z_D_T hD) (ci := 0) (q0 := 0) rfl rfl rfl rfl hl.1 rfl (lv_room (Nat.le_of_ble_eq_true rfl)) dX1_copyBarge_10 hS (z_sub_F hD hS hA z_in_r) ⟨Nat.le_of_ble_eq_true rfl, Nat.le_of_ble_eq_true rfl⟩ rfl rfl rfl (fun H locs hP1 hz hfr hS => ?_)
  have hP := hP1
  exact zM_v hx hb hr hlocks hS dX1_copyBarge_13 rfl hP
set_option maxHeartbeats 4000000 in
set_option maxRecDepth 100000 in
theorem c_X1_copyBarge_self (l : Launch) (D : va_G) (y : Nat → ClassId) (h : Nat) (b : Fld) (k : Nat)  (sz : Nat) : zM l yX1_copyBarge wsX1_copyBarge { frames := 1, cells := 0, slots := 0, locals := 21 } D y [.ref h, .ref h] ([(h, .inr (0, bF b k))]) sz (none) ([(h, .inr (0, bF b k))]) 0 0 := by
  refine zM.ofH (cc := cX1_copyBarge) (maxL := 2) (ret := none) (own := RX1) (by decide) rfl (Nat.le_of_ble_eq_true rfl) rfl ?_
  intro p e s m args below meth cd ls A H locs hx hb hr hml hown hts hlocks hP hK hD hA hS hl hin
  have hS0 := hS
  have hl : lv_has ls 2 [(0, .ref h), (1, .ref h)] := hl
  refine lv_aload_n hx hb dX1_copyBarge_0 rfl (lv_at hl 0 rfl) ?_
  refine lv_ifnull hx hb dX1_copyBarge_1 ?_
  refine lv_aload_n hx hb dX1_copyBarge_4 rfl (lv_at hl 1 rfl) ?_
  refine lv_ifnull hx hb dX1_copyBarge_5 ?_
  refine lv_aload_n hx hb dX1_copyBarge_8 rfl (lv_at hl 0 rfl) ?_
  refine lv_aload_n hx hb dX1_copyBarge_9 rfl (lv_at hl 1 rfl) ?_
  refine zcMV (As := [.ref h]) (rest := []) (st1 := []) (cells1 := 0) (slots1 := 0) ⟨hx, hb, hml, hown, hts⟩ (c_X0_copyFrom_self l D y h b k _) (cwV 1 hts gX1_copyBarge_X0_copyFrom rfl rfl rfl (by decide +kernel) ⟨Nat.le_of_ble_eq_true rfl, Nat.le_of_ble_eq_true rfl⟩) hK hP (z_D_T hD) (ci := 0) (q0 := 0) rfl rfl rfl rfl hl.1 rfl (lv_room (Nat.le_of_ble_eq_true rfl)) dX1_copyBarge_10 hS (z_sub_F hD hS hA z_in_r) ⟨Nat.le_of_ble_eq_true rfl, Nat.le_of_ble_eq_true rfl⟩ rfl rfl rfl (fun H locs hP1 hz hfr hS => ?_)
  have hP := hP1
  exact zM_v hx hb hr hlocks hS dX1_copyBarge_13 rfl hP
set_option maxHeartbeats 4000000 in
set_option maxRecDepth 100000 in
theorem c_X1_catchEels (l : Launch) (D : va_G) (y : Nat → ClassId) (E : Nat → Nat) (t : Nat → Int32) (o : Nat → Nat) (q b : Fld) (c bc n : Nat) (ar fi re : Int32) (hc : c ≤ 6) (hn : n < 2147483648) (ho : ∀ i, i < c → o i < c) (sz : Nat) : zM l yX1_catchEels wsX1_catchEels { frames := 3, cells := 0, slots := 0, locals := 65 } D y [.ref (E 0)] (eW E y t o q b c bc n ar fi re) sz (none) (eW E y t o (catchE o q c (runI t n)) b c bc n ar fi re) 0 0 := by
  refine zM.ofH (cc := cX1_catchEels) (maxL := 4) (ret := none) (own := RX1) (by decide) rfl (Nat.le_of_ble_eq_true rfl) rfl ?_
  intro p e s m args below meth cd ls A H locs hx hb hr hml hown hts hlocks hP hK hD hA hS hl hin
  have hS0 := hS
  have hl : lv_has ls 4 [(0, .ref (E 0))] := hl
  have hf39 : (Cond.fieldLink RX1 39 "StakeWeirs$Estuary" "weirCount" "I").before args s = true := hts _ (by decide +kernel)
  have hinX1 : ∀ w ∈ wsX10, w ∈ wsX1_catchEels := by decide +kernel
  refine lv_aload_n hx hb dX1_catchEels_0 rfl (lv_at hl 0 rfl) ?_
  refine zcRV (As := []) (rest := []) (st1 := [.int ((runI t n))]) ⟨hx, hb, hml, hown, hts⟩ (c_X1_run l D y E t o q b c bc n ar fi re  (by omega)) (cwV 0 hts gX1_catchEels_X1_run rfl rfl rfl (by decide +kernel) ⟨Nat.le_of_ble_eq_true rfl, Nat.le_of_ble_eq_true rfl⟩) hK hP (ci := 1) (q0 := 0) rfl rfl rfl rfl hl.1 rfl (lv_room (Nat.le_of_ble_eq_true rfl)) dX1_catchEels_1 ⟨Nat.le_of_ble_eq_true rfl, Nat.le_of_ble_eq_true rfl⟩ rfl ?_
  refine lv_istore_n (lv' := [(1, .int ((runI t n))), (0, .ref (E 0))]) hx hb dX1_catchEels_4 rfl hl (by decide) rfl (fun ls hl => ?_)
  refine lv_iconst (v := 0) hx hb dX1_catchEels_5 (by decide) ?_
  refine lv_istore_n (lv' := [(2, .int 0), (1, .int ((runI t n))), (0, .ref (E 0))]) hx hb dX1_catchEels_6 rfl hl (by decide) rfl (fun ls hl => ?_)
  have loop1 : ∀ k, k ≤ c → ∀ (H : Heap) (locs : List Loc) (ls : Array Slot), va_P D vwCl (eW E y t o ((catchP o q k (runI t n)).1) b c bc n ar fi re) H → va_D A (eW E y t o ((catchP o q k (runI t n)).1) b c bc n ar fi re) → va_S A s.heap H locs → lv_has ls 4 [(2, .int (nI k)), (1, .int ((catchP o q k (runI t n)).2)), (0, .ref (E 0))] → W p l e ({ frames := 3, cells := 0, slots := 0, locals := 65 } : Room) s m args below meth cd H locs 0 0 (MQ below (zMQ (none) D (eW E y t o (catchE o q c (runI t n)) b c bc n ar fi re) A) args s 0 0 A) (F0 m 7 ls []) := by
    refine down ?_ ?_
    · intro H locs ls hP hD hS hl
      refine lv_iload_n hx hb dX1_catchEels_7 rfl (lv_at hl 0 rfl) ?_
      refine lv_aload_n hx hb dX1_catchEels_8 rfl (lv_at hl 2 rfl) ?_
      refine va_get (D := D) (ci := 1) (v := .int (nI c)) (C := RX1) (T := TX1) (N := 10) hx hb hts hinX1 hown hK hP (0) rfl rfl 4 (by decide) hf39 (fun _ h9 => h9) rfl dX1_catchEels_9 ?_
      refine lv_icmp_ge (tgt := 50) hx hb dX1_catchEels_12 (by decide) (fun c2 => ?_) (fun c2 => ?_)
      · have d2 := Int32.not_lt.mpr c2
        exact zM_v hx hb hr hlocks hS dX1_catchEels_50 rfl hP
      · exact absurd (nI_le (a := c) (b := c) (by omega) (by omega)) c2
    · intro k hkk ihk H locs ls hP hD hS hl
      have hok := ho k hkk
      refine lv_iload_n hx hb dX1_catchEels_7 rfl (lv_at hl 0 rfl) ?_
      refine lv_aload_n hx hb dX1_catchEels_8 rfl (lv_at hl 2 rfl) ?_
      refine va_get (D := D) (ci := 1) (v := .int (nI c)) (C := RX1) (T := TX1) (N := 10) hx hb hts hinX1 hown hK hP (0) rfl rfl 4 (by decide) hf39 (fun _ h9 => h9) rfl dX1_catchEels_9 ?_
      refine lv_icmp_ge (tgt := 50) hx hb dX1_catchEels_12 (by decide) (fun c3 => ?_) (fun c3 => ?_)
      · exact absurd c3 (nI_ge (a := k) (b := c) (by omega) (by omega))
      · have d3 := Int32.not_le.mp c3
        refine lv_aload_n hx hb dX1_catchEels_15 rfl (lv_at hl 2 rfl) ?_
        refine lv_aload_n hx hb dX1_catchEels_16 rfl (lv_at hl 2 rfl) ?_
        refine lv_iload_n hx hb dX1_catchEels_17 rfl (lv_at hl 0 rfl) ?_
        refine zcRV (As := [.int (nI k)]) (rest := [.ref (E 0)]) (st1 := [.int (nI (o k)), .ref (E 0)]) ⟨hx, hb, hml, hown, hts⟩ (c_X1_inOrder l D y E t o ((catchP o q k (runI t n)).1) b c bc n ar fi re k (by omega)) (cwV 1 hts gX1_catchEels_X1_inOrder rfl rfl rfl (by decide +kernel) ⟨Nat.le_of_ble_eq_true rfl, Nat.le_of_ble_eq_true rfl⟩) hK hP (ci := 1) (q0 := 0) rfl rfl rfl rfl hl.1 rfl (lv_room (Nat.le_of_ble_eq_true rfl)) dX1_catchEels_18 ⟨Nat.le_of_ble_eq_true rfl, Nat.le_of_ble_eq_true rfl⟩ rfl ?_
        refine zcRV (As := [.int (nI (o k))]) (rest := []) (st1 := [.ref (E (5 + (o k)))]) ⟨hx, hb, hml, hown, hts⟩ (c_X1_weirAt l D y E t o ((catchP o q k (runI t n)).1) b c bc n ar fi re (o k) (by omega) (by omega)) (cwV 1 hts gX1_catchEels_X1_weirAt rfl rfl rfl (by decide +kernel) ⟨Nat.le_of_ble_eq_true rfl, Nat.le_of_ble_eq_true rfl⟩) hK hP (ci := 1) (q0 := 0) rfl rfl rfl rfl hl.1 rfl (lv_room (Nat.le_of_ble_eq_true rfl)) dX1_catchEels_21 ⟨Nat.le_of_ble_eq_true rfl, Nat.le_of_ble_eq_true rfl⟩ rfl ?_
        refine lv_astore_n (lv' := [(3, .ref (E (5 + (o k)))), (2, .int (nI k)), (1, .int ((catchP o q k (runI t n)).2)), (0, .ref (E 0))]) hx hb dX1_catchEels_24 rfl hl (by decide) rfl (fun ls hl => ?_)
        refine lv_aload_n hx hb dX1_catchEels_25 rfl (lv_at hl 0 rfl) ?_
        refine lv_ifnull hx hb dX1_catchEels_26 ?_
        refine lv_aload_n hx hb dX1_catchEels_29 rfl (lv_at hl 0 rfl) ?_
        refine zcRV (As := []) (rest := []) (st1 := [.int (zb (fishB ((catchP o q k (runI t n)).1) (o k)))]) ⟨hx, hb, hml, hown, hts⟩ (c_X2_isFishing l D y (E (5 + (o k))) ((catchP o q k (runI t n)).1) (o k)) (cwV 0 hts gX1_catchEels_X2_isFishing rfl rfl rfl (by decide +kernel) ⟨Nat.le_of_ble_eq_true rfl, Nat.le_of_ble_eq_true rfl⟩) hK (z_sub_P hP (z_in_1 (k := 5 + (o k)) (eW_w (by omega)))) (ci := 2) (q0 := 0) rfl rfl rfl rfl hl.1 rfl (lv_room (Nat.le_of_ble_eq_true rfl)) dX1_catchEels_30 ⟨Nat.le_of_ble_eq_true rfl, Nat.le_of_ble_eq_true rfl⟩ rfl ?_
        refine lv_if_eq (tgt := 44) hx hb dX1_catchEels_33 (by decide) (fun c4 => ?_) (fun c4 => ?_)
        · have c4 : fishB ((catchP o q k (runI t n)).1) (o k) = false := zb_f c4
          refine lv_iinc (v := nI (k + 1)) (lv' := [(2, .int (nI (k + 1))), (3, .ref (E (5 + (o k)))), (1, .int ((catchP o q k (runI t n)).2)), (0, .ref (E 0))]) hx hb dX1_catchEels_44 hl (k := 1) rfl (nI_1 _) (by decide) rfl (fun ls hl => ?_)
          refine lv_goto (tgt := 7) hx hb dX1_catchEels_47 (by decide) ?_
          have e5 : (catchP o q (k + 1) (runI t n)).2 = (catchP o q k (runI t n)).2 := by simp [catchP_s, catchS, c4]
          have e6 : (catchP o q (k + 1) (runI t n)).1 = (catchP o q k (runI t n)).1 := by simp [catchP_s, catchS, c4]
          refine ihk H locs ls ?_ ?_ hS ?_
          · first | exact hP | (simp only [e5, e6]; exact hP)
          · first | exact hD | (simp only [e5, e6]; exact hD)
          · first | exact lv_sub hl [0, 2, 3] rfl | (simp only [e5, e6]; exact lv_sub hl [0, 2, 3] rfl)
        · have c4 : fishB ((catchP o q k (runI t n)).1) (o k) = true := zb_t c4
          refine lv_iload_n hx hb dX1_catchEels_36 rfl (lv_at hl 2 rfl) ?_
          refine lv_aload_n hx hb dX1_catchEels_37 rfl (lv_at hl 0 rfl) ?_
          refine lv_iload_n hx hb dX1_catchEels_38 rfl (lv_at hl 2 rfl) ?_
          refine zcMV (As := [.int ((catchP o q k (runI t n)).2)]) (rest := [.int ((catchP o q k (runI t n)).2)]) (st1 := [.int ((caughtI ((catchP o q k (runI t n)).1) (o k) ((catchP o q k (runI t n)).2))), .int ((catchP o q k (runI t n)).2)]) (cells1 := 0) (slots1 := 0) ⟨hx, hb, hml, hown, hts⟩ (c_X2_catchOf l D y (E (5 + (o k))) ((catchP o q k (runI t n)).1) (o k) ((catchP o q k (runI t n)).2) _) (cwV 1 hts gX1_catchEels_X2_catchOf rfl rfl rfl (by decide +kernel) ⟨Nat.le_of_ble_eq_true rfl, Nat.le_of_ble_eq_true rfl⟩) hK (z_sub_P hP (z_in_1 (k := 5 + (o k)) (eW_w (by omega)))) z_D_1 (ci := 2) (q0 := 0) rfl rfl rfl rfl hl.1 rfl (lv_room (Nat.le_of_ble_eq_true rfl)) dX1_catchEels_39 hS (z_sub_F hD hS hA (z_in_1 (k := 5 + (o k)) (eW_w (by omega)))) ⟨Nat.le_of_ble_eq_true rfl, Nat.le_of_ble_eq_true rfl⟩ rfl rfl rfl (fun H locs hP1 hz hfr hS => ?_)
          obtain ⟨hP, hD⟩ := z_one hP hD (k := 5 + (o k)) (eW_w (by omega)) (eW_setw (by omega) (fun j i h => catchW_k _ _ _ _ _ h)) hP1 hfr
          have hP : va_P D vwCl (eW E y t o (catchW ((catchP o q k (runI t n)).1) (o k) ((catchP o q k (runI t n)).2)) b c bc n ar fi re) H := hP
          have hD : va_D A (eW E y t o (catchW ((catchP o q k (runI t n)).1) (o k) ((catchP o q k (runI t n)).2)) b c bc n ar fi re) := hD
          refine lv_isub hx hb dX1_catchEels_42 ?_
          refine lv_istore_n (lv' := [(1, .int (((catchP o q k (runI t n)).2 - (caughtI ((catchP o q k (runI t n)).1) (o k) ((catchP o q k (runI t n)).2))))), (3, .ref (E (5 + (o k)))), (2, .int (nI k)), (0, .ref (E 0))]) hx hb dX1_catchEels_43 rfl hl (by decide) rfl (fun ls hl => ?_)
          refine lv_iinc (v := nI (k + 1)) (lv' := [(2, .int (nI (k + 1))), (1, .int (((catchP o q k (runI t n)).2 - (caughtI ((catchP o q k (runI t n)).1) (o k) ((catchP o q k (runI t n)).2))))), (3, .ref (E (5 + (o k)))), (0, .ref (E 0))]) hx hb dX1_catchEels_44 hl (k := 2) rfl (nI_1 _) (by decide) rfl (fun ls hl => ?_)
          refine lv_goto (tgt := 7) hx hb dX1_catchEels_47 (by decide) ?_
          have e7 : (catchP o q (k + 1) (runI t n)).2 = ((catchP o q k (runI t n)).2 - (caughtI ((catchP o q k (runI t n)).1) (o k) ((catchP o q k (runI t n)).2))) := by simp [catchP_s, catchS, c4]
          have e8 : (catchP o q (k + 1) (runI t n)).1 = (catchW ((catchP o q k (runI t n)).1) (o k) ((catchP o q k (runI t n)).2)) := by simp [catchP_s, catchS, c4]
          refine ihk H locs ls ?_ ?_ hS ?_
          · first | exact hP | (simp only [e7, e8]; exact hP)
          · first | exact hD | (simp only [e7, e8]; exact hD)
          · first | exact lv_sub hl [0, 1, 3] rfl | (simp only [e7, e8]; exact lv_sub hl [0, 1, 3] rfl)
  exact loop1 0 (Nat.zero_le _) H locs ls hP hD hS (lv_sub hl [0, 1, 2] rfl)
set_option maxHeartbeats 4000000 in
set_option maxRecDepth 100000 in
theorem c_X1_rotWattle (l : Launch) (D : va_G) (y : Nat → ClassId) (E : Nat → Nat) (t : Nat → Int32) (o : Nat → Nat) (q b : Fld) (c bc n : Nat) (ar fi re : Int32) (hc : c ≤ 6) (hn : n < 2147483648) (sz : Nat) : zM l yX1_rotWattle wsX1_rotWattle { frames := 2, cells := 0, slots := 0, locals := 43 } D y [.ref (E 0)] (eW E y t o q b c bc n ar fi re) sz (none) (eW E y t o (rotE q c n) b c bc n ar fi re) 0 0 := by
  refine zM.ofH (cc := cX1_rotWattle) (maxL := 4) (ret := none) (own := RX1) (by decide) rfl (Nat.le_of_ble_eq_true rfl) rfl ?_
  intro p e s m args below meth cd ls A H locs hx hb hr hml hown hts hlocks hP hK hD hA hS hl hin
  have hS0 := hS
  have hl : lv_has ls 4 [(0, .ref (E 0))] := hl
  have hf39 : (Cond.fieldLink RX1 39 "StakeWeirs$Estuary" "weirCount" "I").before args s = true := hts _ (by decide +kernel)
  have hinX1 : ∀ w ∈ wsX10, w ∈ wsX1_rotWattle := by decide +kernel
  refine lv_aload_n hx hb dX1_rotWattle_0 rfl (lv_at hl 0 rfl) ?_
  refine zcRV (As := []) (rest := []) (st1 := [.int ((moonI n))]) ⟨hx, hb, hml, hown, hts⟩ (c_X1_moon l D y E t o q b c bc n ar fi re  (by omega)) (cwV 0 hts gX1_rotWattle_X1_moon rfl rfl rfl (by decide +kernel) ⟨Nat.le_of_ble_eq_true rfl, Nat.le_of_ble_eq_true rfl⟩) hK hP (ci := 1) (q0 := 0) rfl rfl rfl rfl hl.1 rfl (lv_room (Nat.le_of_ble_eq_true rfl)) dX1_rotWattle_1 ⟨Nat.le_of_ble_eq_true rfl, Nat.le_of_ble_eq_true rfl⟩ rfl ?_
  refine lv_iconst (v := 1) hx hb dX1_rotWattle_4 (by decide) ?_
  refine lv_icmp_ne (tgt := 12) hx hb dX1_rotWattle_5 (by decide) (fun c1 => ?_) (fun c1 => ?_)
  · have d1 := c1
    refine lv_iconst (v := 3) hx hb dX1_rotWattle_12 (by decide) ?_
    refine lv_istore_n (lv' := [(1, .int 3), (0, .ref (E 0))]) hx hb dX1_rotWattle_13 rfl hl (by decide) rfl (fun ls hl => ?_)
    refine lv_iconst (v := 0) hx hb dX1_rotWattle_14 (by decide) ?_
    refine lv_istore_n (lv' := [(2, .int 0), (1, .int 3), (0, .ref (E 0))]) hx hb dX1_rotWattle_15 rfl hl (by decide) rfl (fun ls hl => ?_)
    have loop2 : ∀ k, k ≤ c → ∀ (H : Heap) (locs : List Loc) (ls : Array Slot), va_P D vwCl (eW E y t o (rotE q k n) b c bc n ar fi re) H → va_D A (eW E y t o (rotE q k n) b c bc n ar fi re) → va_S A s.heap H locs → lv_has ls 4 [(2, .int (nI k)), (1, .int 3), (0, .ref (E 0))] → W p l e ({ frames := 2, cells := 0, slots := 0, locals := 43 } : Room) s m args below meth cd H locs 0 0 (MQ below (zMQ (none) D (eW E y t o (rotE q c n) b c bc n ar fi re) A) args s 0 0 A) (F0 m 16 ls []) := by
      refine down ?_ ?_
      · intro H locs ls hP hD hS hl
        refine lv_iload_n hx hb dX1_rotWattle_16 rfl (lv_at hl 0 rfl) ?_
        refine lv_aload_n hx hb dX1_rotWattle_17 rfl (lv_at hl 2 rfl) ?_
        refine va_get (D := D) (ci := 1) (v := .int (nI c)) (C := RX1) (T := TX1) (N := 10) hx hb hts hinX1 hown hK hP (0) rfl rfl 4 (by decide) hf39 (fun _ h9 => h9) rfl dX1_rotWattle_18 ?_
        refine lv_icmp_ge (tgt := 52) hx hb dX1_rotWattle_21 (by decide) (fun c3 => ?_) (fun c3 => ?_)
        · have d3 := Int32.not_lt.mpr c3
          exact zM_v hx hb hr hlocks hS dX1_rotWattle_52 rfl hP
        · exact absurd (nI_le (a := c) (b := c) (by omega) (by omega)) c3
      · intro k hkk ihk H locs ls hP hD hS hl
        refine lv_iload_n hx hb dX1_rotWattle_16 rfl (lv_at hl 0 rfl) ?_
        refine lv_aload_n hx hb dX1_rotWattle_17 rfl (lv_at hl 2 rfl) ?_
        refine va_get (D := D) (ci := 1) (v := .int (nI c)) (C := RX1) (T := TX1) (N := 10) hx hb hts hinX1 hown hK hP (0) rfl rfl 4 (by decide) hf39 (fun _ h9 => h9) rfl dX1_rotWattle_18 ?_
        refine lv_icmp_ge (tgt := 52) hx hb dX1_rotWattle_21 (by decide) (fun c4 => ?_) (fun c4 => ?_)
        · exact absurd c4 (nI_ge (a := k) (b := c) (by omega) (by omega))
        · have d4 := Int32.not_le.mp c4
          refine lv_aload_n hx hb dX1_rotWattle_24 rfl (lv_at hl 2 rfl) ?_
          refine lv_iload_n hx hb dX1_rotWattle_25 rfl (lv_at hl 0 rfl) ?_
          refine zcRV (As := [.int (nI k)]) (rest := []) (st1 := [.ref (E (5 + k))]) ⟨hx, hb, hml, hown, hts⟩ (c_X1_weirAt l D y E t o (rotE q k n) b c bc n ar fi re k (by omega) (by omega)) (cwV 1 hts gX1_rotWattle_X1_weirAt rfl rfl rfl (by decide +kernel) ⟨Nat.le_of_ble_eq_true rfl, Nat.le_of_ble_eq_true rfl⟩) hK hP (ci := 1) (q0 := 0) rfl rfl rfl rfl hl.1 rfl (lv_room (Nat.le_of_ble_eq_true rfl)) dX1_rotWattle_26 ⟨Nat.le_of_ble_eq_true rfl, Nat.le_of_ble_eq_true rfl⟩ rfl ?_
          refine lv_astore_n (lv' := [(3, .ref (E (5 + k))), (2, .int (nI k)), (1, .int 3), (0, .ref (E 0))]) hx hb dX1_rotWattle_29 rfl hl (by decide) rfl (fun ls hl => ?_)
          refine lv_aload_n hx hb dX1_rotWattle_30 rfl (lv_at hl 0 rfl) ?_
          refine lv_ifnull hx hb dX1_rotWattle_31 ?_
          refine lv_aload_n hx hb dX1_rotWattle_34 rfl (lv_at hl 0 rfl) ?_
          refine zcRV (As := []) (rest := []) (st1 := [.int (zb (heldB (rotE q k n) k))]) ⟨hx, hb, hml, hown, hts⟩ (c_X2_isHeld l D y (E (5 + k)) (rotE q k n) k) (cwV 0 hts gX1_rotWattle_X2_isHeld rfl rfl rfl (by decide +kernel) ⟨Nat.le_of_ble_eq_true rfl, Nat.le_of_ble_eq_true rfl⟩) hK (z_sub_P hP (z_in_1 (k := 5 + k) (eW_w (by omega)))) (ci := 2) (q0 := 0) rfl rfl rfl rfl hl.1 rfl (lv_room (Nat.le_of_ble_eq_true rfl)) dX1_rotWattle_35 ⟨Nat.le_of_ble_eq_true rfl, Nat.le_of_ble_eq_true rfl⟩ rfl ?_
          refine lv_if_eq (tgt := 46) hx hb dX1_rotWattle_38 (by decide) (fun c5 => ?_) (fun c5 => ?_)
          · have c5 : heldB (rotE q k n) k = false := zb_f c5
            refine lv_iinc (v := nI (k + 1)) (lv' := [(2, .int (nI (k + 1))), (3, .ref (E (5 + k))), (1, .int 3), (0, .ref (E 0))]) hx hb dX1_rotWattle_46 hl (k := 1) rfl (nI_1 _) (by decide) rfl (fun ls hl => ?_)
            refine lv_goto (tgt := 16) hx hb dX1_rotWattle_49 (by decide) ?_
            have e6 : (rotE q (k + 1) n) = (rotE q k n) := by simp [rotE_s, rotI, c1, d1, c5]
            refine ihk H locs ls ?_ ?_ hS ?_
            · first | exact hP | (simp only [e6]; exact hP)
            · first | exact hD | (simp only [e6]; exact hD)
            · first | exact lv_sub hl [0, 2, 3] rfl | (simp only [e6]; exact lv_sub hl [0, 2, 3] rfl)
          · have c5 : heldB (rotE q k n) k = true := zb_t c5
            refine lv_aload_n hx hb dX1_rotWattle_41 rfl (lv_at hl 0 rfl) ?_
            refine lv_iload_n hx hb dX1_rotWattle_42 rfl (lv_at hl 2 rfl) ?_
            refine zcMV (As := [.int 3]) (rest := []) (st1 := []) (cells1 := 0) (slots1 := 0) ⟨hx, hb, hml, hown, hts⟩ (c_X2_loseWattle l D y (E (5 + k)) (rotE q k n) k 3 _) (cwV 1 hts gX1_rotWattle_X2_loseWattle rfl rfl rfl (by decide +kernel) ⟨Nat.le_of_ble_eq_true rfl, Nat.le_of_ble_eq_true rfl⟩) hK (z_sub_P hP (z_in_1 (k := 5 + k) (eW_w (by omega)))) z_D_1 (ci := 2) (q0 := 0) rfl rfl rfl rfl hl.1 rfl (lv_room (Nat.le_of_ble_eq_true rfl)) dX1_rotWattle_43 hS (z_sub_F hD hS hA (z_in_1 (k := 5 + k) (eW_w (by omega)))) ⟨Nat.le_of_ble_eq_true rfl, Nat.le_of_ble_eq_true rfl⟩ rfl rfl rfl (fun H locs hP1 hz hfr hS => ?_)
            obtain ⟨hP, hD⟩ := z_one hP hD (k := 5 + k) (eW_w (by omega)) (eW_setw (by omega) (fun j i h => loseW_k _ _ _ _ _ h)) hP1 hfr
            have hP : va_P D vwCl (eW E y t o (loseW (rotE q k n) k 3) b c bc n ar fi re) H := hP
            have hD : va_D A (eW E y t o (loseW (rotE q k n) k 3) b c bc n ar fi re) := hD
            refine lv_iinc (v := nI (k + 1)) (lv' := [(2, .int (nI (k + 1))), (3, .ref (E (5 + k))), (1, .int 3), (0, .ref (E 0))]) hx hb dX1_rotWattle_46 hl (k := 1) rfl (nI_1 _) (by decide) rfl (fun ls hl => ?_)
            refine lv_goto (tgt := 16) hx hb dX1_rotWattle_49 (by decide) ?_
            have e7 : (rotE q (k + 1) n) = (loseW (rotE q k n) k 3) := by simp [rotE_s, rotI, c1, d1, c5]
            refine ihk H locs ls ?_ ?_ hS ?_
            · first | exact hP | (simp only [e7]; exact hP)
            · first | exact hD | (simp only [e7]; exact hD)
            · first | exact lv_sub hl [0, 2, 3] rfl | (simp only [e7]; exact lv_sub hl [0, 2, 3] rfl)
    exact loop2 0 (Nat.zero_le _) H locs ls hP hD hS (lv_sub hl [0, 1, 2] rfl)
  · have d1 := c1
    refine lv_iconst (v := 1) hx hb dX1_rotWattle_8 (by decide) ?_
    refine lv_goto (tgt := 13) hx hb dX1_rotWattle_9 (by decide) ?_
    refine lv_istore_n (lv' := [(1, .int 1), (0, .ref (E 0))]) hx hb dX1_rotWattle_13 rfl hl (by decide) rfl (fun ls hl => ?_)
    refine lv_iconst (v := 0) hx hb dX1_rotWattle_14 (by decide) ?_
    refine lv_istore_n (lv' := [(2, .int 0), (1, .int 1), (0, .ref (E 0))]) hx hb dX1_rotWattle_15 rfl hl (by decide) rfl (fun ls hl => ?_)
    have loop8 : ∀ k, k ≤ c → ∀ (H : Heap) (locs : List Loc) (ls : Array Slot), va_P D vwCl (eW E y t o (rotE q k n) b c bc n ar fi re) H → va_D A (eW E y t o (rotE q k n) b c bc n ar fi re) → va_S A s.heap H locs → lv_has ls 4 [(2, .int (nI k)), (1, .int 1), (0, .ref (E 0))] → W p l e ({ frames := 2, cells := 0, slots := 0, locals := 43 } : Room) s m args below meth cd H locs 0 0 (MQ below (zMQ (none) D (eW E y t o (rotE q c n) b c bc n ar fi re) A) args s 0 0 A) (F0 m 16 ls []) := by
      refine down ?_ ?_
      · intro H locs ls hP hD hS hl
        refine lv_iload_n hx hb dX1_rotWattle_16 rfl (lv_at hl 0 rfl) ?_
        refine lv_aload_n hx hb dX1_rotWattle_17 rfl (lv_at hl 2 rfl) ?_
        refine va_get (D := D) (ci := 1) (v := .int (nI c)) (C := RX1) (T := TX1) (N := 10) hx hb hts hinX1 hown hK hP (0) rfl rfl 4 (by decide) hf39 (fun _ h9 => h9) rfl dX1_rotWattle_18 ?_
        refine lv_icmp_ge (tgt := 52) hx hb dX1_rotWattle_21 (by decide) (fun c9 => ?_) (fun c9 => ?_)
        · have d9 := Int32.not_lt.mpr c9
          exact zM_v hx hb hr hlocks hS dX1_rotWattle_52 rfl hP
        · exact absurd (nI_le (a := c) (b := c) (by omega) (by omega)) c9
      · intro k hkk ihk H locs ls hP hD hS hl
        refine lv_iload_n hx hb dX1_rotWattle_16 rfl (lv_at hl 0 rfl) ?_
        refine lv_aload_n hx hb dX1_rotWattle_17 rfl (lv_at hl 2 rfl) ?_
        refine va_get (D := D) (ci := 1) (v := .int (nI c)) (C := RX1) (T := TX1) (N := 10) hx hb hts hinX1 hown hK hP (0) rfl rfl 4 (by decide) hf39 (fun _ h9 => h9) rfl dX1_rotWattle_18 ?_
        refine lv_icmp_ge (tgt := 52) hx hb dX1_rotWattle_21 (by decide) (fun c10 => ?_) (fun c10 => ?_)
        · exact absurd c10 (nI_ge (a := k) (b := c) (by omega) (by omega))
        · have d10 := Int32.not_le.mp c10
          refine lv_aload_n hx hb dX1_rotWattle_24 rfl (lv_at hl 2 rfl) ?_
          refine lv_iload_n hx hb dX1_rotWattle_25 rfl (lv_at hl 0 rfl) ?_
          refine zcRV (As := [.int (nI k)]) (rest := []) (st1 := [.ref (E (5 + k))]) ⟨hx, hb, hml, hown, hts⟩ (c_X1_weirAt l D y E t o (rotE q k n) b c bc n ar fi re k (by omega) (by omega)) (cwV 1 hts gX1_rotWattle_X1_weirAt rfl rfl rfl (by decide +kernel) ⟨Nat.le_of_ble_eq_true rfl, Nat.le_of_ble_eq_true rfl⟩) hK hP (ci := 1) (q0 := 0) rfl rfl rfl rfl hl.1 rfl (lv_room (Nat.le_of_ble_eq_true rfl)) dX1_rotWattle_26 ⟨Nat.le_of_ble_eq_true rfl, Nat.le_of_ble_eq_true rfl⟩ rfl ?_
          refine lv_astore_n (lv' := [(3, .ref (E (5 + k))), (2, .int (nI k)), (1, .int 1), (0, .ref (E 0))]) hx hb dX1_rotWattle_29 rfl hl (by decide) rfl (fun ls hl => ?_)
          refine lv_aload_n hx hb dX1_rotWattle_30 rfl (lv_at hl 0 rfl) ?_
          refine lv_ifnull hx hb dX1_rotWattle_31 ?_
          refine lv_aload_n hx hb dX1_rotWattle_34 rfl (lv_at hl 0 rfl) ?_
          refine zcRV (As := []) (rest := []) (st1 := [.int (zb (heldB (rotE q k n) k))]) ⟨hx, hb, hml, hown, hts⟩ (c_X2_isHeld l D y (E (5 + k)) (rotE q k n) k) (cwV 0 hts gX1_rotWattle_X2_isHeld rfl rfl rfl (by decide +kernel) ⟨Nat.le_of_ble_eq_true rfl, Nat.le_of_ble_eq_true rfl⟩) hK (z_sub_P hP (z_in_1 (k := 5 + k) (eW_w (by omega)))) (ci := 2) (q0 := 0) rfl rfl rfl rfl hl.1 rfl (lv_room (Nat.le_of_ble_eq_true rfl)) dX1_rotWattle_35 ⟨Nat.le_of_ble_eq_true rfl, Nat.le_of_ble_eq_true rfl⟩ rfl ?_
          refine lv_if_eq (tgt := 46) hx hb dX1_rotWattle_38 (by decide) (fun c11 => ?_) (fun c11 => ?_)
          · have c11 : heldB (rotE q k n) k = false := zb_f c11
            refine lv_iinc (v := nI (k + 1)) (lv' := [(2, .int (nI (k + 1))), (3, .ref (E (5 + k))), (1, .int 1), (0, .ref (E 0))]) hx hb dX1_rotWattle_46 hl (k := 1) rfl (nI_1 _) (by decide) rfl (fun ls hl => ?_)
            refine lv_goto (tgt := 16) hx hb dX1_rotWattle_49 (by decide) ?_
            have e12 : (rotE q (k + 1) n) = (rotE q k n) := by simp [rotE_s, rotI, c1, d1, c11]
            refine ihk H locs ls ?_ ?_ hS ?_
            · first | exact hP | (simp only [e12]; exact hP)
            · first | exact hD | (simp only [e12]; exact hD)
            · first | exact lv_sub hl [0, 2, 3] rfl | (simp only [e12]; exact lv_sub hl [0, 2, 3] rfl)
          · have c11 : heldB (rotE q k n) k = true := zb_t c11
            refine lv_aload_n hx hb dX1_rotWattle_41 rfl (lv_at hl 0 rfl) ?_
            refine lv_iload_n hx hb dX1_rotWattle_42 rfl (lv_at hl 2 rfl) ?_
            refine zcMV (As := [.int 1]) (rest := []) (st1 := []) (cells1 := 0) (slots1 := 0) ⟨hx, hb, hml, hown, hts⟩ (c_X2_loseWattle l D y (E (5 + k)) (rotE q k n) k 1 _) (cwV 1 hts gX1_rotWattle_X2_loseWattle rfl rfl rfl (by decide +kernel) ⟨Nat.le_of_ble_eq_true rfl, Nat.le_of_ble_eq_true rfl⟩) hK (z_sub_P hP (z_in_1 (k := 5 + k) (eW_w (by omega)))) z_D_1 (ci := 2) (q0 := 0) rfl rfl rfl rfl hl.1 rfl (lv_room (Nat.le_of_ble_eq_true rfl)) dX1_rotWattle_43 hS (z_sub_F hD hS hA (z_in_1 (k := 5 + k) (eW_w (by omega)))) ⟨Nat.le_of_ble_eq_true rfl, Nat.le_of_ble_eq_true rfl⟩ rfl rfl rfl (fun H locs hP1 hz hfr hS => ?_)
            obtain ⟨hP, hD⟩ := z_one hP hD (k := 5 + k) (eW_w (by omega)) (eW_setw (by omega) (fun j i h => loseW_k _ _ _ _ _ h)) hP1 hfr
            have hP : va_P D vwCl (eW E y t o (loseW (rotE q k n) k 1) b c bc n ar fi re) H := hP
            have hD : va_D A (eW E y t o (loseW (rotE q k n) k 1) b c bc n ar fi re) := hD
            refine lv_iinc (v := nI (k + 1)) (lv' := [(2, .int (nI (k + 1))), (3, .ref (E (5 + k))), (1, .int 1), (0, .ref (E 0))]) hx hb dX1_rotWattle_46 hl (k := 1) rfl (nI_1 _) (by decide) rfl (fun ls hl => ?_)
            refine lv_goto (tgt := 16) hx hb dX1_rotWattle_49 (by decide) ?_
            have e13 : (rotE q (k + 1) n) = (loseW (rotE q k n) k 1) := by simp [rotE_s, rotI, c1, d1, c11]
            refine ihk H locs ls ?_ ?_ hS ?_
            · first | exact hP | (simp only [e13]; exact hP)
            · first | exact hD | (simp only [e13]; exact hD)
            · first | exact lv_sub hl [0, 2, 3] rfl | (simp only [e13]; exact lv_sub hl [0, 2, 3] rfl)
    exact loop8 0 (Nat.zero_le _) H locs ls hP hD hS (lv_sub hl [0, 1, 2] rfl)
set_option maxHeartbeats 4000000 in
set_option maxRecDepth 100000 in
theorem c_X1_collectRents (l : Launch) (D : va_G) (y : Nat → ClassId) (E : Nat → Nat) (t : Nat → Int32) (o : Nat → Nat) (q b : Fld) (c bc n : Nat) (ar fi re : Int32) (hc : c ≤ 6) (sz : Nat) : zM l yX1_collectRents wsX1_collectRents { frames := 1, cells := 0, slots := 0, locals := 22 } D y [.ref (E 0)] (eW E y t o q b c bc n ar fi re) sz (none) (eW E y t o ((rentE q c re).1) b c bc n ar fi ((rentE q c re).2)) 0 0 := by
  refine zM.ofH (cc := cX1_collectRents) (maxL := 3) (ret := none) (own := RX1) (by decide) rfl (Nat.le_of_ble_eq_true rfl) rfl ?_
  intro p e s m args below meth cd ls A H locs hx hb hr hml hown hts hlocks hP hK hD hA hS hl hin
  have hS0 := hS
  have hl : lv_has ls 3 [(0, .ref (E 0))] := hl
  have hf39 : (Cond.fieldLink RX1 39 "StakeWeirs$Estuary" "weirCount" "I").before args s = true := hts _ (by decide +kernel)
  have hinX1 : ∀ w ∈ wsX10, w ∈ wsX1_collectRents := by decide +kernel
  have hf71 : (Cond.fieldLink RX1 71 "StakeWeirs$Estuary" "rents" "I").before args s = true := hts _ (by decide +kernel)
  refine lv_iconst (v := 0) hx hb dX1_collectRents_0 (by decide) ?_
  refine lv_istore_n (lv' := [(1, .int 0), (0, .ref (E 0))]) hx hb dX1_collectRents_1 rfl hl (by decide) rfl (fun ls hl => ?_)
  have loop1 : ∀ k, k ≤ c → ∀ (H : Heap) (locs : List Loc) (ls : Array Slot), va_P D vwCl (eW E y t o ((rentE q k re).1) b c bc n ar fi ((rentE q k re).2)) H → va_D A (eW E y t o ((rentE q k re).1) b c bc n ar fi ((rentE q k re).2)) → va_S A s.heap H locs → lv_has ls 3 [(1, .int (nI k)), (0, .ref (E 0))] → W p l e ({ frames := 1, cells := 0, slots := 0, locals := 22 } : Room) s m args below meth cd H locs 0 0 (MQ below (zMQ (none) D (eW E y t o ((rentE q c re).1) b c bc n ar fi ((rentE q c re).2)) A) args s 0 0 A) (F0 m 2 ls []) := by
    refine down ?_ ?_
    · intro H locs ls hP hD hS hl
      refine lv_iload_n hx hb dX1_collectRents_2 rfl (lv_at hl 0 rfl) ?_
      refine lv_aload_n hx hb dX1_collectRents_3 rfl (lv_at hl 1 rfl) ?_
      refine va_get (D := D) (ci := 1) (v := .int (nI c)) (C := RX1) (T := TX1) (N := 10) hx hb hts hinX1 hown hK hP (0) rfl rfl 4 (by decide) hf39 (fun _ h9 => h9) rfl dX1_collectRents_4 ?_
      refine lv_icmp_ge (tgt := 46) hx hb dX1_collectRents_7 (by decide) (fun c2 => ?_) (fun c2 => ?_)
      · have d2 := Int32.not_lt.mpr c2
        exact zM_v hx hb hr hlocks hS dX1_collectRents_46 rfl hP
      · exact absurd (nI_le (a := c) (b := c) (by omega) (by omega)) c2
    · intro k hkk ihk H locs ls hP hD hS hl
      refine lv_iload_n hx hb dX1_collectRents_2 rfl (lv_at hl 0 rfl) ?_
      refine lv_aload_n hx hb dX1_collectRents_3 rfl (lv_at hl 1 rfl) ?_
      refine va_get (D := D) (ci := 1) (v := .int (nI c)) (C := RX1) (T := TX1) (N := 10) hx hb hts hinX1 hown hK hP (0) rfl rfl 4 (by decide) hf39 (fun _ h9 => h9) rfl dX1_collectRents_4 ?_
      refine lv_icmp_ge (tgt := 46) hx hb dX1_collectRents_7 (by decide) (fun c3 => ?_) (fun c3 => ?_)
      · exact absurd c3 (nI_ge (a := k) (b := c) (by omega) (by omega))
      · have d3 := Int32.not_le.mp c3
        refine lv_aload_n hx hb dX1_collectRents_10 rfl (lv_at hl 1 rfl) ?_
        refine lv_iload_n hx hb dX1_collectRents_11 rfl (lv_at hl 0 rfl) ?_
        refine zcRV (As := [.int (nI k)]) (rest := []) (st1 := [.ref (E (5 + k))]) ⟨hx, hb, hml, hown, hts⟩ (c_X1_weirAt l D y E t o ((rentE q k re).1) b c bc n ar fi ((rentE q k re).2) k (by omega) (by omega)) (cwV 1 hts gX1_collectRents_X1_weirAt rfl rfl rfl (by decide +kernel) ⟨Nat.le_of_ble_eq_true rfl, Nat.le_of_ble_eq_true rfl⟩) hK hP (ci := 1) (q0 := 0) rfl rfl rfl rfl hl.1 rfl (lv_room (Nat.le_of_ble_eq_true rfl)) dX1_collectRents_12 ⟨Nat.le_of_ble_eq_true rfl, Nat.le_of_ble_eq_true rfl⟩ rfl ?_
        refine lv_astore_n (lv' := [(2, .ref (E (5 + k))), (1, .int (nI k)), (0, .ref (E 0))]) hx hb dX1_collectRents_15 rfl hl (by decide) rfl (fun ls hl => ?_)
        refine lv_aload_n hx hb dX1_collectRents_16 rfl (lv_at hl 0 rfl) ?_
        refine lv_ifnull hx hb dX1_collectRents_17 ?_
        refine lv_aload_n hx hb dX1_collectRents_20 rfl (lv_at hl 0 rfl) ?_
        refine zcRV (As := []) (rest := []) (st1 := [.int (zb (heldB ((rentE q k re).1) k))]) ⟨hx, hb, hml, hown, hts⟩ (c_X2_isHeld l D y (E (5 + k)) ((rentE q k re).1) k) (cwV 0 hts gX1_collectRents_X2_isHeld rfl rfl rfl (by decide +kernel) ⟨Nat.le_of_ble_eq_true rfl, Nat.le_of_ble_eq_true rfl⟩) hK (z_sub_P hP (z_in_1 (k := 5 + k) (eW_w (by omega)))) (ci := 2) (q0 := 0) rfl rfl rfl rfl hl.1 rfl (lv_room (Nat.le_of_ble_eq_true rfl)) dX1_collectRents_21 ⟨Nat.le_of_ble_eq_true rfl, Nat.le_of_ble_eq_true rfl⟩ rfl ?_
        refine lv_if_eq (tgt := 40) hx hb dX1_collectRents_24 (by decide) (fun c4 => ?_) (fun c4 => ?_)
        · have c4 : heldB ((rentE q k re).1) k = false := zb_f c4
          refine lv_iinc (v := nI (k + 1)) (lv' := [(1, .int (nI (k + 1))), (2, .ref (E (5 + k))), (0, .ref (E 0))]) hx hb dX1_collectRents_40 hl (k := 1) rfl (nI_1 _) (by decide) rfl (fun ls hl => ?_)
          refine lv_goto (tgt := 2) hx hb dX1_collectRents_43 (by decide) ?_
          have e5 : (rentE q (k + 1) re).1 = (rentE q k re).1 := by simp [rentE_s, rentS, c4]
          have e6 : (rentE q (k + 1) re).2 = (rentE q k re).2 := by simp [rentE_s, rentS, c4]
          refine ihk H locs ls ?_ ?_ hS ?_
          · first | exact hP | (simp only [e5, e6]; exact hP)
          · first | exact hD | (simp only [e5, e6]; exact hD)
          · first | exact lv_sub hl [0, 2] rfl | (simp only [e5, e6]; exact lv_sub hl [0, 2] rfl)
        · have c4 : heldB ((rentE q k re).1) k = true := zb_t c4
          refine lv_aload_n hx hb dX1_collectRents_27 rfl (lv_at hl 2 rfl) ?_
          refine lv_dup hx hb dX1_collectRents_28 rfl ?_
          refine va_get (D := D) (ci := 1) (v := .int ((rentE q k re).2)) (C := RX1) (T := TX1) (N := 10) hx hb hts hinX1 hown hK hP (0) rfl rfl 9 (by decide) hf71 (fun _ h9 => h9) rfl dX1_collectRents_29 ?_
          refine lv_aload_n hx hb dX1_collectRents_32 rfl (lv_at hl 0 rfl) ?_
          refine zcMV (As := []) (rest := [.int ((rentE q k re).2), .ref (E 0)]) (st1 := [.int ((paidI ((rentE q k re).1) k)), .int ((rentE q k re).2), .ref (E 0)]) (cells1 := 0) (slots1 := 0) ⟨hx, hb, hml, hown, hts⟩ (c_X2_payRent l D y (E (5 + k)) ((rentE q k re).1) k _) (cwV 0 hts gX1_collectRents_X2_payRent rfl rfl rfl (by decide +kernel) ⟨Nat.le_of_ble_eq_true rfl, Nat.le_of_ble_eq_true rfl⟩) hK (z_sub_P hP (z_in_1 (k := 5 + k) (eW_w (by omega)))) z_D_1 (ci := 2) (q0 := 0) rfl rfl rfl rfl hl.1 rfl (lv_room (Nat.le_of_ble_eq_true rfl)) dX1_collectRents_33 hS (z_sub_F hD hS hA (z_in_1 (k := 5 + k) (eW_w (by omega)))) ⟨Nat.le_of_ble_eq_true rfl, Nat.le_of_ble_eq_true rfl⟩ rfl rfl rfl (fun H locs hP1 hz hfr hS => ?_)
          obtain ⟨hP, hD⟩ := z_one hP hD (k := 5 + k) (eW_w (by omega)) (eW_setw (by omega) (fun j i h => payW_k _ _ _ _ h)) hP1 hfr
          have hP : va_P D vwCl (eW E y t o (payW ((rentE q k re).1) k) b c bc n ar fi ((rentE q k re).2)) H := hP
          have hD : va_D A (eW E y t o (payW ((rentE q k re).1) k) b c bc n ar fi ((rentE q k re).2)) := hD
          refine lv_iadd hx hb dX1_collectRents_36 ?_
          refine va_put (D := D) (ci := 1) (v := .int (((rentE q k re).2 + (paidI ((rentE q k re).1) k)))) (ty := .int) (C := RX1) (T := TX1) (N := 10) hx hb hts hinX1 tyX1 tyX1_ok nmX1 hown hK hP hD hS (0) rfl rfl 9 (by decide) hf71 (fun _ h9 => h9) rfl (by decide +kernel) rfl rfl (Nat.le_of_ble_eq_true rfl) dX1_collectRents_37 (fun H locs hP hD hS => ?_)
          have hP : va_P D vwCl (eW E y t o (payW ((rentE q k re).1) k) b c bc n ar fi ((rentE q k re).2 + (paidI ((rentE q k re).1) k))) H := hP
          have hD : va_D A (eW E y t o (payW ((rentE q k re).1) k) b c bc n ar fi ((rentE q k re).2 + (paidI ((rentE q k re).1) k))) := hD
          refine lv_iinc (v := nI (k + 1)) (lv' := [(1, .int (nI (k + 1))), (2, .ref (E (5 + k))), (0, .ref (E 0))]) hx hb dX1_collectRents_40 hl (k := 1) rfl (nI_1 _) (by decide) rfl (fun ls hl => ?_)
          refine lv_goto (tgt := 2) hx hb dX1_collectRents_43 (by decide) ?_
          have e7 : (rentE q (k + 1) re).1 = (payW ((rentE q k re).1) k) := by simp [rentE_s, rentS, c4]
          have e8 : (rentE q (k + 1) re).2 = ((rentE q k re).2 + (paidI ((rentE q k re).1) k)) := by simp [rentE_s, rentS, c4]
          refine ihk H locs ls ?_ ?_ hS ?_
          · first | exact hP | (simp only [e7, e8]; exact hP)
          · first | exact hD | (simp only [e7, e8]; exact hD)
          · first | exact lv_sub hl [0, 2] rfl | (simp only [e7, e8]; exact lv_sub hl [0, 2] rfl)
  exact loop1 0 (Nat.zero_le _) H locs ls hP hD hS (lv_sub hl [0, 1] rfl)
set_option maxHeartbeats 4000000 in
set_option maxRecDepth 100000 in
theorem c_X1_breakThrough (l : Launch) (D : va_G) (y : Nat → ClassId) (E : Nat → Nat) (t : Nat → Int32) (o : Nat → Nat) (q b : Fld) (c bc n : Nat) (ar fi re : Int32) (j : Nat) (hj : j < 5) (hc : c ≤ 6) (sz : Nat) : zM l yX1_breakThrough wsX1_breakThrough { frames := 2, cells := 0, slots := 0, locals := 43 } D y [.ref (E 0), .ref (E (11 + j))] (eW E y t o q b c bc n ar fi re) sz (none) (eW E y t o ((brkE q c (b 2 j) (b 1 j) fi (b 3 j)).1) (up2 b 3 j (brkE q c (b 2 j) (b 1 j) fi (b 3 j)).2.2) c bc n ar ((brkE q c (b 2 j) (b 1 j) fi (b 3 j)).2.1) re) 0 0 := by
  refine zM.ofH (cc := cX1_breakThrough) (maxL := 4) (ret := none) (own := RX1) (by decide) rfl (Nat.le_of_ble_eq_true rfl) rfl ?_
  intro p e s m args below meth cd ls A H locs hx hb hr hml hown hts hlocks hP hK hD hA hS hl hin
  have hS0 := hS
  have hl : lv_has ls 4 [(0, .ref (E 0)), (1, .ref (E (11 + j)))] := hl
  have hf39 : (Cond.fieldLink RX1 39 "StakeWeirs$Estuary" "weirCount" "I").before args s = true := hts _ (by decide +kernel)
  have hinX1 : ∀ w ∈ wsX10, w ∈ wsX1_breakThrough := by decide +kernel
  have hf93 : (Cond.fieldLink RX1 93 "StakeWeirs$Weir" "place" "I").before args s = true := hts _ (by decide +kernel)
  have hinX2 : ∀ w ∈ wsX20, w ∈ wsX1_breakThrough := by decide +kernel
  have hf123 : (Cond.fieldLink RX1 123 "StakeWeirs$Barge" "place" "I").before args s = true := hts _ (by decide +kernel)
  have hinX0 : ∀ w ∈ wsX00, w ∈ wsX1_breakThrough := by decide +kernel
  have hf120 : (Cond.fieldLink RX1 120 "StakeWeirs$Barge" "wide" "I").before args s = true := hts _ (by decide +kernel)
  have hf68 : (Cond.fieldLink RX1 68 "StakeWeirs$Estuary" "fines" "I").before args s = true := hts _ (by decide +kernel)
  have hf124 : (Cond.fieldLink RX1 124 "StakeWeirs$Barge" "broken" "I").before args s = true := hts _ (by decide +kernel)
  refine lv_iconst (v := 0) hx hb dX1_breakThrough_0 (by decide) ?_
  refine lv_istore_n (lv' := [(2, .int 0), (0, .ref (E 0)), (1, .ref (E (11 + j)))]) hx hb dX1_breakThrough_1 rfl hl (by decide) rfl (fun ls hl => ?_)
  have hP : va_P D vwCl (eW E y t o q (up2 b 3 j (b 3 j)) c bc n ar fi re) H := by rw [up2_id]; exact hP
  have hD : va_D A (eW E y t o q (up2 b 3 j (b 3 j)) c bc n ar fi re) := by rw [up2_id]; exact hD
  have loop1 : ∀ k, k ≤ c → ∀ (H : Heap) (locs : List Loc) (ls : Array Slot), va_P D vwCl (eW E y t o ((brkE q k (b 2 j) (b 1 j) fi (b 3 j)).1) (up2 b 3 j (brkE q k (b 2 j) (b 1 j) fi (b 3 j)).2.2) c bc n ar ((brkE q k (b 2 j) (b 1 j) fi (b 3 j)).2.1) re) H → va_D A (eW E y t o ((brkE q k (b 2 j) (b 1 j) fi (b 3 j)).1) (up2 b 3 j (brkE q k (b 2 j) (b 1 j) fi (b 3 j)).2.2) c bc n ar ((brkE q k (b 2 j) (b 1 j) fi (b 3 j)).2.1) re) → va_S A s.heap H locs → lv_has ls 4 [(2, .int (nI k)), (0, .ref (E 0)), (1, .ref (E (11 + j)))] → W p l e ({ frames := 2, cells := 0, slots := 0, locals := 43 } : Room) s m args below meth cd H locs 0 0 (MQ below (zMQ (none) D (eW E y t o ((brkE q c (b 2 j) (b 1 j) fi (b 3 j)).1) (up2 b 3 j (brkE q c (b 2 j) (b 1 j) fi (b 3 j)).2.2) c bc n ar ((brkE q c (b 2 j) (b 1 j) fi (b 3 j)).2.1) re) A) args s 0 0 A) (F0 m 2 ls []) := by
    refine down ?_ ?_
    · intro H locs ls hP hD hS hl
      refine lv_iload_n hx hb dX1_breakThrough_2 rfl (lv_at hl 0 rfl) ?_
      refine lv_aload_n hx hb dX1_breakThrough_3 rfl (lv_at hl 1 rfl) ?_
      refine va_get (D := D) (ci := 1) (v := .int (nI c)) (C := RX1) (T := TX1) (N := 10) hx hb hts hinX1 hown hK hP (0) rfl rfl 4 (by decide) hf39 (fun _ h9 => h9) rfl dX1_breakThrough_4 ?_
      refine lv_icmp_ge (tgt := 75) hx hb dX1_breakThrough_7 (by decide) (fun c2 => ?_) (fun c2 => ?_)
      · have d2 := Int32.not_lt.mpr c2
        exact zM_v hx hb hr hlocks hS dX1_breakThrough_75 rfl hP
      · exact absurd (nI_le (a := c) (b := c) (by omega) (by omega)) c2
    · intro k hkk ihk H locs ls hP hD hS hl
      refine lv_iload_n hx hb dX1_breakThrough_2 rfl (lv_at hl 0 rfl) ?_
      refine lv_aload_n hx hb dX1_breakThrough_3 rfl (lv_at hl 1 rfl) ?_
      refine va_get (D := D) (ci := 1) (v := .int (nI c)) (C := RX1) (T := TX1) (N := 10) hx hb hts hinX1 hown hK hP (0) rfl rfl 4 (by decide) hf39 (fun _ h9 => h9) rfl dX1_breakThrough_4 ?_
      refine lv_icmp_ge (tgt := 75) hx hb dX1_breakThrough_7 (by decide) (fun c3 => ?_) (fun c3 => ?_)
      · exact absurd c3 (nI_ge (a := k) (b := c) (by omega) (by omega))
      · have d3 := Int32.not_le.mp c3
        refine lv_aload_n hx hb dX1_breakThrough_10 rfl (lv_at hl 1 rfl) ?_
        refine lv_iload_n hx hb dX1_breakThrough_11 rfl (lv_at hl 0 rfl) ?_
        refine zcRV (As := [.int (nI k)]) (rest := []) (st1 := [.ref (E (5 + k))]) ⟨hx, hb, hml, hown, hts⟩ (c_X1_weirAt l D y E t o ((brkE q k (b 2 j) (b 1 j) fi (b 3 j)).1) (up2 b 3 j (brkE q k (b 2 j) (b 1 j) fi (b 3 j)).2.2) c bc n ar ((brkE q k (b 2 j) (b 1 j) fi (b 3 j)).2.1) re k (by omega) (by omega)) (cwV 1 hts gX1_breakThrough_X1_weirAt rfl rfl rfl (by decide +kernel) ⟨Nat.le_of_ble_eq_true rfl, Nat.le_of_ble_eq_true rfl⟩) hK hP (ci := 1) (q0 := 0) rfl rfl rfl rfl hl.1 rfl (lv_room (Nat.le_of_ble_eq_true rfl)) dX1_breakThrough_12 ⟨Nat.le_of_ble_eq_true rfl, Nat.le_of_ble_eq_true rfl⟩ rfl ?_
        refine lv_astore_n (lv' := [(3, .ref (E (5 + k))), (2, .int (nI k)), (0, .ref (E 0)), (1, .ref (E (11 + j)))]) hx hb dX1_breakThrough_15 rfl hl (by decide) rfl (fun ls hl => ?_)
        refine lv_aload_n hx hb dX1_breakThrough_16 rfl (lv_at hl 0 rfl) ?_
        refine lv_ifnull hx hb dX1_breakThrough_17 ?_
        refine lv_aload_n hx hb dX1_breakThrough_20 rfl (lv_at hl 0 rfl) ?_
        refine va_get (D := D) (ci := 2) (v := .int ((((brkE q k (b 2 j) (b 1 j) fi (b 3 j)).1) 0 k))) (C := RX2) (T := TX2) (N := 8) hx hb hts hinX2 hown hK hP (5 + k) (eW_w (by omega)) rfl 0 (by decide) hf93 (fun _ h9 => h9) rfl dX1_breakThrough_21 ?_
        refine lv_aload_n hx hb dX1_breakThrough_24 rfl (lv_at hl 3 rfl) ?_
        refine va_get (D := D) (ci := 0) (v := .int ((b 2 j))) (C := RX0) (T := TX0) (N := 4) hx hb hts hinX0 hown hK hP (11 + j) (eW_b (by omega)) rfl 2 (by decide) hf123 (fun _ h9 => h9) rfl dX1_breakThrough_25 ?_
        refine lv_icmp_ne (tgt := 69) hx hb dX1_breakThrough_28 (by decide) (fun c4 => ?_) (fun c4 => ?_)
        · have d4 := c4
          refine lv_iinc (v := nI (k + 1)) (lv' := [(2, .int (nI (k + 1))), (3, .ref (E (5 + k))), (0, .ref (E 0)), (1, .ref (E (11 + j)))]) hx hb dX1_breakThrough_69 hl (k := 1) rfl (nI_1 _) (by decide) rfl (fun ls hl => ?_)
          refine lv_goto (tgt := 2) hx hb dX1_breakThrough_72 (by decide) ?_
          have e5 : (brkE q (k + 1) (b 2 j) (b 1 j) fi (b 3 j)).1 = (brkE q k (b 2 j) (b 1 j) fi (b 3 j)).1 := by simp [brkE_s, brkS, c4, d4]
          have e6 : (brkE q (k + 1) (b 2 j) (b 1 j) fi (b 3 j)).2.1 = (brkE q k (b 2 j) (b 1 j) fi (b 3 j)).2.1 := by simp [brkE_s, brkS, c4, d4]
          have e7 : (up2 b 3 j (brkE q (k + 1) (b 2 j) (b 1 j) fi (b 3 j)).2.2) = (up2 b 3 j (brkE q k (b 2 j) (b 1 j) fi (b 3 j)).2.2) := by simp [brkE_s, brkS, c4, d4]
          refine ihk H locs ls ?_ ?_ hS ?_
          · first | exact hP | (simp only [e5, e6, e7]; exact hP)
          · first | exact hD | (simp only [e5, e6, e7]; exact hD)
          · first | exact lv_sub hl [0, 2, 3] rfl | (simp only [e5, e6, e7]; exact lv_sub hl [0, 2, 3] rfl)
        · have d4 := c4
          refine lv_aload_n hx hb dX1_breakThrough_31 rfl (lv_at hl 0 rfl) ?_
          refine lv_aload_n hx hb dX1_breakThrough_32 rfl (lv_at hl 3 rfl) ?_
          refine va_get (D := D) (ci := 0) (v := .int ((b 1 j))) (C := RX0) (T := TX0) (N := 4) hx hb hts hinX0 hown hK hP (11 + j) (eW_b (by omega)) rfl 1 (by decide) hf120 (fun _ h9 => h9) rfl dX1_breakThrough_33 ?_
          refine zcRV (As := [.int ((b 1 j))]) (rest := []) (st1 := [.int (zb (wayB ((brkE q k (b 2 j) (b 1 j) fi (b 3 j)).1) k (b 1 j)))]) ⟨hx, hb, hml, hown, hts⟩ (c_X2_isInWay l D y (E (5 + k)) ((brkE q k (b 2 j) (b 1 j) fi (b 3 j)).1) k (b 1 j)) (cwV 1 hts gX1_breakThrough_X2_isInWay rfl rfl rfl (by decide +kernel) ⟨Nat.le_of_ble_eq_true rfl, Nat.le_of_ble_eq_true rfl⟩) hK (z_sub_P hP (z_in_1 (k := 5 + k) (eW_w (by omega)))) (ci := 2) (q0 := 0) rfl rfl rfl rfl hl.1 rfl (lv_room (Nat.le_of_ble_eq_true rfl)) dX1_breakThrough_36 ⟨Nat.le_of_ble_eq_true rfl, Nat.le_of_ble_eq_true rfl⟩ rfl ?_
          refine lv_if_eq (tgt := 69) hx hb dX1_breakThrough_39 (by decide) (fun c8 => ?_) (fun c8 => ?_)
          · have c8 : wayB ((brkE q k (b 2 j) (b 1 j) fi (b 3 j)).1) k (b 1 j) = false := zb_f c8
            refine lv_iinc (v := nI (k + 1)) (lv' := [(2, .int (nI (k + 1))), (3, .ref (E (5 + k))), (0, .ref (E 0)), (1, .ref (E (11 + j)))]) hx hb dX1_breakThrough_69 hl (k := 1) rfl (nI_1 _) (by decide) rfl (fun ls hl => ?_)
            refine lv_goto (tgt := 2) hx hb dX1_breakThrough_72 (by decide) ?_
            have e9 : (brkE q (k + 1) (b 2 j) (b 1 j) fi (b 3 j)).1 = (brkE q k (b 2 j) (b 1 j) fi (b 3 j)).1 := by simp [brkE_s, brkS, c4, d4, c8]
            have e10 : (brkE q (k + 1) (b 2 j) (b 1 j) fi (b 3 j)).2.1 = (brkE q k (b 2 j) (b 1 j) fi (b 3 j)).2.1 := by simp [brkE_s, brkS, c4, d4, c8]
            have e11 : (up2 b 3 j (brkE q (k + 1) (b 2 j) (b 1 j) fi (b 3 j)).2.2) = (up2 b 3 j (brkE q k (b 2 j) (b 1 j) fi (b 3 j)).2.2) := by simp [brkE_s, brkS, c4, d4, c8]
            refine ihk H locs ls ?_ ?_ hS ?_
            · first | exact hP | (simp only [e9, e10, e11]; exact hP)
            · first | exact hD | (simp only [e9, e10, e11]; exact hD)
            · first | exact lv_sub hl [0, 2, 3] rfl | (simp only [e9, e10, e11]; exact lv_sub hl [0, 2, 3] rfl)
          · have c8 : wayB ((brkE q k (b 2 j) (b 1 j) fi (b 3 j)).1) k (b 1 j) = true := zb_t c8
            refine lv_aload_n hx hb dX1_breakThrough_42 rfl (lv_at hl 2 rfl) ?_
            refine lv_dup hx hb dX1_breakThrough_43 rfl ?_
            refine va_get (D := D) (ci := 1) (v := .int ((brkE q k (b 2 j) (b 1 j) fi (b 3 j)).2.1)) (C := RX1) (T := TX1) (N := 10) hx hb hts hinX1 hown hK hP (0) rfl rfl 8 (by decide) hf68 (fun _ h9 => h9) rfl dX1_breakThrough_44 ?_
            refine lv_aload_n hx hb dX1_breakThrough_47 rfl (lv_at hl 0 rfl) ?_
            refine lv_aload_n hx hb dX1_breakThrough_48 rfl (lv_at hl 3 rfl) ?_
            refine va_get (D := D) (ci := 0) (v := .int ((b 1 j))) (C := RX0) (T := TX0) (N := 4) hx hb hts hinX0 hown hK hP (11 + j) (eW_b (by omega)) rfl 1 (by decide) hf120 (fun _ h9 => h9) rfl dX1_breakThrough_49 ?_
            refine zcMV (As := [.int ((b 1 j))]) (rest := [.int ((brkE q k (b 2 j) (b 1 j) fi (b 3 j)).2.1), .ref (E 0)]) (st1 := [.int ((fineI ((brkE q k (b 2 j) (b 1 j) fi (b 3 j)).1) k)), .int ((brkE q k (b 2 j) (b 1 j) fi (b 3 j)).2.1), .ref (E 0)]) (cells1 := 0) (slots1 := 0) ⟨hx, hb, hml, hown, hts⟩ (c_X2_breakFor l D y (E (5 + k)) ((brkE q k (b 2 j) (b 1 j) fi (b 3 j)).1) k (b 1 j) _) (cwV 1 hts gX1_breakThrough_X2_breakFor rfl rfl rfl (by decide +kernel) ⟨Nat.le_of_ble_eq_true rfl, Nat.le_of_ble_eq_true rfl⟩) hK (z_sub_P hP (z_in_1 (k := 5 + k) (eW_w (by omega)))) z_D_1 (ci := 2) (q0 := 0) rfl rfl rfl rfl hl.1 rfl (lv_room (Nat.le_of_ble_eq_true rfl)) dX1_breakThrough_52 hS (z_sub_F hD hS hA (z_in_1 (k := 5 + k) (eW_w (by omega)))) ⟨Nat.le_of_ble_eq_true rfl, Nat.le_of_ble_eq_true rfl⟩ rfl rfl rfl (fun H locs hP1 hz hfr hS => ?_)
            obtain ⟨hP, hD⟩ := z_one hP hD (k := 5 + k) (eW_w (by omega)) (eW_setw (by omega) (fun j i h => breakW_k _ _ _ _ _ h)) hP1 hfr
            have hP : va_P D vwCl (eW E y t o (breakW ((brkE q k (b 2 j) (b 1 j) fi (b 3 j)).1) k (b 1 j)) (up2 b 3 j (brkE q k (b 2 j) (b 1 j) fi (b 3 j)).2.2) c bc n ar ((brkE q k (b 2 j) (b 1 j) fi (b 3 j)).2.1) re) H := hP
            have hD : va_D A (eW E y t o (breakW ((brkE q k (b 2 j) (b 1 j) fi (b 3 j)).1) k (b 1 j)) (up2 b 3 j (brkE q k (b 2 j) (b 1 j) fi (b 3 j)).2.2) c bc n ar ((brkE q k (b 2 j) (b 1 j) fi (b 3 j)).2.1) re) := hD
            refine lv_iadd hx hb dX1_breakThrough_55 ?_
            refine va_put (D := D) (ci := 1) (v := .int (((brkE q k (b 2 j) (b 1 j) fi (b 3 j)).2.1 + (fineI ((brkE q k (b 2 j) (b 1 j) fi (b 3 j)).1) k)))) (ty := .int) (C := RX1) (T := TX1) (N := 10) hx hb hts hinX1 tyX1 tyX1_ok nmX1 hown hK hP hD hS (0) rfl rfl 8 (by decide) hf68 (fun _ h9 => h9) rfl (by decide +kernel) rfl rfl (Nat.le_of_ble_eq_true rfl) dX1_breakThrough_56 (fun H locs hP hD hS => ?_)
            have hP : va_P D vwCl (eW E y t o (breakW ((brkE q k (b 2 j) (b 1 j) fi (b 3 j)).1) k (b 1 j)) (up2 b 3 j (brkE q k (b 2 j) (b 1 j) fi (b 3 j)).2.2) c bc n ar ((brkE q k (b 2 j) (b 1 j) fi (b 3 j)).2.1 + (fineI ((brkE q k (b 2 j) (b 1 j) fi (b 3 j)).1) k)) re) H := hP
            have hD : va_D A (eW E y t o (breakW ((brkE q k (b 2 j) (b 1 j) fi (b 3 j)).1) k (b 1 j)) (up2 b 3 j (brkE q k (b 2 j) (b 1 j) fi (b 3 j)).2.2) c bc n ar ((brkE q k (b 2 j) (b 1 j) fi (b 3 j)).2.1 + (fineI ((brkE q k (b 2 j) (b 1 j) fi (b 3 j)).1) k)) re) := hD
            refine lv_aload_n hx hb dX1_breakThrough_59 rfl (lv_at hl 3 rfl) ?_
            refine lv_dup hx hb dX1_breakThrough_60 rfl ?_
            refine va_get (D := D) (ci := 0) (v := .int (((up2 b 3 j (brkE q k (b 2 j) (b 1 j) fi (b 3 j)).2.2) 3 j))) (C := RX0) (T := TX0) (N := 4) hx hb hts hinX0 hown hK hP (11 + j) (eW_b (by omega)) rfl 3 (by decide) hf124 (fun _ h9 => h9) rfl dX1_breakThrough_61 ?_
            refine zt_i (x' := (brkE q k (b 2 j) (b 1 j) fi (b 3 j)).2.2) (up2_s _ _ _ _) ?_
            refine lv_iconst (v := 1) hx hb dX1_breakThrough_64 (by decide) ?_
            refine lv_iadd hx hb dX1_breakThrough_65 ?_
            refine va_put (D := D) (ci := 0) (v := .int (((brkE q k (b 2 j) (b 1 j) fi (b 3 j)).2.2 + 1))) (ty := .int) (C := RX0) (T := TX0) (N := 4) hx hb hts hinX0 tyX0 tyX0_ok nmX0 hown hK hP hD hS (11 + j) (eW_b (by omega)) rfl 3 (by decide) hf124 (fun _ h9 => h9) rfl (by decide +kernel) rfl rfl (Nat.le_of_ble_eq_true rfl) dX1_breakThrough_66 (fun H locs hP hD hS => ?_)
            rw [bF_3, eW_setb (by omega) (fun j i h => up2_k _ _ _ _ _ _ h), up2_2] at hP hD
            have hP : va_P D vwCl (eW E y t o (breakW ((brkE q k (b 2 j) (b 1 j) fi (b 3 j)).1) k (b 1 j)) (up2 b 3 j ((brkE q k (b 2 j) (b 1 j) fi (b 3 j)).2.2 + 1)) c bc n ar ((brkE q k (b 2 j) (b 1 j) fi (b 3 j)).2.1 + (fineI ((brkE q k (b 2 j) (b 1 j) fi (b 3 j)).1) k)) re) H := hP
            have hD : va_D A (eW E y t o (breakW ((brkE q k (b 2 j) (b 1 j) fi (b 3 j)).1) k (b 1 j)) (up2 b 3 j ((brkE q k (b 2 j) (b 1 j) fi (b 3 j)).2.2 + 1)) c bc n ar ((brkE q k (b 2 j) (b 1 j) fi (b 3 j)).2.1 + (fineI ((brkE q k (b 2 j) (b 1 j) fi (b 3 j)).1) k)) re) := hD
            refine lv_iinc (v := nI (k + 1)) (lv' := [(2, .int (nI (k + 1))), (3, .ref (E (5 + k))), (0, .ref (E 0)), (1, .ref (E (11 + j)))]) hx hb dX1_breakThrough_69 hl (k := 1) rfl (nI_1 _) (by decide) rfl (fun ls hl => ?_)
            refine lv_goto (tgt := 2) hx hb dX1_breakThrough_72 (by decide) ?_
            have e12 : (brkE q (k + 1) (b 2 j) (b 1 j) fi (b 3 j)).1 = (breakW ((brkE q k (b 2 j) (b 1 j) fi (b 3 j)).1) k (b 1 j)) := by simp [brkE_s, brkS, c4, d4, c8]
            have e13 : (brkE q (k + 1) (b 2 j) (b 1 j) fi (b 3 j)).2.1 = ((brkE q k (b 2 j) (b 1 j) fi (b 3 j)).2.1 + (fineI ((brkE q k (b 2 j) (b 1 j) fi (b 3 j)).1) k)) := by simp [brkE_s, brkS, c4, d4, c8]
            have e14 : (up2 b 3 j (brkE q (k + 1) (b 2 j) (b 1 j) fi (b 3 j)).2.2) = (up2 b 3 j ((brkE q k (b 2 j) (b 1 j) fi (b 3 j)).2.2 + 1)) := by simp [brkE_s, brkS, c4, d4, c8]
            refine ihk H locs ls ?_ ?_ hS ?_
            · first | exact hP | (simp only [e12, e13, e14]; exact hP)
            · first | exact hD | (simp only [e12, e13, e14]; exact hD)
            · first | exact lv_sub hl [0, 2, 3] rfl | (simp only [e12, e13, e14]; exact lv_sub hl [0, 2, 3] rfl)
  exact loop1 0 (Nat.zero_le _) H locs ls hP hD hS (lv_sub hl [0, 1, 2] rfl)
