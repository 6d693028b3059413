theorem z_D_s {A : Nat → Prop} {l1 a b : va_W} (h : va_D A (l1 ++ (a ++ b))) : va_D (fun _ => True) (b ++ a) := by
  have key : ∀ (k : Nat) (q : Nat × va_E), (b ++ a)[k]? = some q → ∃ i, (l1 ++ (a ++ b))[i]? = some q ∧ i = (if k < b.length then l1.length + a.length + k else l1.length + (k - b.length)) := by
    intro k q hk
    by_cases hl : k < b.length
    · rw [List.getElem?_append_left hl] at hk
      refine ⟨l1.length + (a.length + k), ?_, by rw [if_pos hl]; omega⟩
      rw [List.getElem?_append_right (by omega), Nat.add_sub_cancel_left, List.getElem?_append_right (by omega), Nat.add_sub_cancel_left]
      exact hk
    · rw [List.getElem?_append_right (by omega)] at hk
      have ha := (List.getElem?_eq_some_iff.mp hk).1
      refine ⟨l1.length + (k - b.length), ?_, by rw [if_neg hl]⟩
      rw [List.getElem?_append_right (by omega), Nat.add_sub_cancel_left, List.getElem?_append_left ha]
      exact hk
  refine ⟨fun i j x z hi hj hxz => ?_, fun _ _ _ => trivial⟩
  have hli := (List.getElem?_eq_some_iff.mp hi).1
  have hlj := (List.getElem?_eq_some_iff.mp hj).1
  rw [List.length_append] at hli hlj
  obtain ⟨i', h1, e1⟩ := key i x hi
  obtain ⟨j', h2, e2⟩ := key j z hj
  have := h.1 i' j' x z h1 h2 hxz
  split at e1 <;> split at e2 <;> omega
theorem z_segS {D : va_G} {A0 : Nat → Prop} {ws ws1 l1 a b b1 : va_W} {H H1 : Heap} (hP : va_P D vwCl ws H) (hD : va_D A0 ws) (e0 : ws = l1 ++ (a ++ b)) (e1 : l1 ++ (a ++ b1) = ws1) (had : b1.map Prod.fst = b.map Prod.fst) (hP1 : va_P D vwCl (b1 ++ a) H1) (hfr : ∀ q : Nat, q < H.size → ¬ va_A (b ++ a) H.size q → H1[q]? = H[q]?) : va_P D vwCl ws1 H1 ∧ va_D A0 ws1 := by
  refine z_seg (l1 := l1) (w := a ++ b) (w1 := a ++ b1) (l2 := []) hP hD (by rw [e0, List.append_nil]) (by rw [← e1, List.append_nil]) (by rw [List.map_append, List.map_append, had]) (z_sub_P hP1 (fun z h => (List.mem_append.mp h).elim (fun h => List.mem_append_right _ h) (fun h => List.mem_append_left _ h))) (fun q hq h9 => hfr q hq (fun h8 => h9 ?_))
  rcases h8 with ⟨k, e, h8⟩ | h8
  · have hm : (q, e) ∈ a ++ b := (List.mem_append.mp (List.mem_of_getElem? h8)).elim (fun h => List.mem_append_right _ h) (fun h => List.mem_append_left _ h)
    obtain ⟨i, hi⟩ := List.getElem?_of_mem hm
    exact Or.inl ⟨i, e, hi⟩
  · exact Or.inr h8
theorem hoTof {c : Nat} {o o2 : Nat → Nat} (hc : c ≤ 6) (ho : ∀ i, i < c → o i < c) : ∀ i, i < c → cpN 6 o o2 i < c := fun i hi => by rw [cpN_lt _ _ (by omega)]; exact ho i hi
def itT : Nat → TS → TS
  | 0, T => T
  | k + 1, T => nightsT 1 (itT k T)
theorem itT_s (k : Nat) (T : TS) : itT (k + 1) T = nightsT 1 (itT k T) := rfl
theorem itT_o (k : Nat) (T : TS) : (itT k T).1 = T.1 ∧ (itT k T).2.1 = T.2.1 ∧ (itT k T).2.2.2.2.1 = T.2.2.2.2.1 := by
  induction k with
  | zero => exact ⟨rfl, rfl, rfl⟩
  | succ k ih => exact ih
theorem itT_b (k : Nat) (T : TS) : (itT k T).2.2.2.2.2.1 ≤ T.2.2.2.2.2.1 := by
  induction k with
  | zero => exact Nat.le_refl _
  | succ k ih => exact Nat.le_trans (nightsE_b _ _ _ 1 (nsT (itT k T))) ih
theorem itT_n (k : Nat) (T : TS) : (itT k T).2.2.2.2.2.2.1 = T.2.2.2.2.2.2.1 + k := by
  induction k with
  | zero => rfl
  | succ k ih =>
    have h : (nightsT 1 (itT k T)).2.2.2.2.2.2.1 = (itT k T).2.2.2.2.2.2.1 + 1 := nightsE_n _ _ _ 1 (nsT (itT k T))
    rw [itT_s, h, ih]; omega
theorem itT_ho {k : Nat} {T : TS} (h : ∀ i, i < T.2.2.2.2.1 → T.2.1 i < T.2.2.2.2.1) : ∀ i, i < (itT k T).2.2.2.2.1 → (itT k T).2.1 i < (itT k T).2.2.2.2.1 := by
  obtain ⟨-, h2, h3⟩ := itT_o k T
  rw [h2, h3]; exact h
/-- the first number at which p fails, m at most -/
def firstF (p : Nat → Bool) : Nat → Nat
  | 0 => 0
  | m + 1 => if firstF p m < m then firstF p m else if p m = true then m + 1 else m
theorem firstF_all {p : Nat → Bool} : ∀ {m : Nat}, (∀ i, i < m → p i = true) → firstF p m = m
  | 0, _ => rfl
  | m + 1, h => by
    show (if firstF p m < m then firstF p m else if p m = true then m + 1 else m) = m + 1
    rw [firstF_all (fun i hi => h i (by omega)), if_neg (Nat.lt_irrefl m), if_pos (h m (by omega))]
theorem firstF_at {p : Nat → Bool} {k : Nat} (h : ∀ i, i < k → p i = true) (hk : p k = false) : ∀ {m : Nat}, k < m → firstF p m = k
  | 0, hm => absurd hm (Nat.not_lt_zero _)
  | m + 1, hm => by
    show (if firstF p m < m then firstF p m else if p m = true then m + 1 else m) = k
    rcases Nat.lt_or_eq_of_le (Nat.lt_succ_iff.mp hm) with h1 | h1
    · rw [firstF_at h hk h1, if_pos h1]
    · subst h1
      rw [firstF_all h, if_neg (Nat.lt_irrefl k), hk]; rfl
set_option maxHeartbeats 4000000 in
set_option maxRecDepth 100000 in
theorem c_X3_pass (l : Launch) (D : va_G) (y : Nat → ClassId) (X0 : Nat) (E E2 : Nat → Nat) (t : Nat → Int32) (o : Nat → Nat) (q b : Fld) (c bc n : Nat) (ar fi re : Int32) (T : TS) (mm : Nat) (hw : inB 1 (nI mm) 60 = true) (hn : n + mm < 2147483648) (hc : c ≤ 6) (hbc : bc ≤ 5) (ho : ∀ i, i < c → o i < c) (sz : Nat) : zM l yX3_pass wsX3_pass { frames := 5, cells := 0, slots := 0, locals := 111 } D y [.ref X0, .int (nI mm)] (sW X0 E E2 y t o q b c bc n ar fi re T) sz (some (.int ((nightsE t o c mm (q, b, bc, n, ar, fi, re)).2.2.2.2.1 - ar))) (sW X0 E E2 y t o ((nightsE t o c mm (q, b, bc, n, ar, fi, re)).1) ((nightsE t o c mm (q, b, bc, n, ar, fi, re)).2.1) c ((nightsE t o c mm (q, b, bc, n, ar, fi, re)).2.2.1) ((nightsE t o c mm (q, b, bc, n, ar, fi, re)).2.2.2.1) ((nightsE t o c mm (q, b, bc, n, ar, fi, re)).2.2.2.2.1) ((nightsE t o c mm (q, b, bc, n, ar, fi, re)).2.2.2.2.2.1) ((nightsE t o c mm (q, b, bc, n, ar, fi, re)).2.2.2.2.2.2) T) 0 0 := by
  refine zM.ofH (cc := cX3_pass) (maxL := 3) (ret := (some .int)) (own := RX3) (by decide) rfl (Nat.le_of_ble_eq_true rfl) rfl ?_
  intro p e s m args below meth cd ls A H locs hx hb hr hml hown hts hlocks hP hK hD hA hS hl hin
  have hS0 := hS
  have hl : lv_has ls 3 [(0, .ref X0), (1, .int (nI mm))] := hl
  have hf12 : (Cond.fieldLink RX3 12 "StakeWeirs" "now" "LStakeWeirs$Estuary;").before args s = true := hts _ (by decide +kernel)
  have hinX3 : ∀ w ∈ wsX30, w ∈ wsX3_pass := by decide +kernel
  have hf142 : (Cond.fieldLink RX3 142 "StakeWeirs$Estuary" "arrived" "I").before args s = true := hts _ (by decide +kernel)
  have hinX1 : ∀ w ∈ wsX10, w ∈ wsX3_pass := by decide +kernel
  refine lv_iload_n hx hb dX3_pass_0 rfl (lv_at hl 1 rfl) ?_
  refine lv_iconst (v := 1) hx hb dX3_pass_1 (by decide) ?_
  refine lv_bipush (v := 60) hx hb dX3_pass_2 (by decide) ?_
  refine zcRS (As := [.int (nI mm), .int 1, .int 60]) (rest := []) (st1 := [.int (zb (inB 1 (nI mm) 60))]) ⟨hx, hb, hml, hown, hts⟩ (c_X3_isWithin l D y (nI mm) 1 60) (cwS 3 hts gX3_pass_X3_isWithin rfl rfl rfl (by decide +kernel) ⟨Nat.le_of_ble_eq_true rfl, Nat.le_of_ble_eq_true rfl⟩) hK va_P_nil rfl hl.1 rfl (lv_room (Nat.le_of_ble_eq_true rfl)) dX3_pass_4 ⟨Nat.le_of_ble_eq_true rfl, Nat.le_of_ble_eq_true rfl⟩ rfl ?_
  refine lv_if_ne (tgt := 20) hx hb dX3_pass_7 (by decide) (fun c1 => ?_) (fun c1 => ?_)
  · have c1 := c1
    refine lv_aload_n hx hb dX3_pass_20 rfl (lv_at hl 0 rfl) ?_
    refine va_get (D := D) (ci := 3) (v := .ref (E 0)) (C := RX3) (T := TX3) (N := 2) hx hb hts hinX3 hown hK hP (0) rfl rfl 0 (by decide) hf12 (fun _ h9 => h9) rfl dX3_pass_21 ?_
    refine va_get (D := D) (ci := 1) (v := .int ar) (C := RX1) (T := TX1) (N := 10) hx hb hts hinX1 hown hK hP (1 + (0)) (z_apr (n := 1) rfl (z_apl rfl)) rfl 7 (by decide) hf142 (fun _ h9 => h9) rfl dX3_pass_24 ?_
    refine lv_istore_n (lv' := [(2, .int ar), (0, .ref X0), (1, .int (nI mm))]) hx hb dX3_pass_27 rfl hl (by decide) rfl (fun ls hl => ?_)
    refine lv_aload_n hx hb dX3_pass_28 rfl (lv_at hl 1 rfl) ?_
    refine va_get (D := D) (ci := 3) (v := .ref (E 0)) (C := RX3) (T := TX3) (N := 2) hx hb hts hinX3 hown hK hP (0) rfl rfl 0 (by decide) hf12 (fun _ h9 => h9) rfl dX3_pass_29 ?_
    refine lv_iload_n hx hb dX3_pass_32 rfl (lv_at hl 2 rfl) ?_
    refine zcMV (As := [.int (nI mm)]) (rest := []) (st1 := []) (cells1 := 0) (slots1 := 0) ⟨hx, hb, hml, hown, hts⟩ (c_X1_goThroughNights l D y E t o q b c bc n ar fi re mm (by omega) (by omega) (by omega) ho _) (cwV 1 hts gX3_pass_X1_goThroughNights rfl rfl rfl (by decide +kernel) ⟨Nat.le_of_ble_eq_true rfl, Nat.le_of_ble_eq_true rfl⟩) hK (z_sub_P hP (fun z h => List.mem_append_right _ (List.mem_append_left _ h))) (z_D_m (l1 := [(X0, .inr (3, [.ref (E 0), .ref (E2 0)]))]) hD) (ci := 1) (q0 := 0) rfl rfl rfl rfl hl.1 rfl (lv_room (Nat.le_of_ble_eq_true rfl)) dX3_pass_33 hS (z_sub_F hD hS hA (fun z h => List.mem_append_right _ (List.mem_append_left _ h))) ⟨Nat.le_of_ble_eq_true rfl, Nat.le_of_ble_eq_true rfl⟩ rfl rfl rfl (fun H locs hP1 hz hfr hS => ?_)
    obtain ⟨hP, hD⟩ := z_seg (ws1 := sW X0 E E2 y t o ((nightsE t o c mm (q, b, bc, n, ar, fi, re)).1) ((nightsE t o c mm (q, b, bc, n, ar, fi, re)).2.1) c ((nightsE t o c mm (q, b, bc, n, ar, fi, re)).2.2.1) ((nightsE t o c mm (q, b, bc, n, ar, fi, re)).2.2.2.1) ((nightsE t o c mm (q, b, bc, n, ar, fi, re)).2.2.2.2.1) ((nightsE t o c mm (q, b, bc, n, ar, fi, re)).2.2.2.2.2.1) ((nightsE t o c mm (q, b, bc, n, ar, fi, re)).2.2.2.2.2.2) T) (l1 := [(X0, .inr (3, [.ref (E 0), .ref (E2 0)]))]) (w := eW E y t o q b c bc n ar fi re) (w1 := eW E y t o ((nightsE t o c mm (q, b, bc, n, ar, fi, re)).1) ((nightsE t o c mm (q, b, bc, n, ar, fi, re)).2.1) c ((nightsE t o c mm (q, b, bc, n, ar, fi, re)).2.2.1) ((nightsE t o c mm (q, b, bc, n, ar, fi, re)).2.2.2.1) ((nightsE t o c mm (q, b, bc, n, ar, fi, re)).2.2.2.2.1) ((nightsE t o c mm (q, b, bc, n, ar, fi, re)).2.2.2.2.2.1) ((nightsE t o c mm (q, b, bc, n, ar, fi, re)).2.2.2.2.2.2)) hP hD rfl rfl rfl hP1 hfr
    refine lv_aload_n hx hb dX3_pass_36 rfl (lv_at hl 1 rfl) ?_
    refine va_get (D := D) (ci := 3) (v := .ref (E 0)) (C := RX3) (T := TX3) (N := 2) hx hb hts hinX3 hown hK hP (0) rfl rfl 0 (by decide) hf12 (fun _ h9 => h9) rfl dX3_pass_37 ?_
    refine va_get (D := D) (ci := 1) (v := .int ((nightsE t o c mm (q, b, bc, n, ar, fi, re)).2.2.2.2.1)) (C := RX1) (T := TX1) (N := 10) hx hb hts hinX1 hown hK hP (1 + (0)) (z_apr (n := 1) rfl (z_apl rfl)) rfl 7 (by decide) hf142 (fun _ h9 => h9) rfl dX3_pass_40 ?_
    refine lv_iload_n hx hb dX3_pass_43 rfl (lv_at hl 0 rfl) ?_
    refine lv_isub hx hb dX3_pass_44 ?_
    exact zM_i hx hb hr hlocks hS dX3_pass_45 rfl hP
  · exact absurd (zb_f c1) (by rw [hw]; decide)
set_option maxHeartbeats 4000000 in
set_option maxRecDepth 100000 in
theorem c_X3_pass_T1 (l : Launch) (hl0 : l.stackTraces = false) (D : va_G) (y : Nat → ClassId) (X0 : Nat) (E E2 : Nat → Nat) (t : Nat → Int32) (o : Nat → Nat) (q b : Fld) (c bc n : Nat) (ar fi re : Int32) (T : TS) (x : Int32) (hw : inB 1 x 60 = false) : zT l yX3_pass wsX3_pass { frames := 6, cells := 1, slots := 6, locals := 90 } D y [.ref X0, .int x] (sW X0 E E2 y t o q b c bc n ar fi re T) "java/lang/IllegalArgumentException" := by
  refine zT.of (cc := cX3_pass) (maxL := 3) (ret := (some .int)) (own := RX3) (by decide) rfl (Nat.le_of_ble_eq_true rfl) rfl ?_
  intro p e s m args below meth cd ls hx hb hr hml hown hts hlocks hP hK hT0 hout hl
  have hl : lv_has ls 3 [(0, .ref X0), (1, .int x)] := hl
  have hkl23 : (Cond.classLink RX3 23 "java/lang/IllegalArgumentException").before args s = true := hts _ (by decide +kernel)
  have hini23 : (Cond.initialized "java/lang/IllegalArgumentException").before args s = true := hts _ (by decide +kernel)
  refine lv_iload_n hx hb dX3_pass_0 rfl (lv_at hl 1 rfl) ?_
  refine lv_iconst (v := 1) hx hb dX3_pass_1 (by decide) ?_
  refine lv_bipush (v := 60) hx hb dX3_pass_2 (by decide) ?_
  refine zcRS (As := [.int x, .int 1, .int 60]) (rest := []) (st1 := [.int (zb (inB 1 x 60))]) ⟨hx, hb, hml, hown, hts⟩ (c_X3_isWithin l D y x 1 60) (cwS 3 hts gX3_pass_X3_isWithin rfl rfl rfl (by decide +kernel) ⟨Nat.le_of_ble_eq_true rfl, Nat.le_of_ble_eq_true rfl⟩) hK va_P_nil rfl hl.1 rfl (lv_room (Nat.le_of_ble_eq_true rfl)) dX3_pass_4 ⟨Nat.le_of_ble_eq_true rfl, Nat.le_of_ble_eq_true rfl⟩ rfl ?_
  refine lv_if_ne (tgt := 20) hx hb dX3_pass_7 (by decide) (fun c1 => ?_) (fun c1 => ?_)
  · exact absurd (zb_t c1) (by rw [hw]; decide)
  · have c1 := c1
    exact z_thr (cls := "java/lang/IllegalArgumentException") (text := "nights is not 1 to 60") (ik := 23) (is := 140) (ic := 27) hx hb hl0 hown (by decide +kernel) hkl23 hini23 hts (fun x h => List.mem_cons_of_mem _ (List.mem_append_right _ h)) zbad_27 (zgoodO_27 23) hT0 (by decide) hl.1 hml dX3_pass_10 dX3_pass_13 dX3_pass_14 dX3_pass_16 dX3_pass_19 hout (Nat.le_of_ble_eq_true rfl) (Nat.le_of_ble_eq_true rfl) (Nat.le_of_ble_eq_true rfl) (Nat.le_of_ble_eq_true rfl) hlocks
set_option maxHeartbeats 4000000 in
set_option maxRecDepth 100000 in
theorem c_X3_catches (l : Launch) (D : va_G) (y : Nat → ClassId) (X0 : Nat) (E E2 : Nat → Nat) (t : Nat → Int32) (o : Nat → Nat) (q b : Fld) (c bc n : Nat) (ar fi re : Int32) (T : TS) (k : Nat) (hk : k < c) (hn : n < 2147483648) (hc : c ≤ 6) (hbc : bc ≤ 5) (ho : ∀ i, i < c → o i < c) (h01 : ∀ i, i < c → q 6 i = 0 ∨ q 6 i = 1)  (sz : Nat) : zM l yX3_catches wsX3_catches { frames := 4, cells := 0, slots := 0, locals := 88 } D y [.ref X0, .int (nI k)] (sW X0 E E2 y t o q b c bc n ar fi re T) sz (some (.int ((catchT (copyT (t, o, q, b, c, bc, n, ar, fi, re) T)).2.2.1 5 k - q 5 k))) (sW X0 E E2 y t o q b c bc n ar fi re (catchT (copyT (t, o, q, b, c, bc, n, ar, fi, re) T))) 0 0 := by
  refine zM.ofH (cc := cX3_catches) (maxL := 4) (ret := (some .int)) (own := RX3) (by decide) rfl (Nat.le_of_ble_eq_true rfl) rfl ?_
  intro p e s m args below meth cd ls A H locs hx hb hr hml hown hts hlocks hP hK hD hA hS hl hin
  have hS0 := hS
  have hl : lv_has ls 4 [(0, .ref X0), (1, .int (nI k))] := hl
  have hf12 : (Cond.fieldLink RX3 12 "StakeWeirs" "now" "LStakeWeirs$Estuary;").before args s = true := hts _ (by decide +kernel)
  have hinX3 : ∀ w ∈ wsX30, w ∈ wsX3_catches := by decide +kernel
  have hf16 : (Cond.fieldLink RX3 16 "StakeWeirs" "trial" "LStakeWeirs$Estuary;").before args s = true := hts _ (by decide +kernel)
  have hf81 : (Cond.fieldLink RX3 81 "StakeWeirs$Weir" "eels" "I").before args s = true := hts _ (by decide +kernel)
  have hinX2 : ∀ w ∈ wsX20, w ∈ wsX3_catches := by decide +kernel
  refine lv_aload_n hx hb dX3_catches_0 rfl (lv_at hl 0 rfl) ?_
  refine va_get (D := D) (ci := 3) (v := .ref (E 0)) (C := RX3) (T := TX3) (N := 2) hx hb hts hinX3 hown hK hP (0) rfl rfl 0 (by decide) hf12 (fun _ h9 => h9) rfl dX3_catches_1 ?_
  refine lv_iload_n hx hb dX3_catches_4 rfl (lv_at hl 1 rfl) ?_
  refine zcRV (As := [.int (nI k)]) (rest := []) (st1 := [.ref (E (5 + k))]) ⟨hx, hb, hml, hown, hts⟩ (c_X1_weirAt l D y E t o q b c bc n ar fi re k (by omega) (by omega)) (cwV 1 hts gX3_catches_X1_weirAt rfl rfl rfl (by decide +kernel) ⟨Nat.le_of_ble_eq_true rfl, Nat.le_of_ble_eq_true rfl⟩) hK (z_sub_P hP (fun z h => List.mem_append_right _ (List.mem_append_left _ h))) (ci := 1) (q0 := 0) rfl rfl rfl rfl hl.1 rfl (lv_room (Nat.le_of_ble_eq_true rfl)) dX3_catches_5 ⟨Nat.le_of_ble_eq_true rfl, Nat.le_of_ble_eq_true rfl⟩ rfl ?_
  refine lv_astore_n (lv' := [(2, .ref (E (5 + k))), (0, .ref X0), (1, .int (nI k))]) hx hb dX3_catches_8 rfl hl (by decide) rfl (fun ls hl => ?_)
  refine lv_aload_n hx hb dX3_catches_9 rfl (lv_at hl 0 rfl) ?_
  refine lv_ifnonnull (tgt := 23) hx hb dX3_catches_10 (by decide) ?_
  refine lv_aload_n hx hb dX3_catches_23 rfl (lv_at hl 1 rfl) ?_
  refine va_get (D := D) (ci := 3) (v := .ref (E2 0)) (C := RX3) (T := TX3) (N := 2) hx hb hts hinX3 hown hK hP (0) rfl rfl 1 (by decide) hf16 (fun _ h9 => h9) rfl dX3_catches_24 ?_
  refine lv_aload_n hx hb dX3_catches_27 rfl (lv_at hl 1 rfl) ?_
  refine va_get (D := D) (ci := 3) (v := .ref (E 0)) (C := RX3) (T := TX3) (N := 2) hx hb hts hinX3 hown hK hP (0) rfl rfl 0 (by decide) hf12 (fun _ h9 => h9) rfl dX3_catches_28 ?_
  refine zcMV (As := [.ref (E 0)]) (rest := []) (st1 := []) (cells1 := 0) (slots1 := 0) ⟨hx, hb, hml, hown, hts⟩ (c_X1_copyFrom l D y E2 T.1 T.2.1 T.2.2.1 T.2.2.2.1 T.2.2.2.2.1 T.2.2.2.2.2.1 T.2.2.2.2.2.2.1 T.2.2.2.2.2.2.2.1 T.2.2.2.2.2.2.2.2.1 T.2.2.2.2.2.2.2.2.2 E t o q b c bc n ar fi re (by omega) (by omega) h01 _) (cwV 1 hts gX3_catches_X1_copyFrom rfl rfl rfl (by decide +kernel) ⟨Nat.le_of_ble_eq_true rfl, Nat.le_of_ble_eq_true rfl⟩) hK (z_sub_P hP (fun z h => List.mem_append_right _ ((List.mem_append.mp h).elim (fun h => List.mem_append_right _ h) (fun h => List.mem_append_left _ h)))) (z_D_s (l1 := [(X0, .inr (3, [.ref (E 0), .ref (E2 0)]))]) hD) (ci := 1) (q0 := 0) rfl rfl rfl rfl hl.1 rfl (lv_room (Nat.le_of_ble_eq_true rfl)) dX3_catches_31 hS (z_sub_F hD hS hA (fun z h => List.mem_append_right _ ((List.mem_append.mp h).elim (fun h => List.mem_append_right _ h) (fun h => List.mem_append_left _ h)))) ⟨Nat.le_of_ble_eq_true rfl, Nat.le_of_ble_eq_true rfl⟩ rfl rfl rfl (fun H locs hP1 hz hfr hS => ?_)
  obtain ⟨hP, hD⟩ := z_segS (ws1 := sW X0 E E2 y t o q b c bc n ar fi re (copyT (t, o, q, b, c, bc, n, ar, fi, re) T)) (l1 := [(X0, .inr (3, [.ref (E 0), .ref (E2 0)]))]) (a := eW E y t o q b c bc n ar fi re) (b := eW E2 y T.1 T.2.1 T.2.2.1 T.2.2.2.1 T.2.2.2.2.1 T.2.2.2.2.2.1 T.2.2.2.2.2.2.1 T.2.2.2.2.2.2.2.1 T.2.2.2.2.2.2.2.2.1 T.2.2.2.2.2.2.2.2.2) (b1 := eW E2 y ((copyT (t, o, q, b, c, bc, n, ar, fi, re) T).1) ((copyT (t, o, q, b, c, bc, n, ar, fi, re) T).2.1) ((copyT (t, o, q, b, c, bc, n, ar, fi, re) T).2.2.1) ((copyT (t, o, q, b, c, bc, n, ar, fi, re) T).2.2.2.1) ((copyT (t, o, q, b, c, bc, n, ar, fi, re) T).2.2.2.2.1) ((copyT (t, o, q, b, c, bc, n, ar, fi, re) T).2.2.2.2.2.1) ((copyT (t, o, q, b, c, bc, n, ar, fi, re) T).2.2.2.2.2.2.1) ((copyT (t, o, q, b, c, bc, n, ar, fi, re) T).2.2.2.2.2.2.2.1) ((copyT (t, o, q, b, c, bc, n, ar, fi, re) T).2.2.2.2.2.2.2.2.1) ((copyT (t, o, q, b, c, bc, n, ar, fi, re) T).2.2.2.2.2.2.2.2.2)) hP hD rfl rfl rfl hP1 hfr
  have hTc : (copyT (t, o, q, b, c, bc, n, ar, fi, re) T).2.2.2.2.1 = c := rfl
  have hTb : (copyT (t, o, q, b, c, bc, n, ar, fi, re) T).2.2.2.2.2.1 = bc := rfl
  have hTn : (copyT (t, o, q, b, c, bc, n, ar, fi, re) T).2.2.2.2.2.2.1 = n := rfl
  have hoT : ∀ i, i < (copyT (t, o, q, b, c, bc, n, ar, fi, re) T).2.2.2.2.1 → (copyT (t, o, q, b, c, bc, n, ar, fi, re) T).2.1 i < (copyT (t, o, q, b, c, bc, n, ar, fi, re) T).2.2.2.2.1 := hoTof hc ho
  refine lv_aload_n hx hb dX3_catches_34 rfl (lv_at hl 1 rfl) ?_
  refine va_get (D := D) (ci := 3) (v := .ref (E2 0)) (C := RX3) (T := TX3) (N := 2) hx hb hts hinX3 hown hK hP (0) rfl rfl 1 (by decide) hf16 (fun _ h9 => h9) rfl dX3_catches_35 ?_
  refine zcMV (As := []) (rest := []) (st1 := []) (cells1 := 0) (slots1 := 0) ⟨hx, hb, hml, hown, hts⟩ (c_X1_catchEels l D y E2 ((copyT (t, o, q, b, c, bc, n, ar, fi, re) T).1) ((copyT (t, o, q, b, c, bc, n, ar, fi, re) T).2.1) ((copyT (t, o, q, b, c, bc, n, ar, fi, re) T).2.2.1) ((copyT (t, o, q, b, c, bc, n, ar, fi, re) T).2.2.2.1) ((copyT (t, o, q, b, c, bc, n, ar, fi, re) T).2.2.2.2.1) ((copyT (t, o, q, b, c, bc, n, ar, fi, re) T).2.2.2.2.2.1) ((copyT (t, o, q, b, c, bc, n, ar, fi, re) T).2.2.2.2.2.2.1) ((copyT (t, o, q, b, c, bc, n, ar, fi, re) T).2.2.2.2.2.2.2.1) ((copyT (t, o, q, b, c, bc, n, ar, fi, re) T).2.2.2.2.2.2.2.2.1) ((copyT (t, o, q, b, c, bc, n, ar, fi, re) T).2.2.2.2.2.2.2.2.2)  (by omega) (by omega) hoT _) (cwV 0 hts gX3_catches_X1_catchEels rfl rfl rfl (by decide +kernel) ⟨Nat.le_of_ble_eq_true rfl, Nat.le_of_ble_eq_true rfl⟩) hK (z_sub_P hP (fun z h => List.mem_append_right _ (List.mem_append_right _ h))) (z_D_e (l1 := [(X0, .inr (3, [.ref (E 0), .ref (E2 0)]))]) (l2 := eW E y t o q b c bc n ar fi re) hD) (ci := 1) (q0 := 0) rfl rfl rfl rfl hl.1 rfl (lv_room (Nat.le_of_ble_eq_true rfl)) dX3_catches_38 hS (z_sub_F hD hS hA (fun z h => List.mem_append_right _ (List.mem_append_right _ h))) ⟨Nat.le_of_ble_eq_true rfl, Nat.le_of_ble_eq_true rfl⟩ rfl rfl rfl (fun H locs hP1 hz hfr hS => ?_)
  obtain ⟨hP, hD⟩ := z_segE (ws1 := sW X0 E E2 y t o q b c bc n ar fi re (catchT (copyT (t, o, q, b, c, bc, n, ar, fi, re) T))) (l1 := [(X0, .inr (3, [.ref (E 0), .ref (E2 0)]))]) (l2 := eW E y t o q b c bc n ar fi re) (w := eW E2 y ((copyT (t, o, q, b, c, bc, n, ar, fi, re) T).1) ((copyT (t, o, q, b, c, bc, n, ar, fi, re) T).2.1) ((copyT (t, o, q, b, c, bc, n, ar, fi, re) T).2.2.1) ((copyT (t, o, q, b, c, bc, n, ar, fi, re) T).2.2.2.1) ((copyT (t, o, q, b, c, bc, n, ar, fi, re) T).2.2.2.2.1) ((copyT (t, o, q, b, c, bc, n, ar, fi, re) T).2.2.2.2.2.1) ((copyT (t, o, q, b, c, bc, n, ar, fi, re) T).2.2.2.2.2.2.1) ((copyT (t, o, q, b, c, bc, n, ar, fi, re) T).2.2.2.2.2.2.2.1) ((copyT (t, o, q, b, c, bc, n, ar, fi, re) T).2.2.2.2.2.2.2.2.1) ((copyT (t, o, q, b, c, bc, n, ar, fi, re) T).2.2.2.2.2.2.2.2.2)) (w1 := eW E2 y ((catchT (copyT (t, o, q, b, c, bc, n, ar, fi, re) T)).1) ((catchT (copyT (t, o, q, b, c, bc, n, ar, fi, re) T)).2.1) ((catchT (copyT (t, o, q, b, c, bc, n, ar, fi, re) T)).2.2.1) ((catchT (copyT (t, o, q, b, c, bc, n, ar, fi, re) T)).2.2.2.1) ((catchT (copyT (t, o, q, b, c, bc, n, ar, fi, re) T)).2.2.2.2.1) ((catchT (copyT (t, o, q, b, c, bc, n, ar, fi, re) T)).2.2.2.2.2.1) ((catchT (copyT (t, o, q, b, c, bc, n, ar, fi, re) T)).2.2.2.2.2.2.1) ((catchT (copyT (t, o, q, b, c, bc, n, ar, fi, re) T)).2.2.2.2.2.2.2.1) ((catchT (copyT (t, o, q, b, c, bc, n, ar, fi, re) T)).2.2.2.2.2.2.2.2.1) ((catchT (copyT (t, o, q, b, c, bc, n, ar, fi, re) T)).2.2.2.2.2.2.2.2.2)) hP hD rfl rfl rfl hP1 hfr
  have hTc3 : (catchT (copyT (t, o, q, b, c, bc, n, ar, fi, re) T)).2.2.2.2.1 = c := rfl
  refine lv_aload_n hx hb dX3_catches_41 rfl (lv_at hl 1 rfl) ?_
  refine va_get (D := D) (ci := 3) (v := .ref (E2 0)) (C := RX3) (T := TX3) (N := 2) hx hb hts hinX3 hown hK hP (0) rfl rfl 1 (by decide) hf16 (fun _ h9 => h9) rfl dX3_catches_42 ?_
  refine lv_iload_n hx hb dX3_catches_45 rfl (lv_at hl 2 rfl) ?_
  refine zcRV (As := [.int (nI k)]) (rest := []) (st1 := [.ref (E2 (5 + k))]) ⟨hx, hb, hml, hown, hts⟩ (c_X1_weirAt l D y E2 ((catchT (copyT (t, o, q, b, c, bc, n, ar, fi, re) T)).1) ((catchT (copyT (t, o, q, b, c, bc, n, ar, fi, re) T)).2.1) ((catchT (copyT (t, o, q, b, c, bc, n, ar, fi, re) T)).2.2.1) ((catchT (copyT (t, o, q, b, c, bc, n, ar, fi, re) T)).2.2.2.1) ((catchT (copyT (t, o, q, b, c, bc, n, ar, fi, re) T)).2.2.2.2.1) ((catchT (copyT (t, o, q, b, c, bc, n, ar, fi, re) T)).2.2.2.2.2.1) ((catchT (copyT (t, o, q, b, c, bc, n, ar, fi, re) T)).2.2.2.2.2.2.1) ((catchT (copyT (t, o, q, b, c, bc, n, ar, fi, re) T)).2.2.2.2.2.2.2.1) ((catchT (copyT (t, o, q, b, c, bc, n, ar, fi, re) T)).2.2.2.2.2.2.2.2.1) ((catchT (copyT (t, o, q, b, c, bc, n, ar, fi, re) T)).2.2.2.2.2.2.2.2.2) k (by omega) (by omega)) (cwV 1 hts gX3_catches_X1_weirAt rfl rfl rfl (by decide +kernel) ⟨Nat.le_of_ble_eq_true rfl, Nat.le_of_ble_eq_true rfl⟩) hK (z_sub_P hP (fun z h => List.mem_append_right _ (List.mem_append_right _ h))) (ci := 1) (q0 := 0) rfl rfl rfl rfl hl.1 rfl (lv_room (Nat.le_of_ble_eq_true rfl)) dX3_catches_46 ⟨Nat.le_of_ble_eq_true rfl, Nat.le_of_ble_eq_true rfl⟩ rfl ?_
  refine lv_astore_n (lv' := [(3, .ref (E2 (5 + k))), (2, .ref (E (5 + k))), (0, .ref X0), (1, .int (nI k))]) hx hb dX3_catches_49 rfl hl (by decide) rfl (fun ls hl => ?_)
  refine lv_aload_n hx hb dX3_catches_50 rfl (lv_at hl 0 rfl) ?_
  refine lv_ifnonnull (tgt := 58) hx hb dX3_catches_51 (by decide) ?_
  refine lv_aload_n hx hb dX3_catches_58 rfl (lv_at hl 0 rfl) ?_
  refine va_get (D := D) (ci := 2) (v := .int ((((catchT (copyT (t, o, q, b, c, bc, n, ar, fi, re) T)).2.2.1) 5 k))) (C := RX2) (T := TX2) (N := 8) hx hb hts hinX2 hown hK hP (1 + (16 + (5 + k))) (z_apr (n := 1) rfl (z_apr (n := 16) rfl (eW_w (by omega)))) rfl 5 (by decide) hf81 (fun _ h9 => h9) rfl dX3_catches_59 ?_
  refine lv_aload_n hx hb dX3_catches_62 rfl (lv_at hl 1 rfl) ?_
  refine va_get (D := D) (ci := 2) (v := .int ((q 5 k))) (C := RX2) (T := TX2) (N := 8) hx hb hts hinX2 hown hK hP (1 + (5 + k)) (z_apr (n := 1) rfl (z_apl (eW_w (by omega)))) rfl 5 (by decide) hf81 (fun _ h9 => h9) rfl dX3_catches_63 ?_
  refine lv_isub hx hb dX3_catches_66 ?_
  exact zM_i hx hb hr hlocks hS dX3_catches_67 rfl hP
set_option maxHeartbeats 4000000 in
set_option maxRecDepth 100000 in
theorem c_X3_catches_T1 (l : Launch) (hl0 : l.stackTraces = false) (D : va_G) (y : Nat → ClassId) (X0 : Nat) (E E2 : Nat → Nat) (t : Nat → Int32) (o : Nat → Nat) (q b : Fld) (c bc n : Nat) (ar fi re : Int32) (T : TS) (x : Int32) (hx0 : x < 0 ∨ nI c ≤ x) (hc : c ≤ 6) : zT l yX3_catches wsX3_catches { frames := 6, cells := 1, slots := 6, locals := 90 } D y [.ref X0, .int x] (sW X0 E E2 y t o q b c bc n ar fi re T) "java/lang/IndexOutOfBoundsException" := by
  refine zT.of (cc := cX3_catches) (maxL := 4) (ret := (some .int)) (own := RX3) (by decide) rfl (Nat.le_of_ble_eq_true rfl) rfl ?_
  intro p e s m args below meth cd ls hx hb hr hml hown hts hlocks hP hK hT0 hout hl
  have hl : lv_has ls 4 [(0, .ref X0), (1, .int x)] := hl
  have hf12 : (Cond.fieldLink RX3 12 "StakeWeirs" "now" "LStakeWeirs$Estuary;").before args s = true := hts _ (by decide +kernel)
  have hinX3 : ∀ w ∈ wsX30, w ∈ wsX3_catches := by decide +kernel
  have hkl47 : (Cond.classLink RX3 47 "java/lang/IndexOutOfBoundsException").before args s = true := hts _ (by decide +kernel)
  have hini47 : (Cond.initialized "java/lang/IndexOutOfBoundsException").before args s = true := hts _ (by decide +kernel)
  refine lv_aload_n hx hb dX3_catches_0 rfl (lv_at hl 0 rfl) ?_
  refine va_get (D := D) (ci := 3) (v := .ref (E 0)) (C := RX3) (T := TX3) (N := 2) hx hb hts hinX3 hown hK hP (0) rfl rfl 0 (by decide) hf12 (fun _ h9 => h9) rfl dX3_catches_1 ?_
  refine lv_iload_n hx hb dX3_catches_4 rfl (lv_at hl 1 rfl) ?_
  refine zcRV (As := [.int x]) (rest := []) (st1 := [.null]) ⟨hx, hb, hml, hown, hts⟩ (c_X1_weirAt_no l D y E t o q b c bc n ar fi re x hx0 (by omega)) (cwV 1 hts gX3_catches_X1_weirAt rfl rfl rfl (by decide +kernel) ⟨Nat.le_of_ble_eq_true rfl, Nat.le_of_ble_eq_true rfl⟩) hK (z_sub_P hP (fun z h => List.mem_append_right _ (List.mem_append_left _ h))) (ci := 1) (q0 := 0) rfl rfl rfl rfl hl.1 rfl (lv_room (Nat.le_of_ble_eq_true rfl)) dX3_catches_5 ⟨Nat.le_of_ble_eq_true rfl, Nat.le_of_ble_eq_true rfl⟩ rfl ?_
  refine lv_astore_nN (lv' := [(2, .null), (0, .ref X0), (1, .int x)]) hx hb dX3_catches_8 rfl hl (by decide) rfl (fun ls hl => ?_)
  refine lv_aload_nN hx hb dX3_catches_9 rfl (lv_at hl 0 rfl) ?_
  refine lv_ifnonnullN hx hb dX3_catches_10 ?_
  exact z_thr (cls := "java/lang/IndexOutOfBoundsException") (text := "no such weir") (ik := 47) (is := 49) (ic := 51) hx hb hl0 hown (by decide +kernel) hkl47 hini47 hts (fun x h => List.mem_cons_of_mem _ (List.mem_append_right _ h)) zbad_51 (zgoodO_51 47) hT0 (by decide) hl.1 hml dX3_catches_13 dX3_catches_16 dX3_catches_17 dX3_catches_19 dX3_catches_22 hout (Nat.le_of_ble_eq_true rfl) (Nat.le_of_ble_eq_true rfl) (Nat.le_of_ble_eq_true rfl) (Nat.le_of_ble_eq_true rfl) hlocks
set_option maxHeartbeats 4000000 in
set_option maxRecDepth 100000 in
theorem c_X3_foresee_4 (l : Launch) (D : va_G) (y : Nat → ClassId) (X0 : Nat) (E E2 : Nat → Nat) (t : Nat → Int32) (o : Nat → Nat) (q b : Fld) (c bc n : Nat) (ar fi re : Int32) (T : TS) (mm : Nat) (hw : inB 1 (nI mm) 56 = true) (hn : n + mm < 2147483648) (hc : c ≤ 6) (hbc : bc ≤ 5) (ho : ∀ i, i < c → o i < c) (h01 : ∀ i, i < c → q 6 i = 0 ∨ q 6 i = 1)  (sz : Nat) : zM l yX3_foresee wsX3_foresee { frames := 5, cells := 0, slots := 0, locals := 111 } D y [.ref X0, .int (nI mm), .int 4] (sW X0 E E2 y t o q b c bc n ar fi re T) sz (some (.int ((heldN ((nightsT mm (copyT (t, o, q, b, c, bc, n, ar, fi, re) T)).2.2.1) ((nightsT mm (copyT (t, o, q, b, c, bc, n, ar, fi, re) T)).2.2.2.2.1))))) (sW X0 E E2 y t o q b c bc n ar fi re (nightsT mm (copyT (t, o, q, b, c, bc, n, ar, fi, re) T))) 0 0 := by
  refine zM.ofH (cc := cX3_foresee) (maxL := 3) (ret := (some .int)) (own := RX3) (by decide) rfl (Nat.le_of_ble_eq_true rfl) rfl ?_
  intro p e s m args below meth cd ls A H locs hx hb hr hml hown hts hlocks hP hK hD hA hS hl hin
  have hS0 := hS
  have hl : lv_has ls 3 [(0, .ref X0), (1, .int (nI mm)), (2, .int 4)] := hl
  have hf16 : (Cond.fieldLink RX3 16 "StakeWeirs" "trial" "LStakeWeirs$Estuary;").before args s = true := hts _ (by decide +kernel)
  have hinX3 : ∀ w ∈ wsX30, w ∈ wsX3_foresee := by decide +kernel
  have hf12 : (Cond.fieldLink RX3 12 "StakeWeirs" "now" "LStakeWeirs$Estuary;").before args s = true := hts _ (by decide +kernel)
  refine lv_iload_n hx hb dX3_foresee_0 rfl (lv_at hl 1 rfl) ?_
  refine lv_iconst (v := 1) hx hb dX3_foresee_1 (by decide) ?_
  refine lv_bipush (v := 56) hx hb dX3_foresee_2 (by decide) ?_
  refine zcRS (As := [.int (nI mm), .int 1, .int 56]) (rest := []) (st1 := [.int (zb (inB 1 (nI mm) 56))]) ⟨hx, hb, hml, hown, hts⟩ (c_X3_isWithin l D y (nI mm) 1 56) (cwS 3 hts gX3_foresee_X3_isWithin rfl rfl rfl (by decide +kernel) ⟨Nat.le_of_ble_eq_true rfl, Nat.le_of_ble_eq_true rfl⟩) hK va_P_nil rfl hl.1 rfl (lv_room (Nat.le_of_ble_eq_true rfl)) dX3_foresee_4 ⟨Nat.le_of_ble_eq_true rfl, Nat.le_of_ble_eq_true rfl⟩ rfl ?_
  refine lv_if_ne (tgt := 20) hx hb dX3_foresee_7 (by decide) (fun c1 => ?_) (fun c1 => ?_)
  · have c1 := c1
    refine lv_iload_n hx hb dX3_foresee_20 rfl (lv_at hl 2 rfl) ?_
    refine lv_iconst (v := 4) hx hb dX3_foresee_21 (by decide) ?_
    refine lv_icmp_eq (tgt := 46) hx hb dX3_foresee_22 (by decide) (fun c2 => ?_) (fun c2 => ?_)
    · have d2 := c2
      refine lv_aload_n hx hb dX3_foresee_46 rfl (lv_at hl 0 rfl) ?_
      refine va_get (D := D) (ci := 3) (v := .ref (E2 0)) (C := RX3) (T := TX3) (N := 2) hx hb hts hinX3 hown hK hP (0) rfl rfl 1 (by decide) hf16 (fun _ h9 => h9) rfl dX3_foresee_47 ?_
      refine lv_aload_n hx hb dX3_foresee_50 rfl (lv_at hl 0 rfl) ?_
      refine va_get (D := D) (ci := 3) (v := .ref (E 0)) (C := RX3) (T := TX3) (N := 2) hx hb hts hinX3 hown hK hP (0) rfl rfl 0 (by decide) hf12 (fun _ h9 => h9) rfl dX3_foresee_51 ?_
      refine zcMV (As := [.ref (E 0)]) (rest := []) (st1 := []) (cells1 := 0) (slots1 := 0) ⟨hx, hb, hml, hown, hts⟩ (c_X1_copyFrom l D y E2 T.1 T.2.1 T.2.2.1 T.2.2.2.1 T.2.2.2.2.1 T.2.2.2.2.2.1 T.2.2.2.2.2.2.1 T.2.2.2.2.2.2.2.1 T.2.2.2.2.2.2.2.2.1 T.2.2.2.2.2.2.2.2.2 E t o q b c bc n ar fi re (by omega) (by omega) h01 _) (cwV 1 hts gX3_foresee_X1_copyFrom rfl rfl rfl (by decide +kernel) ⟨Nat.le_of_ble_eq_true rfl, Nat.le_of_ble_eq_true rfl⟩) hK (z_sub_P hP (fun z h => List.mem_append_right _ ((List.mem_append.mp h).elim (fun h => List.mem_append_right _ h) (fun h => List.mem_append_left _ h)))) (z_D_s (l1 := [(X0, .inr (3, [.ref (E 0), .ref (E2 0)]))]) hD) (ci := 1) (q0 := 0) rfl rfl rfl rfl hl.1 rfl (lv_room (Nat.le_of_ble_eq_true rfl)) dX3_foresee_54 hS (z_sub_F hD hS hA (fun z h => List.mem_append_right _ ((List.mem_append.mp h).elim (fun h => List.mem_append_right _ h) (fun h => List.mem_append_left _ h)))) ⟨Nat.le_of_ble_eq_true rfl, Nat.le_of_ble_eq_true rfl⟩ rfl rfl rfl (fun H locs hP1 hz hfr hS => ?_)
      obtain ⟨hP, hD⟩ := z_segS (ws1 := sW X0 E E2 y t o q b c bc n ar fi re (copyT (t, o, q, b, c, bc, n, ar, fi, re) T)) (l1 := [(X0, .inr (3, [.ref (E 0), .ref (E2 0)]))]) (a := eW E y t o q b c bc n ar fi re) (b := eW E2 y T.1 T.2.1 T.2.2.1 T.2.2.2.1 T.2.2.2.2.1 T.2.2.2.2.2.1 T.2.2.2.2.2.2.1 T.2.2.2.2.2.2.2.1 T.2.2.2.2.2.2.2.2.1 T.2.2.2.2.2.2.2.2.2) (b1 := eW E2 y ((copyT (t, o, q, b, c, bc, n, ar, fi, re) T).1) ((copyT (t, o, q, b, c, bc, n, ar, fi, re) T).2.1) ((copyT (t, o, q, b, c, bc, n, ar, fi, re) T).2.2.1) ((copyT (t, o, q, b, c, bc, n, ar, fi, re) T).2.2.2.1) ((copyT (t, o, q, b, c, bc, n, ar, fi, re) T).2.2.2.2.1) ((copyT (t, o, q, b, c, bc, n, ar, fi, re) T).2.2.2.2.2.1) ((copyT (t, o, q, b, c, bc, n, ar, fi, re) T).2.2.2.2.2.2.1) ((copyT (t, o, q, b, c, bc, n, ar, fi, re) T).2.2.2.2.2.2.2.1) ((copyT (t, o, q, b, c, bc, n, ar, fi, re) T).2.2.2.2.2.2.2.2.1) ((copyT (t, o, q, b, c, bc, n, ar, fi, re) T).2.2.2.2.2.2.2.2.2)) hP hD rfl rfl rfl hP1 hfr
      have hTc : (copyT (t, o, q, b, c, bc, n, ar, fi, re) T).2.2.2.2.1 = c := rfl
      have hTb : (copyT (t, o, q, b, c, bc, n, ar, fi, re) T).2.2.2.2.2.1 = bc := rfl
      have hTn : (copyT (t, o, q, b, c, bc, n, ar, fi, re) T).2.2.2.2.2.2.1 = n := rfl
      have hoT : ∀ i, i < (copyT (t, o, q, b, c, bc, n, ar, fi, re) T).2.2.2.2.1 → (copyT (t, o, q, b, c, bc, n, ar, fi, re) T).2.1 i < (copyT (t, o, q, b, c, bc, n, ar, fi, re) T).2.2.2.2.1 := hoTof hc ho
      refine lv_aload_n hx hb dX3_foresee_57 rfl (lv_at hl 0 rfl) ?_
      refine va_get (D := D) (ci := 3) (v := .ref (E2 0)) (C := RX3) (T := TX3) (N := 2) hx hb hts hinX3 hown hK hP (0) rfl rfl 1 (by decide) hf16 (fun _ h9 => h9) rfl dX3_foresee_58 ?_
      refine lv_iload_n hx hb dX3_foresee_61 rfl (lv_at hl 1 rfl) ?_
      refine zcMV (As := [.int (nI mm)]) (rest := []) (st1 := []) (cells1 := 0) (slots1 := 0) ⟨hx, hb, hml, hown, hts⟩ (c_X1_goThroughNights l D y E2 ((copyT (t, o, q, b, c, bc, n, ar, fi, re) T).1) ((copyT (t, o, q, b, c, bc, n, ar, fi, re) T).2.1) ((copyT (t, o, q, b, c, bc, n, ar, fi, re) T).2.2.1) ((copyT (t, o, q, b, c, bc, n, ar, fi, re) T).2.2.2.1) ((copyT (t, o, q, b, c, bc, n, ar, fi, re) T).2.2.2.2.1) ((copyT (t, o, q, b, c, bc, n, ar, fi, re) T).2.2.2.2.2.1) ((copyT (t, o, q, b, c, bc, n, ar, fi, re) T).2.2.2.2.2.2.1) ((copyT (t, o, q, b, c, bc, n, ar, fi, re) T).2.2.2.2.2.2.2.1) ((copyT (t, o, q, b, c, bc, n, ar, fi, re) T).2.2.2.2.2.2.2.2.1) ((copyT (t, o, q, b, c, bc, n, ar, fi, re) T).2.2.2.2.2.2.2.2.2) mm (by omega) (by omega) (by omega) hoT _) (cwV 1 hts gX3_foresee_X1_goThroughNights rfl rfl rfl (by decide +kernel) ⟨Nat.le_of_ble_eq_true rfl, Nat.le_of_ble_eq_true rfl⟩) hK (z_sub_P hP (fun z h => List.mem_append_right _ (List.mem_append_right _ h))) (z_D_e (l1 := [(X0, .inr (3, [.ref (E 0), .ref (E2 0)]))]) (l2 := eW E y t o q b c bc n ar fi re) hD) (ci := 1) (q0 := 0) rfl rfl rfl rfl hl.1 rfl (lv_room (Nat.le_of_ble_eq_true rfl)) dX3_foresee_62 hS (z_sub_F hD hS hA (fun z h => List.mem_append_right _ (List.mem_append_right _ h))) ⟨Nat.le_of_ble_eq_true rfl, Nat.le_of_ble_eq_true rfl⟩ rfl rfl rfl (fun H locs hP1 hz hfr hS => ?_)
      obtain ⟨hP, hD⟩ := z_segE (ws1 := sW X0 E E2 y t o q b c bc n ar fi re (nightsT mm (copyT (t, o, q, b, c, bc, n, ar, fi, re) T))) (l1 := [(X0, .inr (3, [.ref (E 0), .ref (E2 0)]))]) (l2 := eW E y t o q b c bc n ar fi re) (w := eW E2 y ((copyT (t, o, q, b, c, bc, n, ar, fi, re) T).1) ((copyT (t, o, q, b, c, bc, n, ar, fi, re) T).2.1) ((copyT (t, o, q, b, c, bc, n, ar, fi, re) T).2.2.1) ((copyT (t, o, q, b, c, bc, n, ar, fi, re) T).2.2.2.1) ((copyT (t, o, q, b, c, bc, n, ar, fi, re) T).2.2.2.2.1) ((copyT (t, o, q, b, c, bc, n, ar, fi, re) T).2.2.2.2.2.1) ((copyT (t, o, q, b, c, bc, n, ar, fi, re) T).2.2.2.2.2.2.1) ((copyT (t, o, q, b, c, bc, n, ar, fi, re) T).2.2.2.2.2.2.2.1) ((copyT (t, o, q, b, c, bc, n, ar, fi, re) T).2.2.2.2.2.2.2.2.1) ((copyT (t, o, q, b, c, bc, n, ar, fi, re) T).2.2.2.2.2.2.2.2.2)) (w1 := eW E2 y ((nightsT mm (copyT (t, o, q, b, c, bc, n, ar, fi, re) T)).1) ((nightsT mm (copyT (t, o, q, b, c, bc, n, ar, fi, re) T)).2.1) ((nightsT mm (copyT (t, o, q, b, c, bc, n, ar, fi, re) T)).2.2.1) ((nightsT mm (copyT (t, o, q, b, c, bc, n, ar, fi, re) T)).2.2.2.1) ((nightsT mm (copyT (t, o, q, b, c, bc, n, ar, fi, re) T)).2.2.2.2.1) ((nightsT mm (copyT (t, o, q, b, c, bc, n, ar, fi, re) T)).2.2.2.2.2.1) ((nightsT mm (copyT (t, o, q, b, c, bc, n, ar, fi, re) T)).2.2.2.2.2.2.1) ((nightsT mm (copyT (t, o, q, b, c, bc, n, ar, fi, re) T)).2.2.2.2.2.2.2.1) ((nightsT mm (copyT (t, o, q, b, c, bc, n, ar, fi, re) T)).2.2.2.2.2.2.2.2.1) ((nightsT mm (copyT (t, o, q, b, c, bc, n, ar, fi, re) T)).2.2.2.2.2.2.2.2.2)) hP hD rfl rfl rfl hP1 hfr
      have hTn2 : (nightsT mm (copyT (t, o, q, b, c, bc, n, ar, fi, re) T)).2.2.2.2.2.2.1 = n + mm := nightsE_n _ _ _ mm (nsT (copyT (t, o, q, b, c, bc, n, ar, fi, re) T))
      have hTc2 : (nightsT mm (copyT (t, o, q, b, c, bc, n, ar, fi, re) T)).2.2.2.2.1 = c := rfl
      refine lv_aload_n hx hb dX3_foresee_65 rfl (lv_at hl 0 rfl) ?_
      refine va_get (D := D) (ci := 3) (v := .ref (E2 0)) (C := RX3) (T := TX3) (N := 2) hx hb hts hinX3 hown hK hP (0) rfl rfl 1 (by decide) hf16 (fun _ h9 => h9) rfl dX3_foresee_66 ?_
      refine lv_iload_n hx hb dX3_foresee_69 rfl (lv_at hl 2 rfl) ?_
      refine zcRV (As := [.int 4]) (rest := []) (st1 := [.int ((heldN ((nightsT mm (copyT (t, o, q, b, c, bc, n, ar, fi, re) T)).2.2.1) ((nightsT mm (copyT (t, o, q, b, c, bc, n, ar, fi, re) T)).2.2.2.2.1)))]) ⟨hx, hb, hml, hown, hts⟩ (c_X1_fact_4 l D y E2 ((nightsT mm (copyT (t, o, q, b, c, bc, n, ar, fi, re) T)).1) ((nightsT mm (copyT (t, o, q, b, c, bc, n, ar, fi, re) T)).2.1) ((nightsT mm (copyT (t, o, q, b, c, bc, n, ar, fi, re) T)).2.2.1) ((nightsT mm (copyT (t, o, q, b, c, bc, n, ar, fi, re) T)).2.2.2.1) ((nightsT mm (copyT (t, o, q, b, c, bc, n, ar, fi, re) T)).2.2.2.2.1) ((nightsT mm (copyT (t, o, q, b, c, bc, n, ar, fi, re) T)).2.2.2.2.2.1) ((nightsT mm (copyT (t, o, q, b, c, bc, n, ar, fi, re) T)).2.2.2.2.2.2.1) ((nightsT mm (copyT (t, o, q, b, c, bc, n, ar, fi, re) T)).2.2.2.2.2.2.2.1) ((nightsT mm (copyT (t, o, q, b, c, bc, n, ar, fi, re) T)).2.2.2.2.2.2.2.2.1) ((nightsT mm (copyT (t, o, q, b, c, bc, n, ar, fi, re) T)).2.2.2.2.2.2.2.2.2)  (by omega) (by omega)) (cwV 1 hts gX3_foresee_X1_fact rfl rfl rfl (by decide +kernel) ⟨Nat.le_of_ble_eq_true rfl, Nat.le_of_ble_eq_true rfl⟩) hK (z_sub_P hP (fun z h => List.mem_append_right _ (List.mem_append_right _ h))) (ci := 1) (q0 := 0) rfl rfl rfl rfl hl.1 rfl (lv_room (Nat.le_of_ble_eq_true rfl)) dX3_foresee_70 ⟨Nat.le_of_ble_eq_true rfl, Nat.le_of_ble_eq_true rfl⟩ rfl ?_
      exact zM_i hx hb hr hlocks hS dX3_foresee_73 rfl hP
    · exact absurd (by decide) c2
  · exact absurd (zb_f c1) (by rw [hw]; decide)
set_option maxHeartbeats 4000000 in
set_option maxRecDepth 100000 in
theorem c_X3_foresee_6 (l : Launch) (D : va_G) (y : Nat → ClassId) (X0 : Nat) (E E2 : Nat → Nat) (t : Nat → Int32) (o : Nat → Nat) (q b : Fld) (c bc n : Nat) (ar fi re : Int32) (T : TS) (mm : Nat) (hw : inB 1 (nI mm) 56 = true) (hn : n + mm < 2147483648) (hc : c ≤ 6) (hbc : bc ≤ 5) (ho : ∀ i, i < c → o i < c) (h01 : ∀ i, i < c → q 6 i = 0 ∨ q 6 i = 1)  (sz : Nat) : zM l yX3_foresee wsX3_foresee { frames := 5, cells := 0, slots := 0, locals := 111 } D y [.ref X0, .int (nI mm), .int 6] (sW X0 E E2 y t o q b c bc n ar fi re T) sz (some (.int ((nightsT mm (copyT (t, o, q, b, c, bc, n, ar, fi, re) T)).2.2.2.2.2.2.2.1))) (sW X0 E E2 y t o q b c bc n ar fi re (nightsT mm (copyT (t, o, q, b, c, bc, n, ar, fi, re) T))) 0 0 := by
  refine zM.ofH (cc := cX3_foresee) (maxL := 3) (ret := (some .int)) (own := RX3) (by decide) rfl (Nat.le_of_ble_eq_true rfl) rfl ?_
  intro p e s m args below meth cd ls A H locs hx hb hr hml hown hts hlocks hP hK hD hA hS hl hin
  have hS0 := hS
  have hl : lv_has ls 3 [(0, .ref X0), (1, .int (nI mm)), (2, .int 6)] := hl
  have hf16 : (Cond.fieldLink RX3 16 "StakeWeirs" "trial" "LStakeWeirs$Estuary;").before args s = true := hts _ (by decide +kernel)
  have hinX3 : ∀ w ∈ wsX30, w ∈ wsX3_foresee := by decide +kernel
  have hf12 : (Cond.fieldLink RX3 12 "StakeWeirs" "now" "LStakeWeirs$Estuary;").before args s = true := hts _ (by decide +kernel)
  refine lv_iload_n hx hb dX3_foresee_0 rfl (lv_at hl 1 rfl) ?_
  refine lv_iconst (v := 1) hx hb dX3_foresee_1 (by decide) ?_
  refine lv_bipush (v := 56) hx hb dX3_foresee_2 (by decide) ?_
  refine zcRS (As := [.int (nI mm), .int 1, .int 56]) (rest := []) (st1 := [.int (zb (inB 1 (nI mm) 56))]) ⟨hx, hb, hml, hown, hts⟩ (c_X3_isWithin l D y (nI mm) 1 56) (cwS 3 hts gX3_foresee_X3_isWithin rfl rfl rfl (by decide +kernel) ⟨Nat.le_of_ble_eq_true rfl, Nat.le_of_ble_eq_true rfl⟩) hK va_P_nil rfl hl.1 rfl (lv_room (Nat.le_of_ble_eq_true rfl)) dX3_foresee_4 ⟨Nat.le_of_ble_eq_true rfl, Nat.le_of_ble_eq_true rfl⟩ rfl ?_
  refine lv_if_ne (tgt := 20) hx hb dX3_foresee_7 (by decide) (fun c1 => ?_) (fun c1 => ?_)
  · have c1 := c1
    refine lv_iload_n hx hb dX3_foresee_20 rfl (lv_at hl 2 rfl) ?_
    refine lv_iconst (v := 4) hx hb dX3_foresee_21 (by decide) ?_
    refine lv_icmp_eq (tgt := 46) hx hb dX3_foresee_22 (by decide) (fun c2 => ?_) (fun c2 => ?_)
    · exact absurd c2 (by decide)
    · have d2 := c2
      refine lv_iload_n hx hb dX3_foresee_25 rfl (lv_at hl 2 rfl) ?_
      refine lv_bipush (v := 6) hx hb dX3_foresee_26 (by decide) ?_
      refine lv_bipush (v := 9) hx hb dX3_foresee_28 (by decide) ?_
      refine zcRS (As := [.int 6, .int 6, .int 9]) (rest := []) (st1 := [.int (zb (inB 6 6 9))]) ⟨hx, hb, hml, hown, hts⟩ (c_X3_isWithin l D y 6 6 9) (cwS 3 hts gX3_foresee_X3_isWithin rfl rfl rfl (by decide +kernel) ⟨Nat.le_of_ble_eq_true rfl, Nat.le_of_ble_eq_true rfl⟩) hK va_P_nil rfl hl.1 rfl (lv_room (Nat.le_of_ble_eq_true rfl)) dX3_foresee_30 ⟨Nat.le_of_ble_eq_true rfl, Nat.le_of_ble_eq_true rfl⟩ rfl ?_
      refine lv_if_ne (tgt := 46) hx hb dX3_foresee_33 (by decide) (fun c3 => ?_) (fun c3 => ?_)
      · have c3 := c3
        refine lv_aload_n hx hb dX3_foresee_46 rfl (lv_at hl 0 rfl) ?_
        refine va_get (D := D) (ci := 3) (v := .ref (E2 0)) (C := RX3) (T := TX3) (N := 2) hx hb hts hinX3 hown hK hP (0) rfl rfl 1 (by decide) hf16 (fun _ h9 => h9) rfl dX3_foresee_47 ?_
        refine lv_aload_n hx hb dX3_foresee_50 rfl (lv_at hl 0 rfl) ?_
        refine va_get (D := D) (ci := 3) (v := .ref (E 0)) (C := RX3) (T := TX3) (N := 2) hx hb hts hinX3 hown hK hP (0) rfl rfl 0 (by decide) hf12 (fun _ h9 => h9) rfl dX3_foresee_51 ?_
        refine zcMV (As := [.ref (E 0)]) (rest := []) (st1 := []) (cells1 := 0) (slots1 := 0) ⟨hx, hb, hml, hown, hts⟩ (c_X1_copyFrom l D y E2 T.1 T.2.1 T.2.2.1 T.2.2.2.1 T.2.2.2.2.1 T.2.2.2.2.2.1 T.2.2.2.2.2.2.1 T.2.2.2.2.2.2.2.1 T.2.2.2.2.2.2.2.2.1 T.2.2.2.2.2.2.2.2.2 E t o q b c bc n ar fi re (by omega) (by omega) h01 _) (cwV 1 hts gX3_foresee_X1_copyFrom rfl rfl rfl (by decide +kernel) ⟨Nat.le_of_ble_eq_true rfl, Nat.le_of_ble_eq_true rfl⟩) hK (z_sub_P hP (fun z h => List.mem_append_right _ ((List.mem_append.mp h).elim (fun h => List.mem_append_right _ h) (fun h => List.mem_append_left _ h)))) (z_D_s (l1 := [(X0, .inr (3, [.ref (E 0), .ref (E2 0)]))]) hD) (ci := 1) (q0 := 0) rfl rfl rfl rfl hl.1 rfl (lv_room (Nat.le_of_ble_eq_true rfl)) dX3_foresee_54 hS (z_sub_F hD hS hA (fun z h => List.mem_append_right _ ((List.mem_append.mp h).elim (fun h => List.mem_append_right _ h) (fun h => List.mem_append_left _ h)))) ⟨Nat.le_of_ble_eq_true rfl, Nat.le_of_ble_eq_true rfl⟩ rfl rfl rfl (fun H locs hP1 hz hfr hS => ?_)
        obtain ⟨hP, hD⟩ := z_segS (ws1 := sW X0 E E2 y t o q b c bc n ar fi re (copyT (t, o, q, b, c, bc, n, ar, fi, re) T)) (l1 := [(X0, .inr (3, [.ref (E 0), .ref (E2 0)]))]) (a := eW E y t o q b c bc n ar fi re) (b := eW E2 y T.1 T.2.1 T.2.2.1 T.2.2.2.1 T.2.2.2.2.1 T.2.2.2.2.2.1 T.2.2.2.2.2.2.1 T.2.2.2.2.2.2.2.1 T.2.2.2.2.2.2.2.2.1 T.2.2.2.2.2.2.2.2.2) (b1 := eW E2 y ((copyT (t, o, q, b, c, bc, n, ar, fi, re) T).1) ((copyT (t, o, q, b, c, bc, n, ar, fi, re) T).2.1) ((copyT (t, o, q, b, c, bc, n, ar, fi, re) T).2.2.1) ((copyT (t, o, q, b, c, bc, n, ar, fi, re) T).2.2.2.1) ((copyT (t, o, q, b, c, bc, n, ar, fi, re) T).2.2.2.2.1) ((copyT (t, o, q, b, c, bc, n, ar, fi, re) T).2.2.2.2.2.1) ((copyT (t, o, q, b, c, bc, n, ar, fi, re) T).2.2.2.2.2.2.1) ((copyT (t, o, q, b, c, bc, n, ar, fi, re) T).2.2.2.2.2.2.2.1) ((copyT (t, o, q, b, c, bc, n, ar, fi, re) T).2.2.2.2.2.2.2.2.1) ((copyT (t, o, q, b, c, bc, n, ar, fi, re) T).2.2.2.2.2.2.2.2.2)) hP hD rfl rfl rfl hP1 hfr
        have hTc : (copyT (t, o, q, b, c, bc, n, ar, fi, re) T).2.2.2.2.1 = c := rfl
        have hTb : (copyT (t, o, q, b, c, bc, n, ar, fi, re) T).2.2.2.2.2.1 = bc := rfl
        have hTn : (copyT (t, o, q, b, c, bc, n, ar, fi, re) T).2.2.2.2.2.2.1 = n := rfl
        have hoT : ∀ i, i < (copyT (t, o, q, b, c, bc, n, ar, fi, re) T).2.2.2.2.1 → (copyT (t, o, q, b, c, bc, n, ar, fi, re) T).2.1 i < (copyT (t, o, q, b, c, bc, n, ar, fi, re) T).2.2.2.2.1 := hoTof hc ho
        refine lv_aload_n hx hb dX3_foresee_57 rfl (lv_at hl 0 rfl) ?_
        refine va_get (D := D) (ci := 3) (v := .ref (E2 0)) (C := RX3) (T := TX3) (N := 2) hx hb hts hinX3 hown hK hP (0) rfl rfl 1 (by decide) hf16 (fun _ h9 => h9) rfl dX3_foresee_58 ?_
        refine lv_iload_n hx hb dX3_foresee_61 rfl (lv_at hl 1 rfl) ?_
        refine zcMV (As := [.int (nI mm)]) (rest := []) (st1 := []) (cells1 := 0) (slots1 := 0) ⟨hx, hb, hml, hown, hts⟩ (c_X1_goThroughNights l D y E2 ((copyT (t, o, q, b, c, bc, n, ar, fi, re) T).1) ((copyT (t, o, q, b, c, bc, n, ar, fi, re) T).2.1) ((copyT (t, o, q, b, c, bc, n, ar, fi, re) T).2.2.1) ((copyT (t, o, q, b, c, bc, n, ar, fi, re) T).2.2.2.1) ((copyT (t, o, q, b, c, bc, n, ar, fi, re) T).2.2.2.2.1) ((copyT (t, o, q, b, c, bc, n, ar, fi, re) T).2.2.2.2.2.1) ((copyT (t, o, q, b, c, bc, n, ar, fi, re) T).2.2.2.2.2.2.1) ((copyT (t, o, q, b, c, bc, n, ar, fi, re) T).2.2.2.2.2.2.2.1) ((copyT (t, o, q, b, c, bc, n, ar, fi, re) T).2.2.2.2.2.2.2.2.1) ((copyT (t, o, q, b, c, bc, n, ar, fi, re) T).2.2.2.2.2.2.2.2.2) mm (by omega) (by omega) (by omega) hoT _) (cwV 1 hts gX3_foresee_X1_goThroughNights rfl rfl rfl (by decide +kernel) ⟨Nat.le_of_ble_eq_true rfl, Nat.le_of_ble_eq_true rfl⟩) hK (z_sub_P hP (fun z h => List.mem_append_right _ (List.mem_append_right _ h))) (z_D_e (l1 := [(X0, .inr (3, [.ref (E 0), .ref (E2 0)]))]) (l2 := eW E y t o q b c bc n ar fi re) hD) (ci := 1) (q0 := 0) rfl rfl rfl rfl hl.1 rfl (lv_room (Nat.le_of_ble_eq_true rfl)) dX3_foresee_62 hS (z_sub_F hD hS hA (fun z h => List.mem_append_right _ (List.mem_append_right _ h))) ⟨Nat.le_of_ble_eq_true rfl, Nat.le_of_ble_eq_true rfl⟩ rfl rfl rfl (fun H locs hP1 hz hfr hS => ?_)
        obtain ⟨hP, hD⟩ := z_segE (ws1 := sW X0 E E2 y t o q b c bc n ar fi re (nightsT mm (copyT (t, o, q, b, c, bc, n, ar, fi, re) T))) (l1 := [(X0, .inr (3, [.ref (E 0), .ref (E2 0)]))]) (l2 := eW E y t o q b c bc n ar fi re) (w := eW E2 y ((copyT (t, o, q, b, c, bc, n, ar, fi, re) T).1) ((copyT (t, o, q, b, c, bc, n, ar, fi, re) T).2.1) ((copyT (t, o, q, b, c, bc, n, ar, fi, re) T).2.2.1) ((copyT (t, o, q, b, c, bc, n, ar, fi, re) T).2.2.2.1) ((copyT (t, o, q, b, c, bc, n, ar, fi, re) T).2.2.2.2.1) ((copyT (t, o, q, b, c, bc, n, ar, fi, re) T).2.2.2.2.2.1) ((copyT (t, o, q, b, c, bc, n, ar, fi, re) T).2.2.2.2.2.2.1) ((copyT (t, o, q, b, c, bc, n, ar, fi, re) T).2.2.2.2.2.2.2.1) ((copyT (t, o, q, b, c, bc, n, ar, fi, re) T).2.2.2.2.2.2.2.2.1) ((copyT (t, o, q, b, c, bc, n, ar, fi, re) T).2.2.2.2.2.2.2.2.2)) (w1 := eW E2 y ((nightsT mm (copyT (t, o, q, b, c, bc, n, ar, fi, re) T)).1) ((nightsT mm (copyT (t, o, q, b, c, bc, n, ar, fi, re) T)).2.1) ((nightsT mm (copyT (t, o, q, b, c, bc, n, ar, fi, re) T)).2.2.1) ((nightsT mm (copyT (t, o, q, b, c, bc, n, ar, fi, re) T)).2.2.2.1) ((nightsT mm (copyT (t, o, q, b, c, bc, n, ar, fi, re) T)).2.2.2.2.1) ((nightsT mm (copyT (t, o, q, b, c, bc, n, ar, fi, re) T)).2.2.2.2.2.1) ((nightsT mm (copyT (t, o, q, b, c, bc, n, ar, fi, re) T)).2.2.2.2.2.2.1) ((nightsT mm (copyT (t, o, q, b, c, bc, n, ar, fi, re) T)).2.2.2.2.2.2.2.1) ((nightsT mm (copyT (t, o, q, b, c, bc, n, ar, fi, re) T)).2.2.2.2.2.2.2.2.1) ((nightsT mm (copyT (t, o, q, b, c, bc, n, ar, fi, re) T)).2.2.2.2.2.2.2.2.2)) hP hD rfl rfl rfl hP1 hfr
        have hTn2 : (nightsT mm (copyT (t, o, q, b, c, bc, n, ar, fi, re) T)).2.2.2.2.2.2.1 = n + mm := nightsE_n _ _ _ mm (nsT (copyT (t, o, q, b, c, bc, n, ar, fi, re) T))
        have hTc2 : (nightsT mm (copyT (t, o, q, b, c, bc, n, ar, fi, re) T)).2.2.2.2.1 = c := rfl
        refine lv_aload_n hx hb dX3_foresee_65 rfl (lv_at hl 0 rfl) ?_
        refine va_get (D := D) (ci := 3) (v := .ref (E2 0)) (C := RX3) (T := TX3) (N := 2) hx hb hts hinX3 hown hK hP (0) rfl rfl 1 (by decide) hf16 (fun _ h9 => h9) rfl dX3_foresee_66 ?_
        refine lv_iload_n hx hb dX3_foresee_69 rfl (lv_at hl 2 rfl) ?_
        refine zcRV (As := [.int 6]) (rest := []) (st1 := [.int ((nightsT mm (copyT (t, o, q, b, c, bc, n, ar, fi, re) T)).2.2.2.2.2.2.2.1)]) ⟨hx, hb, hml, hown, hts⟩ (c_X1_fact_6 l D y E2 ((nightsT mm (copyT (t, o, q, b, c, bc, n, ar, fi, re) T)).1) ((nightsT mm (copyT (t, o, q, b, c, bc, n, ar, fi, re) T)).2.1) ((nightsT mm (copyT (t, o, q, b, c, bc, n, ar, fi, re) T)).2.2.1) ((nightsT mm (copyT (t, o, q, b, c, bc, n, ar, fi, re) T)).2.2.2.1) ((nightsT mm (copyT (t, o, q, b, c, bc, n, ar, fi, re) T)).2.2.2.2.1) ((nightsT mm (copyT (t, o, q, b, c, bc, n, ar, fi, re) T)).2.2.2.2.2.1) ((nightsT mm (copyT (t, o, q, b, c, bc, n, ar, fi, re) T)).2.2.2.2.2.2.1) ((nightsT mm (copyT (t, o, q, b, c, bc, n, ar, fi, re) T)).2.2.2.2.2.2.2.1) ((nightsT mm (copyT (t, o, q, b, c, bc, n, ar, fi, re) T)).2.2.2.2.2.2.2.2.1) ((nightsT mm (copyT (t, o, q, b, c, bc, n, ar, fi, re) T)).2.2.2.2.2.2.2.2.2)  (by omega) (by omega)) (cwV 1 hts gX3_foresee_X1_fact rfl rfl rfl (by decide +kernel) ⟨Nat.le_of_ble_eq_true rfl, Nat.le_of_ble_eq_true rfl⟩) hK (z_sub_P hP (fun z h => List.mem_append_right _ (List.mem_append_right _ h))) (ci := 1) (q0 := 0) rfl rfl rfl rfl hl.1 rfl (lv_room (Nat.le_of_ble_eq_true rfl)) dX3_foresee_70 ⟨Nat.le_of_ble_eq_true rfl, Nat.le_of_ble_eq_true rfl⟩ rfl ?_
        exact zM_i hx hb hr hlocks hS dX3_foresee_73 rfl hP
      · exact absurd (zb_f c3) (by rw [(show inB 6 6 9 = true from by decide)]; decide)
  · exact absurd (zb_f c1) (by rw [hw]; decide)
set_option maxHeartbeats 4000000 in
set_option maxRecDepth 100000 in
theorem c_X3_foresee_7 (l : Launch) (D : va_G) (y : Nat → ClassId) (X0 : Nat) (E E2 : Nat → Nat) (t : Nat → Int32) (o : Nat → Nat) (q b : Fld) (c bc n : Nat) (ar fi re : Int32) (T : TS) (mm : Nat) (hw : inB 1 (nI mm) 56 = true) (hn : n + mm < 2147483648) (hc : c ≤ 6) (hbc : bc ≤ 5) (ho : ∀ i, i < c → o i < c) (h01 : ∀ i, i < c → q 6 i = 0 ∨ q 6 i = 1)  (sz : Nat) : zM l yX3_foresee wsX3_foresee { frames := 5, cells := 0, slots := 0, locals := 111 } D y [.ref X0, .int (nI mm), .int 7] (sW X0 E E2 y t o q b c bc n ar fi re T) sz (some (.int ((nightsT mm (copyT (t, o, q, b, c, bc, n, ar, fi, re) T)).2.2.2.2.2.2.2.2.1))) (sW X0 E E2 y t o q b c bc n ar fi re (nightsT mm (copyT (t, o, q, b, c, bc, n, ar, fi, re) T))) 0 0 := by
  refine zM.ofH (cc := cX3_foresee) (maxL := 3) (ret := (some .int)) (own := RX3) (by decide) rfl (Nat.le_of_ble_eq_true rfl) rfl ?_
  intro p e s m args below meth cd ls A H locs hx hb hr hml hown hts hlocks hP hK hD hA hS hl hin
  have hS0 := hS
  have hl : lv_has ls 3 [(0, .ref X0), (1, .int (nI mm)), (2, .int 7)] := hl
  have hf16 : (Cond.fieldLink RX3 16 "StakeWeirs" "trial" "LStakeWeirs$Estuary;").before args s = true := hts _ (by decide +kernel)
  have hinX3 : ∀ w ∈ wsX30, w ∈ wsX3_foresee := by decide +kernel
  have hf12 : (Cond.fieldLink RX3 12 "StakeWeirs" "now" "LStakeWeirs$Estuary;").before args s = true := hts _ (by decide +kernel)
  refine lv_iload_n hx hb dX3_foresee_0 rfl (lv_at hl 1 rfl) ?_
  refine lv_iconst (v := 1) hx hb dX3_foresee_1 (by decide) ?_
  refine lv_bipush (v := 56) hx hb dX3_foresee_2 (by decide) ?_
  refine zcRS (As := [.int (nI mm), .int 1, .int 56]) (rest := []) (st1 := [.int (zb (inB 1 (nI mm) 56))]) ⟨hx, hb, hml, hown, hts⟩ (c_X3_isWithin l D y (nI mm) 1 56) (cwS 3 hts gX3_foresee_X3_isWithin rfl rfl rfl (by decide +kernel) ⟨Nat.le_of_ble_eq_true rfl, Nat.le_of_ble_eq_true rfl⟩) hK va_P_nil rfl hl.1 rfl (lv_room (Nat.le_of_ble_eq_true rfl)) dX3_foresee_4 ⟨Nat.le_of_ble_eq_true rfl, Nat.le_of_ble_eq_true rfl⟩ rfl ?_
  refine lv_if_ne (tgt := 20) hx hb dX3_foresee_7 (by decide) (fun c1 => ?_) (fun c1 => ?_)
  · have c1 := c1
    refine lv_iload_n hx hb dX3_foresee_20 rfl (lv_at hl 2 rfl) ?_
    refine lv_iconst (v := 4) hx hb dX3_foresee_21 (by decide) ?_
    refine lv_icmp_eq (tgt := 46) hx hb dX3_foresee_22 (by decide) (fun c2 => ?_) (fun c2 => ?_)
    · exact absurd c2 (by decide)
    · have d2 := c2
      refine lv_iload_n hx hb dX3_foresee_25 rfl (lv_at hl 2 rfl) ?_
      refine lv_bipush (v := 6) hx hb dX3_foresee_26 (by decide) ?_
      refine lv_bipush (v := 9) hx hb dX3_foresee_28 (by decide) ?_
      refine zcRS (As := [.int 7, .int 6, .int 9]) (rest := []) (st1 := [.int (zb (inB 6 7 9))]) ⟨hx, hb, hml, hown, hts⟩ (c_X3_isWithin l D y 7 6 9) (cwS 3 hts gX3_foresee_X3_isWithin rfl rfl rfl (by decide +kernel) ⟨Nat.le_of_ble_eq_true rfl, Nat.le_of_ble_eq_true rfl⟩) hK va_P_nil rfl hl.1 rfl (lv_room (Nat.le_of_ble_eq_true rfl)) dX3_foresee_30 ⟨Nat.le_of_ble_eq_true rfl, Nat.le_of_ble_eq_true rfl⟩ rfl ?_
      refine lv_if_ne (tgt := 46) hx hb dX3_foresee_33 (by decide) (fun c3 => ?_) (fun c3 => ?_)
      · have c3 := c3
        refine lv_aload_n hx hb dX3_foresee_46 rfl (lv_at hl 0 rfl) ?_
        refine va_get (D := D) (ci := 3) (v := .ref (E2 0)) (C := RX3) (T := TX3) (N := 2) hx hb hts hinX3 hown hK hP (0) rfl rfl 1 (by decide) hf16 (fun _ h9 => h9) rfl dX3_foresee_47 ?_
        refine lv_aload_n hx hb dX3_foresee_50 rfl (lv_at hl 0 rfl) ?_
        refine va_get (D := D) (ci := 3) (v := .ref (E 0)) (C := RX3) (T := TX3) (N := 2) hx hb hts hinX3 hown hK hP (0) rfl rfl 0 (by decide) hf12 (fun _ h9 => h9) rfl dX3_foresee_51 ?_
        refine zcMV (As := [.ref (E 0)]) (rest := []) (st1 := []) (cells1 := 0) (slots1 := 0) ⟨hx, hb, hml, hown, hts⟩ (c_X1_copyFrom l D y E2 T.1 T.2.1 T.2.2.1 T.2.2.2.1 T.2.2.2.2.1 T.2.2.2.2.2.1 T.2.2.2.2.2.2.1 T.2.2.2.2.2.2.2.1 T.2.2.2.2.2.2.2.2.1 T.2.2.2.2.2.2.2.2.2 E t o q b c bc n ar fi re (by omega) (by omega) h01 _) (cwV 1 hts gX3_foresee_X1_copyFrom rfl rfl rfl (by decide +kernel) ⟨Nat.le_of_ble_eq_true rfl, Nat.le_of_ble_eq_true rfl⟩) hK (z_sub_P hP (fun z h => List.mem_append_right _ ((List.mem_append.mp h).elim (fun h => List.mem_append_right _ h) (fun h => List.mem_append_left _ h)))) (z_D_s (l1 := [(X0, .inr (3, [.ref (E 0), .ref (E2 0)]))]) hD) (ci := 1) (q0 := 0) rfl rfl rfl rfl hl.1 rfl (lv_room (Nat.le_of_ble_eq_true rfl)) dX3_foresee_54 hS (z_sub_F hD hS hA (fun z h => List.mem_append_right _ ((List.mem_append.mp h).elim (fun h => List.mem_append_right _ h) (fun h => List.mem_append_left _ h)))) ⟨Nat.le_of_ble_eq_true rfl, Nat.le_of_ble_eq_true rfl⟩ rfl rfl rfl (fun H locs hP1 hz hfr hS => ?_)
        obtain ⟨hP, hD⟩ := z_segS (ws1 := sW X0 E E2 y t o q b c bc n ar fi re (copyT (t, o, q, b, c, bc, n, ar, fi, re) T)) (l1 := [(X0, .inr (3, [.ref (E 0), .ref (E2 0)]))]) (a := eW E y t o q b c bc n ar fi re) (b := eW E2 y T.1 T.2.1 T.2.2.1 T.2.2.2.1 T.2.2.2.2.1 T.2.2.2.2.2.1 T.2.2.2.2.2.2.1 T.2.2.2.2.2.2.2.1 T.2.2.2.2.2.2.2.2.1 T.2.2.2.2.2.2.2.2.2) (b1 := eW E2 y ((copyT (t, o, q, b, c, bc, n, ar, fi, re) T).1) ((copyT (t, o, q, b, c, bc, n, ar, fi, re) T).2.1) ((copyT (t, o, q, b, c, bc, n, ar, fi, re) T).2.2.1) ((copyT (t, o, q, b, c, bc, n, ar, fi, re) T).2.2.2.1) ((copyT (t, o, q, b, c, bc, n, ar, fi, re) T).2.2.2.2.1) ((copyT (t, o, q, b, c, bc, n, ar, fi, re) T).2.2.2.2.2.1) ((copyT (t, o, q, b, c, bc, n, ar, fi, re) T).2.2.2.2.2.2.1) ((copyT (t, o, q, b, c, bc, n, ar, fi, re) T).2.2.2.2.2.2.2.1) ((copyT (t, o, q, b, c, bc, n, ar, fi, re) T).2.2.2.2.2.2.2.2.1) ((copyT (t, o, q, b, c, bc, n, ar, fi, re) T).2.2.2.2.2.2.2.2.2)) hP hD rfl rfl rfl hP1 hfr
        have hTc : (copyT (t, o, q, b, c, bc, n, ar, fi, re) T).2.2.2.2.1 = c := rfl
        have hTb : (copyT (t, o, q, b, c, bc, n, ar, fi, re) T).2.2.2.2.2.1 = bc := rfl
        have hTn : (copyT (t, o, q, b, c, bc, n, ar, fi, re) T).2.2.2.2.2.2.1 = n := rfl
        have hoT : ∀ i, i < (copyT (t, o, q, b, c, bc, n, ar, fi, re) T).2.2.2.2.1 → (copyT (t, o, q, b, c, bc, n, ar, fi, re) T).2.1 i < (copyT (t, o, q, b, c, bc, n, ar, fi, re) T).2.2.2.2.1 := hoTof hc ho
        refine lv_aload_n hx hb dX3_foresee_57 rfl (lv_at hl 0 rfl) ?_
        refine va_get (D := D) (ci := 3) (v := .ref (E2 0)) (C := RX3) (T := TX3) (N := 2) hx hb hts hinX3 hown hK hP (0) rfl rfl 1 (by decide) hf16 (fun _ h9 => h9) rfl dX3_foresee_58 ?_
        refine lv_iload_n hx hb dX3_foresee_61 rfl (lv_at hl 1 rfl) ?_
        refine zcMV (As := [.int (nI mm)]) (rest := []) (st1 := []) (cells1 := 0) (slots1 := 0) ⟨hx, hb, hml, hown, hts⟩ (c_X1_goThroughNights l D y E2 ((copyT (t, o, q, b, c, bc, n, ar, fi, re) T).1) ((copyT (t, o, q, b, c, bc, n, ar, fi, re) T).2.1) ((copyT (t, o, q, b, c, bc, n, ar, fi, re) T).2.2.1) ((copyT (t, o, q, b, c, bc, n, ar, fi, re) T).2.2.2.1) ((copyT (t, o, q, b, c, bc, n, ar, fi, re) T).2.2.2.2.1) ((copyT (t, o, q, b, c, bc, n, ar, fi, re) T).2.2.2.2.2.1) ((copyT (t, o, q, b, c, bc, n, ar, fi, re) T).2.2.2.2.2.2.1) ((copyT (t, o, q, b, c, bc, n, ar, fi, re) T).2.2.2.2.2.2.2.1) ((copyT (t, o, q, b, c, bc, n, ar, fi, re) T).2.2.2.2.2.2.2.2.1) ((copyT (t, o, q, b, c, bc, n, ar, fi, re) T).2.2.2.2.2.2.2.2.2) mm (by omega) (by omega) (by omega) hoT _) (cwV 1 hts gX3_foresee_X1_goThroughNights rfl rfl rfl (by decide +kernel) ⟨Nat.le_of_ble_eq_true rfl, Nat.le_of_ble_eq_true rfl⟩) hK (z_sub_P hP (fun z h => List.mem_append_right _ (List.mem_append_right _ h))) (z_D_e (l1 := [(X0, .inr (3, [.ref (E 0), .ref (E2 0)]))]) (l2 := eW E y t o q b c bc n ar fi re) hD) (ci := 1) (q0 := 0) rfl rfl rfl rfl hl.1 rfl (lv_room (Nat.le_of_ble_eq_true rfl)) dX3_foresee_62 hS (z_sub_F hD hS hA (fun z h => List.mem_append_right _ (List.mem_append_right _ h))) ⟨Nat.le_of_ble_eq_true rfl, Nat.le_of_ble_eq_true rfl⟩ rfl rfl rfl (fun H locs hP1 hz hfr hS => ?_)
        obtain ⟨hP, hD⟩ := z_segE (ws1 := sW X0 E E2 y t o q b c bc n ar fi re (nightsT mm (copyT (t, o, q, b, c, bc, n, ar, fi, re) T))) (l1 := [(X0, .inr (3, [.ref (E 0), .ref (E2 0)]))]) (l2 := eW E y t o q b c bc n ar fi re) (w := eW E2 y ((copyT (t, o, q, b, c, bc, n, ar, fi, re) T).1) ((copyT (t, o, q, b, c, bc, n, ar, fi, re) T).2.1) ((copyT (t, o, q, b, c, bc, n, ar, fi, re) T).2.2.1) ((copyT (t, o, q, b, c, bc, n, ar, fi, re) T).2.2.2.1) ((copyT (t, o, q, b, c, bc, n, ar, fi, re) T).2.2.2.2.1) ((copyT (t, o, q, b, c, bc, n, ar, fi, re) T).2.2.2.2.2.1) ((copyT (t, o, q, b, c, bc, n, ar, fi, re) T).2.2.2.2.2.2.1) ((copyT (t, o, q, b, c, bc, n, ar, fi, re) T).2.2.2.2.2.2.2.1) ((copyT (t, o, q, b, c, bc, n, ar, fi, re) T).2.2.2.2.2.2.2.2.1) ((copyT (t, o, q, b, c, bc, n, ar, fi, re) T).2.2.2.2.2.2.2.2.2)) (w1 := eW E2 y ((nightsT mm (copyT (t, o, q, b, c, bc, n, ar, fi, re) T)).1) ((nightsT mm (copyT (t, o, q, b, c, bc, n, ar, fi, re) T)).2.1) ((nightsT mm (copyT (t, o, q, b, c, bc, n, ar, fi, re) T)).2.2.1) ((nightsT mm (copyT (t, o, q, b, c, bc, n, ar, fi, re) T)).2.2.2.1) ((nightsT mm (copyT (t, o, q, b, c, bc, n, ar, fi, re) T)).2.2.2.2.1) ((nightsT mm (copyT (t, o, q, b, c, bc, n, ar, fi, re) T)).2.2.2.2.2.1) ((nightsT mm (copyT (t, o, q, b, c, bc, n, ar, fi, re) T)).2.2.2.2.2.2.1) ((nightsT mm (copyT (t, o, q, b, c, bc, n, ar, fi, re) T)).2.2.2.2.2.2.2.1) ((nightsT mm (copyT (t, o, q, b, c, bc, n, ar, fi, re) T)).2.2.2.2.2.2.2.2.1) ((nightsT mm (copyT (t, o, q, b, c, bc, n, ar, fi, re) T)).2.2.2.2.2.2.2.2.2)) hP hD rfl rfl rfl hP1 hfr
        have hTn2 : (nightsT mm (copyT (t, o, q, b, c, bc, n, ar, fi, re) T)).2.2.2.2.2.2.1 = n + mm := nightsE_n _ _ _ mm (nsT (copyT (t, o, q, b, c, bc, n, ar, fi, re) T))
        have hTc2 : (nightsT mm (copyT (t, o, q, b, c, bc, n, ar, fi, re) T)).2.2.2.2.1 = c := rfl
        refine lv_aload_n hx hb dX3_foresee_65 rfl (lv_at hl 0 rfl) ?_
        refine va_get (D := D) (ci := 3) (v := .ref (E2 0)) (C := RX3) (T := TX3) (N := 2) hx hb hts hinX3 hown hK hP (0) rfl rfl 1 (by decide) hf16 (fun _ h9 => h9) rfl dX3_foresee_66 ?_
        refine lv_iload_n hx hb dX3_foresee_69 rfl (lv_at hl 2 rfl) ?_
        refine zcRV (As := [.int 7]) (rest := []) (st1 := [.int ((nightsT mm (copyT (t, o, q, b, c, bc, n, ar, fi, re) T)).2.2.2.2.2.2.2.2.1)]) ⟨hx, hb, hml, hown, hts⟩ (c_X1_fact_7 l D y E2 ((nightsT mm (copyT (t, o, q, b, c, bc, n, ar, fi, re) T)).1) ((nightsT mm (copyT (t, o, q, b, c, bc, n, ar, fi, re) T)).2.1) ((nightsT mm (copyT (t, o, q, b, c, bc, n, ar, fi, re) T)).2.2.1) ((nightsT mm (copyT (t, o, q, b, c, bc, n, ar, fi, re) T)).2.2.2.1) ((nightsT mm (copyT (t, o, q, b, c, bc, n, ar, fi, re) T)).2.2.2.2.1) ((nightsT mm (copyT (t, o, q, b, c, bc, n, ar, fi, re) T)).2.2.2.2.2.1) ((nightsT mm (copyT (t, o, q, b, c, bc, n, ar, fi, re) T)).2.2.2.2.2.2.1) ((nightsT mm (copyT (t, o, q, b, c, bc, n, ar, fi, re) T)).2.2.2.2.2.2.2.1) ((nightsT mm (copyT (t, o, q, b, c, bc, n, ar, fi, re) T)).2.2.2.2.2.2.2.2.1) ((nightsT mm (copyT (t, o, q, b, c, bc, n, ar, fi, re) T)).2.2.2.2.2.2.2.2.2)  (by omega) (by omega)) (cwV 1 hts gX3_foresee_X1_fact rfl rfl rfl (by decide +kernel) ⟨Nat.le_of_ble_eq_true rfl, Nat.le_of_ble_eq_true rfl⟩) hK (z_sub_P hP (fun z h => List.mem_append_right _ (List.mem_append_right _ h))) (ci := 1) (q0 := 0) rfl rfl rfl rfl hl.1 rfl (lv_room (Nat.le_of_ble_eq_true rfl)) dX3_foresee_70 ⟨Nat.le_of_ble_eq_true rfl, Nat.le_of_ble_eq_true rfl⟩ rfl ?_
        exact zM_i hx hb hr hlocks hS dX3_foresee_73 rfl hP
      · exact absurd (zb_f c3) (by rw [(show inB 6 7 9 = true from by decide)]; decide)
  · exact absurd (zb_f c1) (by rw [hw]; decide)
set_option maxHeartbeats 4000000 in
set_option maxRecDepth 100000 in
theorem c_X3_foresee_8 (l : Launch) (D : va_G) (y : Nat → ClassId) (X0 : Nat) (E E2 : Nat → Nat) (t : Nat → Int32) (o : Nat → Nat) (q b : Fld) (c bc n : Nat) (ar fi re : Int32) (T : TS) (mm : Nat) (hw : inB 1 (nI mm) 56 = true) (hn : n + mm < 2147483648) (hc : c ≤ 6) (hbc : bc ≤ 5) (ho : ∀ i, i < c → o i < c) (h01 : ∀ i, i < c → q 6 i = 0 ∨ q 6 i = 1)  (sz : Nat) : zM l yX3_foresee wsX3_foresee { frames := 5, cells := 0, slots := 0, locals := 111 } D y [.ref X0, .int (nI mm), .int 8] (sW X0 E E2 y t o q b c bc n ar fi re T) sz (some (.int ((nightsT mm (copyT (t, o, q, b, c, bc, n, ar, fi, re) T)).2.2.2.2.2.2.2.2.2))) (sW X0 E E2 y t o q b c bc n ar fi re (nightsT mm (copyT (t, o, q, b, c, bc, n, ar, fi, re) T))) 0 0 := by
  refine zM.ofH (cc := cX3_foresee) (maxL := 3) (ret := (some .int)) (own := RX3) (by decide) rfl (Nat.le_of_ble_eq_true rfl) rfl ?_
  intro p e s m args below meth cd ls A H locs hx hb hr hml hown hts hlocks hP hK hD hA hS hl hin
  have hS0 := hS
  have hl : lv_has ls 3 [(0, .ref X0), (1, .int (nI mm)), (2, .int 8)] := hl
  have hf16 : (Cond.fieldLink RX3 16 "StakeWeirs" "trial" "LStakeWeirs$Estuary;").before args s = true := hts _ (by decide +kernel)
  have hinX3 : ∀ w ∈ wsX30, w ∈ wsX3_foresee := by decide +kernel
  have hf12 : (Cond.fieldLink RX3 12 "StakeWeirs" "now" "LStakeWeirs$Estuary;").before args s = true := hts _ (by decide +kernel)
  refine lv_iload_n hx hb dX3_foresee_0 rfl (lv_at hl 1 rfl) ?_
  refine lv_iconst (v := 1) hx hb dX3_foresee_1 (by decide) ?_
  refine lv_bipush (v := 56) hx hb dX3_foresee_2 (by decide) ?_
  refine zcRS (As := [.int (nI mm), .int 1, .int 56]) (rest := []) (st1 := [.int (zb (inB 1 (nI mm) 56))]) ⟨hx, hb, hml, hown, hts⟩ (c_X3_isWithin l D y (nI mm) 1 56) (cwS 3 hts gX3_foresee_X3_isWithin rfl rfl rfl (by decide +kernel) ⟨Nat.le_of_ble_eq_true rfl, Nat.le_of_ble_eq_true rfl⟩) hK va_P_nil rfl hl.1 rfl (lv_room (Nat.le_of_ble_eq_true rfl)) dX3_foresee_4 ⟨Nat.le_of_ble_eq_true rfl, Nat.le_of_ble_eq_true rfl⟩ rfl ?_
  refine lv_if_ne (tgt := 20) hx hb dX3_foresee_7 (by decide) (fun c1 => ?_) (fun c1 => ?_)
  · have c1 := c1
    refine lv_iload_n hx hb dX3_foresee_20 rfl (lv_at hl 2 rfl) ?_
    refine lv_iconst (v := 4) hx hb dX3_foresee_21 (by decide) ?_
    refine lv_icmp_eq (tgt := 46) hx hb dX3_foresee_22 (by decide) (fun c2 => ?_) (fun c2 => ?_)
    · exact absurd c2 (by decide)
    · have d2 := c2
      refine lv_iload_n hx hb dX3_foresee_25 rfl (lv_at hl 2 rfl) ?_
      refine lv_bipush (v := 6) hx hb dX3_foresee_26 (by decide) ?_
      refine lv_bipush (v := 9) hx hb dX3_foresee_28 (by decide) ?_
      refine zcRS (As := [.int 8, .int 6, .int 9]) (rest := []) (st1 := [.int (zb (inB 6 8 9))]) ⟨hx, hb, hml, hown, hts⟩ (c_X3_isWithin l D y 8 6 9) (cwS 3 hts gX3_foresee_X3_isWithin rfl rfl rfl (by decide +kernel) ⟨Nat.le_of_ble_eq_true rfl, Nat.le_of_ble_eq_true rfl⟩) hK va_P_nil rfl hl.1 rfl (lv_room (Nat.le_of_ble_eq_true rfl)) dX3_foresee_30 ⟨Nat.le_of_ble_eq_true rfl, Nat.le_of_ble_eq_true rfl⟩ rfl ?_
      refine lv_if_ne (tgt := 46) hx hb dX3_foresee_33 (by decide) (fun c3 => ?_) (fun c3 => ?_)
      · have c3 := c3
        refine lv_aload_n hx hb dX3_foresee_46 rfl (lv_at hl 0 rfl) ?_
        refine va_get (D := D) (ci := 3) (v := .ref (E2 0)) (C := RX3) (T := TX3) (N := 2) hx hb hts hinX3 hown hK hP (0) rfl rfl 1 (by decide) hf16 (fun _ h9 => h9) rfl dX3_foresee_47 ?_
        refine lv_aload_n hx hb dX3_foresee_50 rfl (lv_at hl 0 rfl) ?_
        refine va_get (D := D) (ci := 3) (v := .ref (E 0)) (C := RX3) (T := TX3) (N := 2) hx hb hts hinX3 hown hK hP (0) rfl rfl 0 (by decide) hf12 (fun _ h9 => h9) rfl dX3_foresee_51 ?_
        refine zcMV (As := [.ref (E 0)]) (rest := []) (st1 := []) (cells1 := 0) (slots1 := 0) ⟨hx, hb, hml, hown, hts⟩ (c_X1_copyFrom l D y E2 T.1 T.2.1 T.2.2.1 T.2.2.2.1 T.2.2.2.2.1 T.2.2.2.2.2.1 T.2.2.2.2.2.2.1 T.2.2.2.2.2.2.2.1 T.2.2.2.2.2.2.2.2.1 T.2.2.2.2.2.2.2.2.2 E t o q b c bc n ar fi re (by omega) (by omega) h01 _) (cwV 1 hts gX3_foresee_X1_copyFrom rfl rfl rfl (by decide +kernel) ⟨Nat.le_of_ble_eq_true rfl, Nat.le_of_ble_eq_true rfl⟩) hK (z_sub_P hP (fun z h => List.mem_append_right _ ((List.mem_append.mp h).elim (fun h => List.mem_append_right _ h) (fun h => List.mem_append_left _ h)))) (z_D_s (l1 := [(X0, .inr (3, [.ref (E 0), .ref (E2 0)]))]) hD) (ci := 1) (q0 := 0) rfl rfl rfl rfl hl.1 rfl (lv_room (Nat.le_of_ble_eq_true rfl)) dX3_foresee_54 hS (z_sub_F hD hS hA (fun z h => List.mem_append_right _ ((List.mem_append.mp h).elim (fun h => List.mem_append_right _ h) (fun h => List.mem_append_left _ h)))) ⟨Nat.le_of_ble_eq_true rfl, Nat.le_of_ble_eq_true rfl⟩ rfl rfl rfl (fun H locs hP1 hz hfr hS => ?_)
        obtain ⟨hP, hD⟩ := z_segS (ws1 := sW X0 E E2 y t o q b c bc n ar fi re (copyT (t, o, q, b, c, bc, n, ar, fi, re) T)) (l1 := [(X0, .inr (3, [.ref (E 0), .ref (E2 0)]))]) (a := eW E y t o q b c bc n ar fi re) (b := eW E2 y T.1 T.2.1 T.2.2.1 T.2.2.2.1 T.2.2.2.2.1 T.2.2.2.2.2.1 T.2.2.2.2.2.2.1 T.2.2.2.2.2.2.2.1 T.2.2.2.2.2.2.2.2.1 T.2.2.2.2.2.2.2.2.2) (b1 := eW E2 y ((copyT (t, o, q, b, c, bc, n, ar, fi, re) T).1) ((copyT (t, o, q, b, c, bc, n, ar, fi, re) T).2.1) ((copyT (t, o, q, b, c, bc, n, ar, fi, re) T).2.2.1) ((copyT (t, o, q, b, c, bc, n, ar, fi, re) T).2.2.2.1) ((copyT (t, o, q, b, c, bc, n, ar, fi, re) T).2.2.2.2.1) ((copyT (t, o, q, b, c, bc, n, ar, fi, re) T).2.2.2.2.2.1) ((copyT (t, o, q, b, c, bc, n, ar, fi, re) T).2.2.2.2.2.2.1) ((copyT (t, o, q, b, c, bc, n, ar, fi, re) T).2.2.2.2.2.2.2.1) ((copyT (t, o, q, b, c, bc, n, ar, fi, re) T).2.2.2.2.2.2.2.2.1) ((copyT (t, o, q, b, c, bc, n, ar, fi, re) T).2.2.2.2.2.2.2.2.2)) hP hD rfl rfl rfl hP1 hfr
        have hTc : (copyT (t, o, q, b, c, bc, n, ar, fi, re) T).2.2.2.2.1 = c := rfl
        have hTb : (copyT (t, o, q, b, c, bc, n, ar, fi, re) T).2.2.2.2.2.1 = bc := rfl
        have hTn : (copyT (t, o, q, b, c, bc, n, ar, fi, re) T).2.2.2.2.2.2.1 = n := rfl
        have hoT : ∀ i, i < (copyT (t, o, q, b, c, bc, n, ar, fi, re) T).2.2.2.2.1 → (copyT (t, o, q, b, c, bc, n, ar, fi, re) T).2.1 i < (copyT (t, o, q, b, c, bc, n, ar, fi, re) T).2.2.2.2.1 := hoTof hc ho
        refine lv_aload_n hx hb dX3_foresee_57 rfl (lv_at hl 0 rfl) ?_
        refine va_get (D := D) (ci := 3) (v := .ref (E2 0)) (C := RX3) (T := TX3) (N := 2) hx hb hts hinX3 hown hK hP (0) rfl rfl 1 (by decide) hf16 (fun _ h9 => h9) rfl dX3_foresee_58 ?_
        refine lv_iload_n hx hb dX3_foresee_61 rfl (lv_at hl 1 rfl) ?_
        refine zcMV (As := [.int (nI mm)]) (rest := []) (st1 := []) (cells1 := 0) (slots1 := 0) ⟨hx, hb, hml, hown, hts⟩ (c_X1_goThroughNights l D y E2 ((copyT (t, o, q, b, c, bc, n, ar, fi, re) T).1) ((copyT (t, o, q, b, c, bc, n, ar, fi, re) T).2.1) ((copyT (t, o, q, b, c, bc, n, ar, fi, re) T).2.2.1) ((copyT (t, o, q, b, c, bc, n, ar, fi, re) T).2.2.2.1) ((copyT (t, o, q, b, c, bc, n, ar, fi, re) T).2.2.2.2.1) ((copyT (t, o, q, b, c, bc, n, ar, fi, re) T).2.2.2.2.2.1) ((copyT (t, o, q, b, c, bc, n, ar, fi, re) T).2.2.2.2.2.2.1) ((copyT (t, o, q, b, c, bc, n, ar, fi, re) T).2.2.2.2.2.2.2.1) ((copyT (t, o, q, b, c, bc, n, ar, fi, re) T).2.2.2.2.2.2.2.2.1) ((copyT (t, o, q, b, c, bc, n, ar, fi, re) T).2.2.2.2.2.2.2.2.2) mm (by omega) (by omega) (by omega) hoT _) (cwV 1 hts gX3_foresee_X1_goThroughNights rfl rfl rfl (by decide +kernel) ⟨Nat.le_of_ble_eq_true rfl, Nat.le_of_ble_eq_true rfl⟩) hK (z_sub_P hP (fun z h => List.mem_append_right _ (List.mem_append_right _ h))) (z_D_e (l1 := [(X0, .inr (3, [.ref (E 0), .ref (E2 0)]))]) (l2 := eW E y t o q b c bc n ar fi re) hD) (ci := 1) (q0 := 0) rfl rfl rfl rfl hl.1 rfl (lv_room (Nat.le_of_ble_eq_true rfl)) dX3_foresee_62 hS (z_sub_F hD hS hA (fun z h => List.mem_append_right _ (List.mem_append_right _ h))) ⟨Nat.le_of_ble_eq_true rfl, Nat.le_of_ble_eq_true rfl⟩ rfl rfl rfl (fun H locs hP1 hz hfr hS => ?_)
        obtain ⟨hP, hD⟩ := z_segE (ws1 := sW X0 E E2 y t o q b c bc n ar fi re (nightsT mm (copyT (t, o, q, b, c, bc, n, ar, fi, re) T))) (l1 := [(X0, .inr (3, [.ref (E 0), .ref (E2 0)]))]) (l2 := eW E y t o q b c bc n ar fi re) (w := eW E2 y ((copyT (t, o, q, b, c, bc, n, ar, fi, re) T).1) ((copyT (t, o, q, b, c, bc, n, ar, fi, re) T).2.1) ((copyT (t, o, q, b, c, bc, n, ar, fi, re) T).2.2.1) ((copyT (t, o, q, b, c, bc, n, ar, fi, re) T).2.2.2.1) ((copyT (t, o, q, b, c, bc, n, ar, fi, re) T).2.2.2.2.1) ((copyT (t, o, q, b, c, bc, n, ar, fi, re) T).2.2.2.2.2.1) ((copyT (t, o, q, b, c, bc, n, ar, fi, re) T).2.2.2.2.2.2.1) ((copyT (t, o, q, b, c, bc, n, ar, fi, re) T).2.2.2.2.2.2.2.1) ((copyT (t, o, q, b, c, bc, n, ar, fi, re) T).2.2.2.2.2.2.2.2.1) ((copyT (t, o, q, b, c, bc, n, ar, fi, re) T).2.2.2.2.2.2.2.2.2)) (w1 := eW E2 y ((nightsT mm (copyT (t, o, q, b, c, bc, n, ar, fi, re) T)).1) ((nightsT mm (copyT (t, o, q, b, c, bc, n, ar, fi, re) T)).2.1) ((nightsT mm (copyT (t, o, q, b, c, bc, n, ar, fi, re) T)).2.2.1) ((nightsT mm (copyT (t, o, q, b, c, bc, n, ar, fi, re) T)).2.2.2.1) ((nightsT mm (copyT (t, o, q, b, c, bc, n, ar, fi, re) T)).2.2.2.2.1) ((nightsT mm (copyT (t, o, q, b, c, bc, n, ar, fi, re) T)).2.2.2.2.2.1) ((nightsT mm (copyT (t, o, q, b, c, bc, n, ar, fi, re) T)).2.2.2.2.2.2.1) ((nightsT mm (copyT (t, o, q, b, c, bc, n, ar, fi, re) T)).2.2.2.2.2.2.2.1) ((nightsT mm (copyT (t, o, q, b, c, bc, n, ar, fi, re) T)).2.2.2.2.2.2.2.2.1) ((nightsT mm (copyT (t, o, q, b, c, bc, n, ar, fi, re) T)).2.2.2.2.2.2.2.2.2)) hP hD rfl rfl rfl hP1 hfr
        have hTn2 : (nightsT mm (copyT (t, o, q, b, c, bc, n, ar, fi, re) T)).2.2.2.2.2.2.1 = n + mm := nightsE_n _ _ _ mm (nsT (copyT (t, o, q, b, c, bc, n, ar, fi, re) T))
        have hTc2 : (nightsT mm (copyT (t, o, q, b, c, bc, n, ar, fi, re) T)).2.2.2.2.1 = c := rfl
        refine lv_aload_n hx hb dX3_foresee_65 rfl (lv_at hl 0 rfl) ?_
        refine va_get (D := D) (ci := 3) (v := .ref (E2 0)) (C := RX3) (T := TX3) (N := 2) hx hb hts hinX3 hown hK hP (0) rfl rfl 1 (by decide) hf16 (fun _ h9 => h9) rfl dX3_foresee_66 ?_
        refine lv_iload_n hx hb dX3_foresee_69 rfl (lv_at hl 2 rfl) ?_
        refine zcRV (As := [.int 8]) (rest := []) (st1 := [.int ((nightsT mm (copyT (t, o, q, b, c, bc, n, ar, fi, re) T)).2.2.2.2.2.2.2.2.2)]) ⟨hx, hb, hml, hown, hts⟩ (c_X1_fact_8 l D y E2 ((nightsT mm (copyT (t, o, q, b, c, bc, n, ar, fi, re) T)).1) ((nightsT mm (copyT (t, o, q, b, c, bc, n, ar, fi, re) T)).2.1) ((nightsT mm (copyT (t, o, q, b, c, bc, n, ar, fi, re) T)).2.2.1) ((nightsT mm (copyT (t, o, q, b, c, bc, n, ar, fi, re) T)).2.2.2.1) ((nightsT mm (copyT (t, o, q, b, c, bc, n, ar, fi, re) T)).2.2.2.2.1) ((nightsT mm (copyT (t, o, q, b, c, bc, n, ar, fi, re) T)).2.2.2.2.2.1) ((nightsT mm (copyT (t, o, q, b, c, bc, n, ar, fi, re) T)).2.2.2.2.2.2.1) ((nightsT mm (copyT (t, o, q, b, c, bc, n, ar, fi, re) T)).2.2.2.2.2.2.2.1) ((nightsT mm (copyT (t, o, q, b, c, bc, n, ar, fi, re) T)).2.2.2.2.2.2.2.2.1) ((nightsT mm (copyT (t, o, q, b, c, bc, n, ar, fi, re) T)).2.2.2.2.2.2.2.2.2)  (by omega) (by omega)) (cwV 1 hts gX3_foresee_X1_fact rfl rfl rfl (by decide +kernel) ⟨Nat.le_of_ble_eq_true rfl, Nat.le_of_ble_eq_true rfl⟩) hK (z_sub_P hP (fun z h => List.mem_append_right _ (List.mem_append_right _ h))) (ci := 1) (q0 := 0) rfl rfl rfl rfl hl.1 rfl (lv_room (Nat.le_of_ble_eq_true rfl)) dX3_foresee_70 ⟨Nat.le_of_ble_eq_true rfl, Nat.le_of_ble_eq_true rfl⟩ rfl ?_
        exact zM_i hx hb hr hlocks hS dX3_foresee_73 rfl hP
      · exact absurd (zb_f c3) (by rw [(show inB 6 8 9 = true from by decide)]; decide)
  · exact absurd (zb_f c1) (by rw [hw]; decide)
set_option maxHeartbeats 4000000 in
set_option maxRecDepth 100000 in
theorem c_X3_foresee_9 (l : Launch) (D : va_G) (y : Nat → ClassId) (X0 : Nat) (E E2 : Nat → Nat) (t : Nat → Int32) (o : Nat → Nat) (q b : Fld) (c bc n : Nat) (ar fi re : Int32) (T : TS) (mm : Nat) (hw : inB 1 (nI mm) 56 = true) (hn : n + mm < 2147483648) (hc : c ≤ 6) (hbc : bc ≤ 5) (ho : ∀ i, i < c → o i < c) (h01 : ∀ i, i < c → q 6 i = 0 ∨ q 6 i = 1)  (sz : Nat) : zM l yX3_foresee wsX3_foresee { frames := 5, cells := 0, slots := 0, locals := 111 } D y [.ref X0, .int (nI mm), .int 9] (sW X0 E E2 y t o q b c bc n ar fi re T) sz (some (.int ((eelsN ((nightsT mm (copyT (t, o, q, b, c, bc, n, ar, fi, re) T)).2.2.1) ((nightsT mm (copyT (t, o, q, b, c, bc, n, ar, fi, re) T)).2.2.2.2.1))))) (sW X0 E E2 y t o q b c bc n ar fi re (nightsT mm (copyT (t, o, q, b, c, bc, n, ar, fi, re) T))) 0 0 := by
  refine zM.ofH (cc := cX3_foresee) (maxL := 3) (ret := (some .int)) (own := RX3) (by decide) rfl (Nat.le_of_ble_eq_true rfl) rfl ?_
  intro p e s m args below meth cd ls A H locs hx hb hr hml hown hts hlocks hP hK hD hA hS hl hin
  have hS0 := hS
  have hl : lv_has ls 3 [(0, .ref X0), (1, .int (nI mm)), (2, .int 9)] := hl
  have hf16 : (Cond.fieldLink RX3 16 "StakeWeirs" "trial" "LStakeWeirs$Estuary;").before args s = true := hts _ (by decide +kernel)
  have hinX3 : ∀ w ∈ wsX30, w ∈ wsX3_foresee := by decide +kernel
  have hf12 : (Cond.fieldLink RX3 12 "StakeWeirs" "now" "LStakeWeirs$Estuary;").before args s = true := hts _ (by decide +kernel)
  refine lv_iload_n hx hb dX3_foresee_0 rfl (lv_at hl 1 rfl) ?_
  refine lv_iconst (v := 1) hx hb dX3_foresee_1 (by decide) ?_
  refine lv_bipush (v := 56) hx hb dX3_foresee_2 (by decide) ?_
  refine zcRS (As := [.int (nI mm), .int 1, .int 56]) (rest := []) (st1 := [.int (zb (inB 1 (nI mm) 56))]) ⟨hx, hb, hml, hown, hts⟩ (c_X3_isWithin l D y (nI mm) 1 56) (cwS 3 hts gX3_foresee_X3_isWithin rfl rfl rfl (by decide +kernel) ⟨Nat.le_of_ble_eq_true rfl, Nat.le_of_ble_eq_true rfl⟩) hK va_P_nil rfl hl.1 rfl (lv_room (Nat.le_of_ble_eq_true rfl)) dX3_foresee_4 ⟨Nat.le_of_ble_eq_true rfl, Nat.le_of_ble_eq_true rfl⟩ rfl ?_
  refine lv_if_ne (tgt := 20) hx hb dX3_foresee_7 (by decide) (fun c1 => ?_) (fun c1 => ?_)
  · have c1 := c1
    refine lv_iload_n hx hb dX3_foresee_20 rfl (lv_at hl 2 rfl) ?_
    refine lv_iconst (v := 4) hx hb dX3_foresee_21 (by decide) ?_
    refine lv_icmp_eq (tgt := 46) hx hb dX3_foresee_22 (by decide) (fun c2 => ?_) (fun c2 => ?_)
    · exact absurd c2 (by decide)
    · have d2 := c2
      refine lv_iload_n hx hb dX3_foresee_25 rfl (lv_at hl 2 rfl) ?_
      refine lv_bipush (v := 6) hx hb dX3_foresee_26 (by decide) ?_
      refine lv_bipush (v := 9) hx hb dX3_foresee_28 (by decide) ?_
      refine zcRS (As := [.int 9, .int 6, .int 9]) (rest := []) (st1 := [.int (zb (inB 6 9 9))]) ⟨hx, hb, hml, hown, hts⟩ (c_X3_isWithin l D y 9 6 9) (cwS 3 hts gX3_foresee_X3_isWithin rfl rfl rfl (by decide +kernel) ⟨Nat.le_of_ble_eq_true rfl, Nat.le_of_ble_eq_true rfl⟩) hK va_P_nil rfl hl.1 rfl (lv_room (Nat.le_of_ble_eq_true rfl)) dX3_foresee_30 ⟨Nat.le_of_ble_eq_true rfl, Nat.le_of_ble_eq_true rfl⟩ rfl ?_
      refine lv_if_ne (tgt := 46) hx hb dX3_foresee_33 (by decide) (fun c3 => ?_) (fun c3 => ?_)
      · have c3 := c3
        refine lv_aload_n hx hb dX3_foresee_46 rfl (lv_at hl 0 rfl) ?_
        refine va_get (D := D) (ci := 3) (v := .ref (E2 0)) (C := RX3) (T := TX3) (N := 2) hx hb hts hinX3 hown hK hP (0) rfl rfl 1 (by decide) hf16 (fun _ h9 => h9) rfl dX3_foresee_47 ?_
        refine lv_aload_n hx hb dX3_foresee_50 rfl (lv_at hl 0 rfl) ?_
        refine va_get (D := D) (ci := 3) (v := .ref (E 0)) (C := RX3) (T := TX3) (N := 2) hx hb hts hinX3 hown hK hP (0) rfl rfl 0 (by decide) hf12 (fun _ h9 => h9) rfl dX3_foresee_51 ?_
        refine zcMV (As := [.ref (E 0)]) (rest := []) (st1 := []) (cells1 := 0) (slots1 := 0) ⟨hx, hb, hml, hown, hts⟩ (c_X1_copyFrom l D y E2 T.1 T.2.1 T.2.2.1 T.2.2.2.1 T.2.2.2.2.1 T.2.2.2.2.2.1 T.2.2.2.2.2.2.1 T.2.2.2.2.2.2.2.1 T.2.2.2.2.2.2.2.2.1 T.2.2.2.2.2.2.2.2.2 E t o q b c bc n ar fi re (by omega) (by omega) h01 _) (cwV 1 hts gX3_foresee_X1_copyFrom rfl rfl rfl (by decide +kernel) ⟨Nat.le_of_ble_eq_true rfl, Nat.le_of_ble_eq_true rfl⟩) hK (z_sub_P hP (fun z h => List.mem_append_right _ ((List.mem_append.mp h).elim (fun h => List.mem_append_right _ h) (fun h => List.mem_append_left _ h)))) (z_D_s (l1 := [(X0, .inr (3, [.ref (E 0), .ref (E2 0)]))]) hD) (ci := 1) (q0 := 0) rfl rfl rfl rfl hl.1 rfl (lv_room (Nat.le_of_ble_eq_true rfl)) dX3_foresee_54 hS (z_sub_F hD hS hA (fun z h => List.mem_append_right _ ((List.mem_append.mp h).elim (fun h => List.mem_append_right _ h) (fun h => List.mem_append_left _ h)))) ⟨Nat.le_of_ble_eq_true rfl, Nat.le_of_ble_eq_true rfl⟩ rfl rfl rfl (fun H locs hP1 hz hfr hS => ?_)
        obtain ⟨hP, hD⟩ := z_segS (ws1 := sW X0 E E2 y t o q b c bc n ar fi re (copyT (t, o, q, b, c, bc, n, ar, fi, re) T)) (l1 := [(X0, .inr (3, [.ref (E 0), .ref (E2 0)]))]) (a := eW E y t o q b c bc n ar fi re) (b := eW E2 y T.1 T.2.1 T.2.2.1 T.2.2.2.1 T.2.2.2.2.1 T.2.2.2.2.2.1 T.2.2.2.2.2.2.1 T.2.2.2.2.2.2.2.1 T.2.2.2.2.2.2.2.2.1 T.2.2.2.2.2.2.2.2.2) (b1 := eW E2 y ((copyT (t, o, q, b, c, bc, n, ar, fi, re) T).1) ((copyT (t, o, q, b, c, bc, n, ar, fi, re) T).2.1) ((copyT (t, o, q, b, c, bc, n, ar, fi, re) T).2.2.1) ((copyT (t, o, q, b, c, bc, n, ar, fi, re) T).2.2.2.1) ((copyT (t, o, q, b, c, bc, n, ar, fi, re) T).2.2.2.2.1) ((copyT (t, o, q, b, c, bc, n, ar, fi, re) T).2.2.2.2.2.1) ((copyT (t, o, q, b, c, bc, n, ar, fi, re) T).2.2.2.2.2.2.1) ((copyT (t, o, q, b, c, bc, n, ar, fi, re) T).2.2.2.2.2.2.2.1) ((copyT (t, o, q, b, c, bc, n, ar, fi, re) T).2.2.2.2.2.2.2.2.1) ((copyT (t, o, q, b, c, bc, n, ar, fi, re) T).2.2.2.2.2.2.2.2.2)) hP hD rfl rfl rfl hP1 hfr
        have hTc : (copyT (t, o, q, b, c, bc, n, ar, fi, re) T).2.2.2.2.1 = c := rfl
        have hTb : (copyT (t, o, q, b, c, bc, n, ar, fi, re) T).2.2.2.2.2.1 = bc := rfl
        have hTn : (copyT (t, o, q, b, c, bc, n, ar, fi, re) T).2.2.2.2.2.2.1 = n := rfl
        have hoT : ∀ i, i < (copyT (t, o, q, b, c, bc, n, ar, fi, re) T).2.2.2.2.1 → (copyT (t, o, q, b, c, bc, n, ar, fi, re) T).2.1 i < (copyT (t, o, q, b, c, bc, n, ar, fi, re) T).2.2.2.2.1 := hoTof hc ho
        refine lv_aload_n hx hb dX3_foresee_57 rfl (lv_at hl 0 rfl) ?_
        refine va_get (D := D) (ci := 3) (v := .ref (E2 0)) (C := RX3) (T := TX3) (N := 2) hx hb hts hinX3 hown hK hP (0) rfl rfl 1 (by decide) hf16 (fun _ h9 => h9) rfl dX3_foresee_58 ?_
        refine lv_iload_n hx hb dX3_foresee_61 rfl (lv_at hl 1 rfl) ?_
        refine zcMV (As := [.int (nI mm)]) (rest := []) (st1 := []) (cells1 := 0) (slots1 := 0) ⟨hx, hb, hml, hown, hts⟩ (c_X1_goThroughNights l D y E2 ((copyT (t, o, q, b, c, bc, n, ar, fi, re) T).1) ((copyT (t, o, q, b, c, bc, n, ar, fi, re) T).2.1) ((copyT (t, o, q, b, c, bc, n, ar, fi, re) T).2.2.1) ((copyT (t, o, q, b, c, bc, n, ar, fi, re) T).2.2.2.1) ((copyT (t, o, q, b, c, bc, n, ar, fi, re) T).2.2.2.2.1) ((copyT (t, o, q, b, c, bc, n, ar, fi, re) T).2.2.2.2.2.1) ((copyT (t, o, q, b, c, bc, n, ar, fi, re) T).2.2.2.2.2.2.1) ((copyT (t, o, q, b, c, bc, n, ar, fi, re) T).2.2.2.2.2.2.2.1) ((copyT (t, o, q, b, c, bc, n, ar, fi, re) T).2.2.2.2.2.2.2.2.1) ((copyT (t, o, q, b, c, bc, n, ar, fi, re) T).2.2.2.2.2.2.2.2.2) mm (by omega) (by omega) (by omega) hoT _) (cwV 1 hts gX3_foresee_X1_goThroughNights rfl rfl rfl (by decide +kernel) ⟨Nat.le_of_ble_eq_true rfl, Nat.le_of_ble_eq_true rfl⟩) hK (z_sub_P hP (fun z h => List.mem_append_right _ (List.mem_append_right _ h))) (z_D_e (l1 := [(X0, .inr (3, [.ref (E 0), .ref (E2 0)]))]) (l2 := eW E y t o q b c bc n ar fi re) hD) (ci := 1) (q0 := 0) rfl rfl rfl rfl hl.1 rfl (lv_room (Nat.le_of_ble_eq_true rfl)) dX3_foresee_62 hS (z_sub_F hD hS hA (fun z h => List.mem_append_right _ (List.mem_append_right _ h))) ⟨Nat.le_of_ble_eq_true rfl, Nat.le_of_ble_eq_true rfl⟩ rfl rfl rfl (fun H locs hP1 hz hfr hS => ?_)
        obtain ⟨hP, hD⟩ := z_segE (ws1 := sW X0 E E2 y t o q b c bc n ar fi re (nightsT mm (copyT (t, o, q, b, c, bc, n, ar, fi, re) T))) (l1 := [(X0, .inr (3, [.ref (E 0), .ref (E2 0)]))]) (l2 := eW E y t o q b c bc n ar fi re) (w := eW E2 y ((copyT (t, o, q, b, c, bc, n, ar, fi, re) T).1) ((copyT (t, o, q, b, c, bc, n, ar, fi, re) T).2.1) ((copyT (t, o, q, b, c, bc, n, ar, fi, re) T).2.2.1) ((copyT (t, o, q, b, c, bc, n, ar, fi, re) T).2.2.2.1) ((copyT (t, o, q, b, c, bc, n, ar, fi, re) T).2.2.2.2.1) ((copyT (t, o, q, b, c, bc, n, ar, fi, re) T).2.2.2.2.2.1) ((copyT (t, o, q, b, c, bc, n, ar, fi, re) T).2.2.2.2.2.2.1) ((copyT (t, o, q, b, c, bc, n, ar, fi, re) T).2.2.2.2.2.2.2.1) ((copyT (t, o, q, b, c, bc, n, ar, fi, re) T).2.2.2.2.2.2.2.2.1) ((copyT (t, o, q, b, c, bc, n, ar, fi, re) T).2.2.2.2.2.2.2.2.2)) (w1 := eW E2 y ((nightsT mm (copyT (t, o, q, b, c, bc, n, ar, fi, re) T)).1) ((nightsT mm (copyT (t, o, q, b, c, bc, n, ar, fi, re) T)).2.1) ((nightsT mm (copyT (t, o, q, b, c, bc, n, ar, fi, re) T)).2.2.1) ((nightsT mm (copyT (t, o, q, b, c, bc, n, ar, fi, re) T)).2.2.2.1) ((nightsT mm (copyT (t, o, q, b, c, bc, n, ar, fi, re) T)).2.2.2.2.1) ((nightsT mm (copyT (t, o, q, b, c, bc, n, ar, fi, re) T)).2.2.2.2.2.1) ((nightsT mm (copyT (t, o, q, b, c, bc, n, ar, fi, re) T)).2.2.2.2.2.2.1) ((nightsT mm (copyT (t, o, q, b, c, bc, n, ar, fi, re) T)).2.2.2.2.2.2.2.1) ((nightsT mm (copyT (t, o, q, b, c, bc, n, ar, fi, re) T)).2.2.2.2.2.2.2.2.1) ((nightsT mm (copyT (t, o, q, b, c, bc, n, ar, fi, re) T)).2.2.2.2.2.2.2.2.2)) hP hD rfl rfl rfl hP1 hfr
        have hTn2 : (nightsT mm (copyT (t, o, q, b, c, bc, n, ar, fi, re) T)).2.2.2.2.2.2.1 = n + mm := nightsE_n _ _ _ mm (nsT (copyT (t, o, q, b, c, bc, n, ar, fi, re) T))
        have hTc2 : (nightsT mm (copyT (t, o, q, b, c, bc, n, ar, fi, re) T)).2.2.2.2.1 = c := rfl
        refine lv_aload_n hx hb dX3_foresee_65 rfl (lv_at hl 0 rfl) ?_
        refine va_get (D := D) (ci := 3) (v := .ref (E2 0)) (C := RX3) (T := TX3) (N := 2) hx hb hts hinX3 hown hK hP (0) rfl rfl 1 (by decide) hf16 (fun _ h9 => h9) rfl dX3_foresee_66 ?_
        refine lv_iload_n hx hb dX3_foresee_69 rfl (lv_at hl 2 rfl) ?_
        refine zcRV (As := [.int 9]) (rest := []) (st1 := [.int ((eelsN ((nightsT mm (copyT (t, o, q, b, c, bc, n, ar, fi, re) T)).2.2.1) ((nightsT mm (copyT (t, o, q, b, c, bc, n, ar, fi, re) T)).2.2.2.2.1)))]) ⟨hx, hb, hml, hown, hts⟩ (c_X1_fact_9 l D y E2 ((nightsT mm (copyT (t, o, q, b, c, bc, n, ar, fi, re) T)).1) ((nightsT mm (copyT (t, o, q, b, c, bc, n, ar, fi, re) T)).2.1) ((nightsT mm (copyT (t, o, q, b, c, bc, n, ar, fi, re) T)).2.2.1) ((nightsT mm (copyT (t, o, q, b, c, bc, n, ar, fi, re) T)).2.2.2.1) ((nightsT mm (copyT (t, o, q, b, c, bc, n, ar, fi, re) T)).2.2.2.2.1) ((nightsT mm (copyT (t, o, q, b, c, bc, n, ar, fi, re) T)).2.2.2.2.2.1) ((nightsT mm (copyT (t, o, q, b, c, bc, n, ar, fi, re) T)).2.2.2.2.2.2.1) ((nightsT mm (copyT (t, o, q, b, c, bc, n, ar, fi, re) T)).2.2.2.2.2.2.2.1) ((nightsT mm (copyT (t, o, q, b, c, bc, n, ar, fi, re) T)).2.2.2.2.2.2.2.2.1) ((nightsT mm (copyT (t, o, q, b, c, bc, n, ar, fi, re) T)).2.2.2.2.2.2.2.2.2)  (by omega) (by omega)) (cwV 1 hts gX3_foresee_X1_fact rfl rfl rfl (by decide +kernel) ⟨Nat.le_of_ble_eq_true rfl, Nat.le_of_ble_eq_true rfl⟩) hK (z_sub_P hP (fun z h => List.mem_append_right _ (List.mem_append_right _ h))) (ci := 1) (q0 := 0) rfl rfl rfl rfl hl.1 rfl (lv_room (Nat.le_of_ble_eq_true rfl)) dX3_foresee_70 ⟨Nat.le_of_ble_eq_true rfl, Nat.le_of_ble_eq_true rfl⟩ rfl ?_
        exact zM_i hx hb hr hlocks hS dX3_foresee_73 rfl hP
      · exact absurd (zb_f c3) (by rw [(show inB 6 9 9 = true from by decide)]; decide)
  · exact absurd (zb_f c1) (by rw [hw]; decide)
set_option maxHeartbeats 4000000 in
set_option maxRecDepth 100000 in
theorem c_X3_foresee_T1 (l : Launch) (hl0 : l.stackTraces = false) (D : va_G) (y : Nat → ClassId) (X0 : Nat) (E E2 : Nat → Nat) (t : Nat → Int32) (o : Nat → Nat) (q b : Fld) (c bc n : Nat) (ar fi re : Int32) (T : TS) (x z : Int32) (hw : inB 1 x 56 = false) : zT l yX3_foresee wsX3_foresee { frames := 6, cells := 1, slots := 6, locals := 90 } D y [.ref X0, .int x, .int z] (sW X0 E E2 y t o q b c bc n ar fi re T) "java/lang/IllegalArgumentException" := by
  refine zT.of (cc := cX3_foresee) (maxL := 3) (ret := (some .int)) (own := RX3) (by decide) rfl (Nat.le_of_ble_eq_true rfl) rfl ?_
  intro p e s m args below meth cd ls hx hb hr hml hown hts hlocks hP hK hT0 hout hl
  have hl : lv_has ls 3 [(0, .ref X0), (1, .int x), (2, .int z)] := hl
  have hkl23 : (Cond.classLink RX3 23 "java/lang/IllegalArgumentException").before args s = true := hts _ (by decide +kernel)
  have hini23 : (Cond.initialized "java/lang/IllegalArgumentException").before args s = true := hts _ (by decide +kernel)
  refine lv_iload_n hx hb dX3_foresee_0 rfl (lv_at hl 1 rfl) ?_
  refine lv_iconst (v := 1) hx hb dX3_foresee_1 (by decide) ?_
  refine lv_bipush (v := 56) hx hb dX3_foresee_2 (by decide) ?_
  refine zcRS (As := [.int x, .int 1, .int 56]) (rest := []) (st1 := [.int (zb (inB 1 x 56))]) ⟨hx, hb, hml, hown, hts⟩ (c_X3_isWithin l D y x 1 56) (cwS 3 hts gX3_foresee_X3_isWithin rfl rfl rfl (by decide +kernel) ⟨Nat.le_of_ble_eq_true rfl, Nat.le_of_ble_eq_true rfl⟩) hK va_P_nil rfl hl.1 rfl (lv_room (Nat.le_of_ble_eq_true rfl)) dX3_foresee_4 ⟨Nat.le_of_ble_eq_true rfl, Nat.le_of_ble_eq_true rfl⟩ rfl ?_
  refine lv_if_ne (tgt := 20) hx hb dX3_foresee_7 (by decide) (fun c1 => ?_) (fun c1 => ?_)
  · exact absurd (zb_t c1) (by rw [hw]; decide)
  · have c1 := c1
    exact z_thr (cls := "java/lang/IllegalArgumentException") (text := "nights is not 1 to 56") (ik := 23) (is := 167) (ic := 27) hx hb hl0 hown (by decide +kernel) hkl23 hini23 hts (fun x h => List.mem_cons_of_mem _ (List.mem_append_left _ (List.mem_append_right _ h))) zbad_27 (zgoodO_27 23) hT0 (by decide) hl.1 hml dX3_foresee_10 dX3_foresee_13 dX3_foresee_14 dX3_foresee_16 dX3_foresee_19 hout (Nat.le_of_ble_eq_true rfl) (Nat.le_of_ble_eq_true rfl) (Nat.le_of_ble_eq_true rfl) (Nat.le_of_ble_eq_true rfl) hlocks
set_option maxHeartbeats 4000000 in
set_option maxRecDepth 100000 in
theorem c_X3_foresee_T2 (l : Launch) (hl0 : l.stackTraces = false) (D : va_G) (y : Nat → ClassId) (X0 : Nat) (E E2 : Nat → Nat) (t : Nat → Int32) (o : Nat → Nat) (q b : Fld) (c bc n : Nat) (ar fi re : Int32) (T : TS) (x z : Int32) (hi : inB 1 x 56 = true) (h4 : ¬ z = 4) (hw : inB 6 z 9 = false) : zT l yX3_foresee wsX3_foresee { frames := 6, cells := 1, slots := 6, locals := 90 } D y [.ref X0, .int x, .int z] (sW X0 E E2 y t o q b c bc n ar fi re T) "java/lang/IndexOutOfBoundsException" := by
  refine zT.of (cc := cX3_foresee) (maxL := 3) (ret := (some .int)) (own := RX3) (by decide) rfl (Nat.le_of_ble_eq_true rfl) rfl ?_
  intro p e s m args below meth cd ls hx hb hr hml hown hts hlocks hP hK hT0 hout hl
  have hl : lv_has ls 3 [(0, .ref X0), (1, .int x), (2, .int z)] := hl
  have hkl47 : (Cond.classLink RX3 47 "java/lang/IndexOutOfBoundsException").before args s = true := hts _ (by decide +kernel)
  have hini47 : (Cond.initialized "java/lang/IndexOutOfBoundsException").before args s = true := hts _ (by decide +kernel)
  refine lv_iload_n hx hb dX3_foresee_0 rfl (lv_at hl 1 rfl) ?_
  refine lv_iconst (v := 1) hx hb dX3_foresee_1 (by decide) ?_
  refine lv_bipush (v := 56) hx hb dX3_foresee_2 (by decide) ?_
  refine zcRS (As := [.int x, .int 1, .int 56]) (rest := []) (st1 := [.int (zb (inB 1 x 56))]) ⟨hx, hb, hml, hown, hts⟩ (c_X3_isWithin l D y x 1 56) (cwS 3 hts gX3_foresee_X3_isWithin rfl rfl rfl (by decide +kernel) ⟨Nat.le_of_ble_eq_true rfl, Nat.le_of_ble_eq_true rfl⟩) hK va_P_nil rfl hl.1 rfl (lv_room (Nat.le_of_ble_eq_true rfl)) dX3_foresee_4 ⟨Nat.le_of_ble_eq_true rfl, Nat.le_of_ble_eq_true rfl⟩ rfl ?_
  refine lv_if_ne (tgt := 20) hx hb dX3_foresee_7 (by decide) (fun c1 => ?_) (fun c1 => ?_)
  · have c1 := c1
    refine lv_iload_n hx hb dX3_foresee_20 rfl (lv_at hl 2 rfl) ?_
    refine lv_iconst (v := 4) hx hb dX3_foresee_21 (by decide) ?_
    refine lv_icmp_eq (tgt := 46) hx hb dX3_foresee_22 (by decide) (fun c2 => ?_) (fun c2 => ?_)
    · exact absurd c2 h4
    · have d2 := c2
      refine lv_iload_n hx hb dX3_foresee_25 rfl (lv_at hl 2 rfl) ?_
      refine lv_bipush (v := 6) hx hb dX3_foresee_26 (by decide) ?_
      refine lv_bipush (v := 9) hx hb dX3_foresee_28 (by decide) ?_
      refine zcRS (As := [.int z, .int 6, .int 9]) (rest := []) (st1 := [.int (zb (inB 6 z 9))]) ⟨hx, hb, hml, hown, hts⟩ (c_X3_isWithin l D y z 6 9) (cwS 3 hts gX3_foresee_X3_isWithin rfl rfl rfl (by decide +kernel) ⟨Nat.le_of_ble_eq_true rfl, Nat.le_of_ble_eq_true rfl⟩) hK va_P_nil rfl hl.1 rfl (lv_room (Nat.le_of_ble_eq_true rfl)) dX3_foresee_30 ⟨Nat.le_of_ble_eq_true rfl, Nat.le_of_ble_eq_true rfl⟩ rfl ?_
      refine lv_if_ne (tgt := 46) hx hb dX3_foresee_33 (by decide) (fun c3 => ?_) (fun c3 => ?_)
      · exact absurd (zb_t c3) (by rw [hw]; decide)
      · have c3 := c3
        exact z_thr (cls := "java/lang/IndexOutOfBoundsException") (text := "what is not 4, 6, 7, 8 or 9") (ik := 47) (is := 169) (ic := 51) hx hb hl0 hown (by decide +kernel) hkl47 hini47 hts (fun x h => List.mem_cons_of_mem _ (List.mem_append_right _ h)) zbad_51 (zgoodO_51 47) hT0 (by decide) hl.1 hml dX3_foresee_36 dX3_foresee_39 dX3_foresee_40 dX3_foresee_42 dX3_foresee_45 hout (Nat.le_of_ble_eq_true rfl) (Nat.le_of_ble_eq_true rfl) (Nat.le_of_ble_eq_true rfl) (Nat.le_of_ble_eq_true rfl) hlocks
  · exact absurd (zb_f c1) (by rw [hi]; decide)
set_option maxHeartbeats 4000000 in
set_option maxRecDepth 100000 in
theorem c_X3_arrives (l : Launch) (D : va_G) (y : Nat → ClassId) (X0 : Nat) (E E2 : Nat → Nat) (t : Nat → Int32) (o : Nat → Nat) (q b : Fld) (c bc n : Nat) (ar fi re : Int32) (T : TS) (j : Nat) (hj : j < bc) (hn : n + 100 < 2147483648) (hc : c ≤ 6) (hbc : bc ≤ 5) (ho : ∀ i, i < c → o i < c) (h01 : ∀ i, i < c → q 6 i = 0 ∨ q 6 i = 1)  (sz : Nat) : zM l yX3_arrives wsX3_arrives { frames := 5, cells := 0, slots := 0, locals := 111 } D y [.ref X0, .int (nI j)] (sW X0 E E2 y t o q b c bc n ar fi re T) sz (some (.int (nI (firstF (fun i => underE (itT i (copyT (t, o, q, b, c, bc, n, ar, fi, re) T)).2.2.2.1 (itT i (copyT (t, o, q, b, c, bc, n, ar, fi, re) T)).2.2.2.2.2.1 (b 0 j)) 40)))) (sW X0 E E2 y t o q b c bc n ar fi re (itT (firstF (fun i => underE (itT i (copyT (t, o, q, b, c, bc, n, ar, fi, re) T)).2.2.2.1 (itT i (copyT (t, o, q, b, c, bc, n, ar, fi, re) T)).2.2.2.2.2.1 (b 0 j)) 40) (copyT (t, o, q, b, c, bc, n, ar, fi, re) T))) 0 0 := by
  refine zM.ofH (cc := cX3_arrives) (maxL := 4) (ret := (some .int)) (own := RX3) (by decide) rfl (Nat.le_of_ble_eq_true rfl) rfl ?_
  intro p e s m args below meth cd ls A H locs hx hb hr hml hown hts hlocks hP hK hD hA hS hl hin
  have hS0 := hS
  have hl : lv_has ls 4 [(0, .ref X0), (1, .int (nI j))] := hl
  have hf12 : (Cond.fieldLink RX3 12 "StakeWeirs" "now" "LStakeWeirs$Estuary;").before args s = true := hts _ (by decide +kernel)
  have hinX3 : ∀ w ∈ wsX30, w ∈ wsX3_arrives := by decide +kernel
  have hf16 : (Cond.fieldLink RX3 16 "StakeWeirs" "trial" "LStakeWeirs$Estuary;").before args s = true := hts _ (by decide +kernel)
  have hf158 : (Cond.fieldLink RX3 158 "StakeWeirs$Barge" "ticket" "I").before args s = true := hts _ (by decide +kernel)
  have hinX0 : ∀ w ∈ wsX00, w ∈ wsX3_arrives := by decide +kernel
  refine lv_aload_n hx hb dX3_arrives_0 rfl (lv_at hl 0 rfl) ?_
  refine va_get (D := D) (ci := 3) (v := .ref (E 0)) (C := RX3) (T := TX3) (N := 2) hx hb hts hinX3 hown hK hP (0) rfl rfl 0 (by decide) hf12 (fun _ h9 => h9) rfl dX3_arrives_1 ?_
  refine lv_iload_n hx hb dX3_arrives_4 rfl (lv_at hl 1 rfl) ?_
  refine zcRV (As := [.int (nI j)]) (rest := []) (st1 := [.ref (E (11 + j))]) ⟨hx, hb, hml, hown, hts⟩ (c_X1_bargeAt l D y E t o q b c bc n ar fi re j (by omega) (by omega)) (cwV 1 hts gX3_arrives_X1_bargeAt rfl rfl rfl (by decide +kernel) ⟨Nat.le_of_ble_eq_true rfl, Nat.le_of_ble_eq_true rfl⟩) hK (z_sub_P hP (fun z h => List.mem_append_right _ (List.mem_append_left _ h))) (ci := 1) (q0 := 0) rfl rfl rfl rfl hl.1 rfl (lv_room (Nat.le_of_ble_eq_true rfl)) dX3_arrives_5 ⟨Nat.le_of_ble_eq_true rfl, Nat.le_of_ble_eq_true rfl⟩ rfl ?_
  refine lv_astore_n (lv' := [(2, .ref (E (11 + j))), (0, .ref X0), (1, .int (nI j))]) hx hb dX3_arrives_8 rfl hl (by decide) rfl (fun ls hl => ?_)
  refine lv_aload_n hx hb dX3_arrives_9 rfl (lv_at hl 0 rfl) ?_
  refine lv_ifnonnull (tgt := 23) hx hb dX3_arrives_10 (by decide) ?_
  refine lv_aload_n hx hb dX3_arrives_23 rfl (lv_at hl 1 rfl) ?_
  refine va_get (D := D) (ci := 3) (v := .ref (E2 0)) (C := RX3) (T := TX3) (N := 2) hx hb hts hinX3 hown hK hP (0) rfl rfl 1 (by decide) hf16 (fun _ h9 => h9) rfl dX3_arrives_24 ?_
  refine lv_aload_n hx hb dX3_arrives_27 rfl (lv_at hl 1 rfl) ?_
  refine va_get (D := D) (ci := 3) (v := .ref (E 0)) (C := RX3) (T := TX3) (N := 2) hx hb hts hinX3 hown hK hP (0) rfl rfl 0 (by decide) hf12 (fun _ h9 => h9) rfl dX3_arrives_28 ?_
  refine zcMV (As := [.ref (E 0)]) (rest := []) (st1 := []) (cells1 := 0) (slots1 := 0) ⟨hx, hb, hml, hown, hts⟩ (c_X1_copyFrom l D y E2 T.1 T.2.1 T.2.2.1 T.2.2.2.1 T.2.2.2.2.1 T.2.2.2.2.2.1 T.2.2.2.2.2.2.1 T.2.2.2.2.2.2.2.1 T.2.2.2.2.2.2.2.2.1 T.2.2.2.2.2.2.2.2.2 E t o q b c bc n ar fi re (by omega) (by omega) h01 _) (cwV 1 hts gX3_arrives_X1_copyFrom rfl rfl rfl (by decide +kernel) ⟨Nat.le_of_ble_eq_true rfl, Nat.le_of_ble_eq_true rfl⟩) hK (z_sub_P hP (fun z h => List.mem_append_right _ ((List.mem_append.mp h).elim (fun h => List.mem_append_right _ h) (fun h => List.mem_append_left _ h)))) (z_D_s (l1 := [(X0, .inr (3, [.ref (E 0), .ref (E2 0)]))]) hD) (ci := 1) (q0 := 0) rfl rfl rfl rfl hl.1 rfl (lv_room (Nat.le_of_ble_eq_true rfl)) dX3_arrives_31 hS (z_sub_F hD hS hA (fun z h => List.mem_append_right _ ((List.mem_append.mp h).elim (fun h => List.mem_append_right _ h) (fun h => List.mem_append_left _ h)))) ⟨Nat.le_of_ble_eq_true rfl, Nat.le_of_ble_eq_true rfl⟩ rfl rfl rfl (fun H locs hP1 hz hfr hS => ?_)
  obtain ⟨hP, hD⟩ := z_segS (ws1 := sW X0 E E2 y t o q b c bc n ar fi re (copyT (t, o, q, b, c, bc, n, ar, fi, re) T)) (l1 := [(X0, .inr (3, [.ref (E 0), .ref (E2 0)]))]) (a := eW E y t o q b c bc n ar fi re) (b := eW E2 y T.1 T.2.1 T.2.2.1 T.2.2.2.1 T.2.2.2.2.1 T.2.2.2.2.2.1 T.2.2.2.2.2.2.1 T.2.2.2.2.2.2.2.1 T.2.2.2.2.2.2.2.2.1 T.2.2.2.2.2.2.2.2.2) (b1 := eW E2 y ((copyT (t, o, q, b, c, bc, n, ar, fi, re) T).1) ((copyT (t, o, q, b, c, bc, n, ar, fi, re) T).2.1) ((copyT (t, o, q, b, c, bc, n, ar, fi, re) T).2.2.1) ((copyT (t, o, q, b, c, bc, n, ar, fi, re) T).2.2.2.1) ((copyT (t, o, q, b, c, bc, n, ar, fi, re) T).2.2.2.2.1) ((copyT (t, o, q, b, c, bc, n, ar, fi, re) T).2.2.2.2.2.1) ((copyT (t, o, q, b, c, bc, n, ar, fi, re) T).2.2.2.2.2.2.1) ((copyT (t, o, q, b, c, bc, n, ar, fi, re) T).2.2.2.2.2.2.2.1) ((copyT (t, o, q, b, c, bc, n, ar, fi, re) T).2.2.2.2.2.2.2.2.1) ((copyT (t, o, q, b, c, bc, n, ar, fi, re) T).2.2.2.2.2.2.2.2.2)) hP hD rfl rfl rfl hP1 hfr
  have hTc : (copyT (t, o, q, b, c, bc, n, ar, fi, re) T).2.2.2.2.1 = c := rfl
  have hTb : (copyT (t, o, q, b, c, bc, n, ar, fi, re) T).2.2.2.2.2.1 = bc := rfl
  have hTn : (copyT (t, o, q, b, c, bc, n, ar, fi, re) T).2.2.2.2.2.2.1 = n := rfl
  have hoT : ∀ i, i < (copyT (t, o, q, b, c, bc, n, ar, fi, re) T).2.2.2.2.1 → (copyT (t, o, q, b, c, bc, n, ar, fi, re) T).2.1 i < (copyT (t, o, q, b, c, bc, n, ar, fi, re) T).2.2.2.2.1 := hoTof hc ho
  refine lv_iconst (v := 0) hx hb dX3_arrives_34 (by decide) ?_
  refine lv_istore_n (lv' := [(3, .int 0), (2, .ref (E (11 + j))), (0, .ref X0), (1, .int (nI j))]) hx hb dX3_arrives_35 rfl hl (by decide) rfl (fun ls hl => ?_)
  have loop1 : ∀ k, k ≤ 40 → ∀ (H : Heap) (locs : List Loc) (ls : Array Slot), va_P D vwCl (sW X0 E E2 y t o q b c bc n ar fi re (itT k (copyT (t, o, q, b, c, bc, n, ar, fi, re) T))) H → va_D A (sW X0 E E2 y t o q b c bc n ar fi re (itT k (copyT (t, o, q, b, c, bc, n, ar, fi, re) T))) → va_S A s.heap H locs → (∀ i, i < k → (fun i => underE (itT i (copyT (t, o, q, b, c, bc, n, ar, fi, re) T)).2.2.2.1 (itT i (copyT (t, o, q, b, c, bc, n, ar, fi, re) T)).2.2.2.2.2.1 (b 0 j)) i = true) → lv_has ls 4 [(3, .int (nI k)), (2, .ref (E (11 + j))), (0, .ref X0), (1, .int (nI j))] → W p l e ({ frames := 5, cells := 0, slots := 0, locals := 111 } : Room) s m args below meth cd H locs 0 0 (MQ below (zMQ (some (.int (nI (firstF (fun i => underE (itT i (copyT (t, o, q, b, c, bc, n, ar, fi, re) T)).2.2.2.1 (itT i (copyT (t, o, q, b, c, bc, n, ar, fi, re) T)).2.2.2.2.2.1 (b 0 j)) 40)))) D (sW X0 E E2 y t o q b c bc n ar fi re (itT (firstF (fun i => underE (itT i (copyT (t, o, q, b, c, bc, n, ar, fi, re) T)).2.2.2.1 (itT i (copyT (t, o, q, b, c, bc, n, ar, fi, re) T)).2.2.2.2.2.1 (b 0 j)) 40) (copyT (t, o, q, b, c, bc, n, ar, fi, re) T))) A) args s 0 0 A) (F0 m 36 ls []) := by
    refine down ?_ ?_
    · intro H locs ls hP hD hS hall hl
      refine lv_iload_n hx hb dX3_arrives_36 rfl (lv_at hl 0 rfl) ?_
      refine lv_bipush (v := 39) hx hb dX3_arrives_37 (by decide) ?_
      refine lv_icmp_gt (tgt := 70) hx hb dX3_arrives_39 (by decide) (fun c2 => ?_) (fun c2 => ?_)
      · have d2 := Int32.not_le.mpr c2
        refine lv_iload_n hx hb dX3_arrives_70 rfl (lv_at hl 0 rfl) ?_
        exact zM_i hx hb hr hlocks hS dX3_arrives_71 (by rw [show (firstF (fun i => underE (itT i (copyT (t, o, q, b, c, bc, n, ar, fi, re) T)).2.2.2.1 (itT i (copyT (t, o, q, b, c, bc, n, ar, fi, re) T)).2.2.2.2.2.1 (b 0 j)) 40) = _ from (firstF_all hall)]) (by rw [show (firstF (fun i => underE (itT i (copyT (t, o, q, b, c, bc, n, ar, fi, re) T)).2.2.2.1 (itT i (copyT (t, o, q, b, c, bc, n, ar, fi, re) T)).2.2.2.2.2.1 (b 0 j)) 40) = _ from (firstF_all hall)]; exact hP)
      · exact absurd (nI_lt (a := 39) (b := 40) (by decide) (by decide)) c2
    · intro k hkk ihk H locs ls hP hD hS hall hl
      have hi1 := (itT_o k (copyT (t, o, q, b, c, bc, n, ar, fi, re) T)).2.2
      have hi2 := itT_b k (copyT (t, o, q, b, c, bc, n, ar, fi, re) T)
      have hi3 := itT_n k (copyT (t, o, q, b, c, bc, n, ar, fi, re) T)
      have hoT : ∀ i, i < (itT k (copyT (t, o, q, b, c, bc, n, ar, fi, re) T)).2.2.2.2.1 → (itT k (copyT (t, o, q, b, c, bc, n, ar, fi, re) T)).2.1 i < (itT k (copyT (t, o, q, b, c, bc, n, ar, fi, re) T)).2.2.2.2.1 := itT_ho hoT
      refine lv_iload_n hx hb dX3_arrives_36 rfl (lv_at hl 0 rfl) ?_
      refine lv_bipush (v := 39) hx hb dX3_arrives_37 (by decide) ?_
      refine lv_icmp_gt (tgt := 70) hx hb dX3_arrives_39 (by decide) (fun c3 => ?_) (fun c3 => ?_)
      · exact absurd c3 (nI_nlt (a := 39) (b := k) (by omega) (by omega))
      · have d3 := Int32.not_lt.mp c3
        refine lv_aload_n hx hb dX3_arrives_42 rfl (lv_at hl 2 rfl) ?_
        refine va_get (D := D) (ci := 3) (v := .ref (E2 0)) (C := RX3) (T := TX3) (N := 2) hx hb hts hinX3 hown hK hP (0) rfl rfl 1 (by decide) hf16 (fun _ h9 => h9) rfl dX3_arrives_43 ?_
        refine lv_aload_n hx hb dX3_arrives_46 rfl (lv_at hl 1 rfl) ?_
        refine va_get (D := D) (ci := 0) (v := .int ((b 0 j))) (C := RX0) (T := TX0) (N := 4) hx hb hts hinX0 hown hK hP (1 + (11 + j)) (z_apr (n := 1) rfl (z_apl (eW_b (by omega)))) rfl 0 (by decide) hf158 (fun _ h9 => h9) rfl dX3_arrives_47 ?_
        refine zcRV (As := [.int ((b 0 j))]) (rest := []) (st1 := [.int (zb (underE ((itT k (copyT (t, o, q, b, c, bc, n, ar, fi, re) T)).2.2.2.1) ((itT k (copyT (t, o, q, b, c, bc, n, ar, fi, re) T)).2.2.2.2.2.1) (b 0 j)))]) ⟨hx, hb, hml, hown, hts⟩ (c_X1_isUnderWay l D y E2 ((itT k (copyT (t, o, q, b, c, bc, n, ar, fi, re) T)).1) ((itT k (copyT (t, o, q, b, c, bc, n, ar, fi, re) T)).2.1) ((itT k (copyT (t, o, q, b, c, bc, n, ar, fi, re) T)).2.2.1) ((itT k (copyT (t, o, q, b, c, bc, n, ar, fi, re) T)).2.2.2.1) ((itT k (copyT (t, o, q, b, c, bc, n, ar, fi, re) T)).2.2.2.2.1) ((itT k (copyT (t, o, q, b, c, bc, n, ar, fi, re) T)).2.2.2.2.2.1) ((itT k (copyT (t, o, q, b, c, bc, n, ar, fi, re) T)).2.2.2.2.2.2.1) ((itT k (copyT (t, o, q, b, c, bc, n, ar, fi, re) T)).2.2.2.2.2.2.2.1) ((itT k (copyT (t, o, q, b, c, bc, n, ar, fi, re) T)).2.2.2.2.2.2.2.2.1) ((itT k (copyT (t, o, q, b, c, bc, n, ar, fi, re) T)).2.2.2.2.2.2.2.2.2) (b 0 j) (by omega)) (cwV 1 hts gX3_arrives_X1_isUnderWay rfl rfl rfl (by decide +kernel) ⟨Nat.le_of_ble_eq_true rfl, Nat.le_of_ble_eq_true rfl⟩) hK (z_sub_P hP (fun z h => List.mem_append_right _ (List.mem_append_right _ h))) (ci := 1) (q0 := 0) rfl rfl rfl rfl hl.1 rfl (lv_room (Nat.le_of_ble_eq_true rfl)) dX3_arrives_50 ⟨Nat.le_of_ble_eq_true rfl, Nat.le_of_ble_eq_true rfl⟩ rfl ?_
        refine lv_if_eq (tgt := 70) hx hb dX3_arrives_53 (by decide) (fun c4 => ?_) (fun c4 => ?_)
        · have c4 : underE ((itT k (copyT (t, o, q, b, c, bc, n, ar, fi, re) T)).2.2.2.1) ((itT k (copyT (t, o, q, b, c, bc, n, ar, fi, re) T)).2.2.2.2.2.1) (b 0 j) = false := zb_f c4
          refine lv_iload_n hx hb dX3_arrives_70 rfl (lv_at hl 0 rfl) ?_
          exact zM_i hx hb hr hlocks hS dX3_arrives_71 (by rw [show (firstF (fun i => underE (itT i (copyT (t, o, q, b, c, bc, n, ar, fi, re) T)).2.2.2.1 (itT i (copyT (t, o, q, b, c, bc, n, ar, fi, re) T)).2.2.2.2.2.1 (b 0 j)) 40) = _ from (firstF_at hall (by exact c4) hkk)]) (by rw [show (firstF (fun i => underE (itT i (copyT (t, o, q, b, c, bc, n, ar, fi, re) T)).2.2.2.1 (itT i (copyT (t, o, q, b, c, bc, n, ar, fi, re) T)).2.2.2.2.2.1 (b 0 j)) 40) = _ from (firstF_at hall (by exact c4) hkk)]; exact hP)
        · have c4 : underE ((itT k (copyT (t, o, q, b, c, bc, n, ar, fi, re) T)).2.2.2.1) ((itT k (copyT (t, o, q, b, c, bc, n, ar, fi, re) T)).2.2.2.2.2.1) (b 0 j) = true := zb_t c4
          refine lv_aload_n hx hb dX3_arrives_56 rfl (lv_at hl 2 rfl) ?_
          refine va_get (D := D) (ci := 3) (v := .ref (E2 0)) (C := RX3) (T := TX3) (N := 2) hx hb hts hinX3 hown hK hP (0) rfl rfl 1 (by decide) hf16 (fun _ h9 => h9) rfl dX3_arrives_57 ?_
          refine lv_iconst (v := 1) hx hb dX3_arrives_60 (by decide) ?_
          refine zcMV (As := [.int 1]) (rest := []) (st1 := []) (cells1 := 0) (slots1 := 0) ⟨hx, hb, hml, hown, hts⟩ (c_X1_goThroughNights l D y E2 ((itT k (copyT (t, o, q, b, c, bc, n, ar, fi, re) T)).1) ((itT k (copyT (t, o, q, b, c, bc, n, ar, fi, re) T)).2.1) ((itT k (copyT (t, o, q, b, c, bc, n, ar, fi, re) T)).2.2.1) ((itT k (copyT (t, o, q, b, c, bc, n, ar, fi, re) T)).2.2.2.1) ((itT k (copyT (t, o, q, b, c, bc, n, ar, fi, re) T)).2.2.2.2.1) ((itT k (copyT (t, o, q, b, c, bc, n, ar, fi, re) T)).2.2.2.2.2.1) ((itT k (copyT (t, o, q, b, c, bc, n, ar, fi, re) T)).2.2.2.2.2.2.1) ((itT k (copyT (t, o, q, b, c, bc, n, ar, fi, re) T)).2.2.2.2.2.2.2.1) ((itT k (copyT (t, o, q, b, c, bc, n, ar, fi, re) T)).2.2.2.2.2.2.2.2.1) ((itT k (copyT (t, o, q, b, c, bc, n, ar, fi, re) T)).2.2.2.2.2.2.2.2.2) 1 (by omega) (by omega) (by omega) hoT _) (cwV 1 hts gX3_arrives_X1_goThroughNights rfl rfl rfl (by decide +kernel) ⟨Nat.le_of_ble_eq_true rfl, Nat.le_of_ble_eq_true rfl⟩) hK (z_sub_P hP (fun z h => List.mem_append_right _ (List.mem_append_right _ h))) (z_D_e (l1 := [(X0, .inr (3, [.ref (E 0), .ref (E2 0)]))]) (l2 := eW E y t o q b c bc n ar fi re) hD) (ci := 1) (q0 := 0) rfl rfl rfl rfl hl.1 rfl (lv_room (Nat.le_of_ble_eq_true rfl)) dX3_arrives_61 hS (z_sub_F hD hS hA (fun z h => List.mem_append_right _ (List.mem_append_right _ h))) ⟨Nat.le_of_ble_eq_true rfl, Nat.le_of_ble_eq_true rfl⟩ rfl rfl rfl (fun H locs hP1 hz hfr hS => ?_)
          obtain ⟨hP, hD⟩ := z_segE (ws1 := sW X0 E E2 y t o q b c bc n ar fi re (nightsT 1 (itT k (copyT (t, o, q, b, c, bc, n, ar, fi, re) T)))) (l1 := [(X0, .inr (3, [.ref (E 0), .ref (E2 0)]))]) (l2 := eW E y t o q b c bc n ar fi re) (w := eW E2 y ((itT k (copyT (t, o, q, b, c, bc, n, ar, fi, re) T)).1) ((itT k (copyT (t, o, q, b, c, bc, n, ar, fi, re) T)).2.1) ((itT k (copyT (t, o, q, b, c, bc, n, ar, fi, re) T)).2.2.1) ((itT k (copyT (t, o, q, b, c, bc, n, ar, fi, re) T)).2.2.2.1) ((itT k (copyT (t, o, q, b, c, bc, n, ar, fi, re) T)).2.2.2.2.1) ((itT k (copyT (t, o, q, b, c, bc, n, ar, fi, re) T)).2.2.2.2.2.1) ((itT k (copyT (t, o, q, b, c, bc, n, ar, fi, re) T)).2.2.2.2.2.2.1) ((itT k (copyT (t, o, q, b, c, bc, n, ar, fi, re) T)).2.2.2.2.2.2.2.1) ((itT k (copyT (t, o, q, b, c, bc, n, ar, fi, re) T)).2.2.2.2.2.2.2.2.1) ((itT k (copyT (t, o, q, b, c, bc, n, ar, fi, re) T)).2.2.2.2.2.2.2.2.2)) (w1 := eW E2 y ((nightsT 1 (itT k (copyT (t, o, q, b, c, bc, n, ar, fi, re) T))).1) ((nightsT 1 (itT k (copyT (t, o, q, b, c, bc, n, ar, fi, re) T))).2.1) ((nightsT 1 (itT k (copyT (t, o, q, b, c, bc, n, ar, fi, re) T))).2.2.1) ((nightsT 1 (itT k (copyT (t, o, q, b, c, bc, n, ar, fi, re) T))).2.2.2.1) ((nightsT 1 (itT k (copyT (t, o, q, b, c, bc, n, ar, fi, re) T))).2.2.2.2.1) ((nightsT 1 (itT k (copyT (t, o, q, b, c, bc, n, ar, fi, re) T))).2.2.2.2.2.1) ((nightsT 1 (itT k (copyT (t, o, q, b, c, bc, n, ar, fi, re) T))).2.2.2.2.2.2.1) ((nightsT 1 (itT k (copyT (t, o, q, b, c, bc, n, ar, fi, re) T))).2.2.2.2.2.2.2.1) ((nightsT 1 (itT k (copyT (t, o, q, b, c, bc, n, ar, fi, re) T))).2.2.2.2.2.2.2.2.1) ((nightsT 1 (itT k (copyT (t, o, q, b, c, bc, n, ar, fi, re) T))).2.2.2.2.2.2.2.2.2)) hP hD rfl rfl rfl hP1 hfr
          refine lv_iinc (v := nI (k + 1)) (lv' := [(3, .int (nI (k + 1))), (2, .ref (E (11 + j))), (0, .ref X0), (1, .int (nI j))]) hx hb dX3_arrives_64 hl (k := 0) rfl (nI_1 _) (by decide) rfl (fun ls hl => ?_)
          refine lv_goto (tgt := 36) hx hb dX3_arrives_67 (by decide) ?_
          have e5 : (itT (k + 1) (copyT (t, o, q, b, c, bc, n, ar, fi, re) T)) = (nightsT 1 (itT k (copyT (t, o, q, b, c, bc, n, ar, fi, re) T))) := rfl
          refine ihk H locs ls ?_ ?_ hS (fun i hi => by rcases Nat.lt_or_eq_of_le (Nat.lt_succ_iff.mp hi) with h9 | h9; exact hall i h9; subst h9; exact c4) ?_
          · first | exact hP | (simp only [e5]; exact hP)
          · first | exact hD | (simp only [e5]; exact hD)
          · first | exact lv_sub hl [0, 1, 2, 3] rfl | (simp only [e5]; exact lv_sub hl [0, 1, 2, 3] rfl)
  exact loop1 0 (Nat.zero_le _) H locs ls hP hD hS (fun i hi => absurd hi (Nat.not_lt_zero _)) (lv_sub hl [0, 1, 2, 3] rfl)
set_option maxHeartbeats 4000000 in
set_option maxRecDepth 100000 in
theorem c_X3_arrives_T1 (l : Launch) (hl0 : l.stackTraces = false) (D : va_G) (y : Nat → ClassId) (X0 : Nat) (E E2 : Nat → Nat) (t : Nat → Int32) (o : Nat → Nat) (q b : Fld) (c bc n : Nat) (ar fi re : Int32) (T : TS) (x : Int32) (hx0 : x < 0 ∨ nI bc ≤ x) (hbc : bc ≤ 5) : zT l yX3_arrives wsX3_arrives { frames := 6, cells := 1, slots := 6, locals := 90 } D y [.ref X0, .int x] (sW X0 E E2 y t o q b c bc n ar fi re T) "java/lang/IndexOutOfBoundsException" := by
  refine zT.of (cc := cX3_arrives) (maxL := 4) (ret := (some .int)) (own := RX3) (by decide) rfl (Nat.le_of_ble_eq_true rfl) rfl ?_
  intro p e s m args below meth cd ls hx hb hr hml hown hts hlocks hP hK hT0 hout hl
  have hl : lv_has ls 4 [(0, .ref X0), (1, .int x)] := hl
  have hf12 : (Cond.fieldLink RX3 12 "StakeWeirs" "now" "LStakeWeirs$Estuary;").before args s = true := hts _ (by decide +kernel)
  have hinX3 : ∀ w ∈ wsX30, w ∈ wsX3_arrives := by decide +kernel
  have hkl47 : (Cond.classLink RX3 47 "java/lang/IndexOutOfBoundsException").before args s = true := hts _ (by decide +kernel)
  have hini47 : (Cond.initialized "java/lang/IndexOutOfBoundsException").before args s = true := hts _ (by decide +kernel)
  refine lv_aload_n hx hb dX3_arrives_0 rfl (lv_at hl 0 rfl) ?_
  refine va_get (D := D) (ci := 3) (v := .ref (E 0)) (C := RX3) (T := TX3) (N := 2) hx hb hts hinX3 hown hK hP (0) rfl rfl 0 (by decide) hf12 (fun _ h9 => h9) rfl dX3_arrives_1 ?_
  refine lv_iload_n hx hb dX3_arrives_4 rfl (lv_at hl 1 rfl) ?_
  refine zcRV (As := [.int x]) (rest := []) (st1 := [.null]) ⟨hx, hb, hml, hown, hts⟩ (c_X1_bargeAt_no l D y E t o q b c bc n ar fi re x hx0 (by omega)) (cwV 1 hts gX3_arrives_X1_bargeAt rfl rfl rfl (by decide +kernel) ⟨Nat.le_of_ble_eq_true rfl, Nat.le_of_ble_eq_true rfl⟩) hK (z_sub_P hP (fun z h => List.mem_append_right _ (List.mem_append_left _ h))) (ci := 1) (q0 := 0) rfl rfl rfl rfl hl.1 rfl (lv_room (Nat.le_of_ble_eq_true rfl)) dX3_arrives_5 ⟨Nat.le_of_ble_eq_true rfl, Nat.le_of_ble_eq_true rfl⟩ rfl ?_
  refine lv_astore_nN (lv' := [(2, .null), (0, .ref X0), (1, .int x)]) hx hb dX3_arrives_8 rfl hl (by decide) rfl (fun ls hl => ?_)
  refine lv_aload_nN hx hb dX3_arrives_9 rfl (lv_at hl 0 rfl) ?_
  refine lv_ifnonnullN hx hb dX3_arrives_10 ?_
  exact z_thr (cls := "java/lang/IndexOutOfBoundsException") (text := "no such barge") (ik := 47) (is := 156) (ic := 51) hx hb hl0 hown (by decide +kernel) hkl47 hini47 hts (fun x h => List.mem_cons_of_mem _ (List.mem_append_right _ h)) zbad_51 (zgoodO_51 47) hT0 (by decide) hl.1 hml dX3_arrives_13 dX3_arrives_16 dX3_arrives_17 dX3_arrives_19 dX3_arrives_22 hout (Nat.le_of_ble_eq_true rfl) (Nat.le_of_ble_eq_true rfl) (Nat.le_of_ble_eq_true rfl) (Nat.le_of_ble_eq_true rfl) hlocks
set_option maxHeartbeats 4000000 in
set_option maxRecDepth 100000 in
theorem c_X3_lasts (l : Launch) (D : va_G) (y : Nat → ClassId) (X0 : Nat) (E E2 : Nat → Nat) (t : Nat → Int32) (o : Nat → Nat) (q b : Fld) (c bc n : Nat) (ar fi re : Int32) (T : TS) (k0 : Nat) (hk : k0 < c) (hn : n + 100 < 2147483648) (hc : c ≤ 6) (hbc : bc ≤ 5) (ho : ∀ i, i < c → o i < c) (h01 : ∀ i, i < c → q 6 i = 0 ∨ q 6 i = 1)  (sz : Nat) : zM l yX3_lasts wsX3_lasts { frames := 5, cells := 0, slots := 0, locals := 111 } D y [.ref X0, .int (nI k0)] (sW X0 E E2 y t o q b c bc n ar fi re T) sz (some (.int (nI (firstF (fun i => heldB (itT i (copyT (t, o, q, b, c, bc, n, ar, fi, re) T)).2.2.1 k0 && decide (0 < (itT i (copyT (t, o, q, b, c, bc, n, ar, fi, re) T)).2.2.1 2 k0)) 100)))) (sW X0 E E2 y t o q b c bc n ar fi re (itT (firstF (fun i => heldB (itT i (copyT (t, o, q, b, c, bc, n, ar, fi, re) T)).2.2.1 k0 && decide (0 < (itT i (copyT (t, o, q, b, c, bc, n, ar, fi, re) T)).2.2.1 2 k0)) 100) (copyT (t, o, q, b, c, bc, n, ar, fi, re) T))) 0 0 := by
  refine zM.ofH (cc := cX3_lasts) (maxL := 4) (ret := (some .int)) (own := RX3) (by decide) rfl (Nat.le_of_ble_eq_true rfl) rfl ?_
  intro p e s m args below meth cd ls A H locs hx hb hr hml hown hts hlocks hP hK hD hA hS hl hin
  have hS0 := hS
  have hl : lv_has ls 4 [(0, .ref X0), (1, .int (nI k0))] := hl
  have hf12 : (Cond.fieldLink RX3 12 "StakeWeirs" "now" "LStakeWeirs$Estuary;").before args s = true := hts _ (by decide +kernel)
  have hinX3 : ∀ w ∈ wsX30, w ∈ wsX3_lasts := by decide +kernel
  have hf16 : (Cond.fieldLink RX3 16 "StakeWeirs" "trial" "LStakeWeirs$Estuary;").before args s = true := hts _ (by decide +kernel)
  have hf66 : (Cond.fieldLink RX3 66 "StakeWeirs$Weir" "wattle" "I").before args s = true := hts _ (by decide +kernel)
  have hinX2 : ∀ w ∈ wsX20, w ∈ wsX3_lasts := by decide +kernel
  refine lv_aload_n hx hb dX3_lasts_0 rfl (lv_at hl 0 rfl) ?_
  refine va_get (D := D) (ci := 3) (v := .ref (E 0)) (C := RX3) (T := TX3) (N := 2) hx hb hts hinX3 hown hK hP (0) rfl rfl 0 (by decide) hf12 (fun _ h9 => h9) rfl dX3_lasts_1 ?_
  refine lv_iload_n hx hb dX3_lasts_4 rfl (lv_at hl 1 rfl) ?_
  refine zcRV (As := [.int (nI k0)]) (rest := []) (st1 := [.ref (E (5 + k0))]) ⟨hx, hb, hml, hown, hts⟩ (c_X1_weirAt l D y E t o q b c bc n ar fi re k0 (by omega) (by omega)) (cwV 1 hts gX3_lasts_X1_weirAt rfl rfl rfl (by decide +kernel) ⟨Nat.le_of_ble_eq_true rfl, Nat.le_of_ble_eq_true rfl⟩) hK (z_sub_P hP (fun z h => List.mem_append_right _ (List.mem_append_left _ h))) (ci := 1) (q0 := 0) rfl rfl rfl rfl hl.1 rfl (lv_room (Nat.le_of_ble_eq_true rfl)) dX3_lasts_5 ⟨Nat.le_of_ble_eq_true rfl, Nat.le_of_ble_eq_true rfl⟩ rfl ?_
  refine lv_ifnonnull (tgt := 21) hx hb dX3_lasts_8 (by decide) ?_
  refine lv_aload_n hx hb dX3_lasts_21 rfl (lv_at hl 0 rfl) ?_
  refine va_get (D := D) (ci := 3) (v := .ref (E2 0)) (C := RX3) (T := TX3) (N := 2) hx hb hts hinX3 hown hK hP (0) rfl rfl 1 (by decide) hf16 (fun _ h9 => h9) rfl dX3_lasts_22 ?_
  refine lv_aload_n hx hb dX3_lasts_25 rfl (lv_at hl 0 rfl) ?_
  refine va_get (D := D) (ci := 3) (v := .ref (E 0)) (C := RX3) (T := TX3) (N := 2) hx hb hts hinX3 hown hK hP (0) rfl rfl 0 (by decide) hf12 (fun _ h9 => h9) rfl dX3_lasts_26 ?_
  refine zcMV (As := [.ref (E 0)]) (rest := []) (st1 := []) (cells1 := 0) (slots1 := 0) ⟨hx, hb, hml, hown, hts⟩ (c_X1_copyFrom l D y E2 T.1 T.2.1 T.2.2.1 T.2.2.2.1 T.2.2.2.2.1 T.2.2.2.2.2.1 T.2.2.2.2.2.2.1 T.2.2.2.2.2.2.2.1 T.2.2.2.2.2.2.2.2.1 T.2.2.2.2.2.2.2.2.2 E t o q b c bc n ar fi re (by omega) (by omega) h01 _) (cwV 1 hts gX3_lasts_X1_copyFrom rfl rfl rfl (by decide +kernel) ⟨Nat.le_of_ble_eq_true rfl, Nat.le_of_ble_eq_true rfl⟩) hK (z_sub_P hP (fun z h => List.mem_append_right _ ((List.mem_append.mp h).elim (fun h => List.mem_append_right _ h) (fun h => List.mem_append_left _ h)))) (z_D_s (l1 := [(X0, .inr (3, [.ref (E 0), .ref (E2 0)]))]) hD) (ci := 1) (q0 := 0) rfl rfl rfl rfl hl.1 rfl (lv_room (Nat.le_of_ble_eq_true rfl)) dX3_lasts_29 hS (z_sub_F hD hS hA (fun z h => List.mem_append_right _ ((List.mem_append.mp h).elim (fun h => List.mem_append_right _ h) (fun h => List.mem_append_left _ h)))) ⟨Nat.le_of_ble_eq_true rfl, Nat.le_of_ble_eq_true rfl⟩ rfl rfl rfl (fun H locs hP1 hz hfr hS => ?_)
  obtain ⟨hP, hD⟩ := z_segS (ws1 := sW X0 E E2 y t o q b c bc n ar fi re (copyT (t, o, q, b, c, bc, n, ar, fi, re) T)) (l1 := [(X0, .inr (3, [.ref (E 0), .ref (E2 0)]))]) (a := eW E y t o q b c bc n ar fi re) (b := eW E2 y T.1 T.2.1 T.2.2.1 T.2.2.2.1 T.2.2.2.2.1 T.2.2.2.2.2.1 T.2.2.2.2.2.2.1 T.2.2.2.2.2.2.2.1 T.2.2.2.2.2.2.2.2.1 T.2.2.2.2.2.2.2.2.2) (b1 := eW E2 y ((copyT (t, o, q, b, c, bc, n, ar, fi, re) T).1) ((copyT (t, o, q, b, c, bc, n, ar, fi, re) T).2.1) ((copyT (t, o, q, b, c, bc, n, ar, fi, re) T).2.2.1) ((copyT (t, o, q, b, c, bc, n, ar, fi, re) T).2.2.2.1) ((copyT (t, o, q, b, c, bc, n, ar, fi, re) T).2.2.2.2.1) ((copyT (t, o, q, b, c, bc, n, ar, fi, re) T).2.2.2.2.2.1) ((copyT (t, o, q, b, c, bc, n, ar, fi, re) T).2.2.2.2.2.2.1) ((copyT (t, o, q, b, c, bc, n, ar, fi, re) T).2.2.2.2.2.2.2.1) ((copyT (t, o, q, b, c, bc, n, ar, fi, re) T).2.2.2.2.2.2.2.2.1) ((copyT (t, o, q, b, c, bc, n, ar, fi, re) T).2.2.2.2.2.2.2.2.2)) hP hD rfl rfl rfl hP1 hfr
  have hTc : (copyT (t, o, q, b, c, bc, n, ar, fi, re) T).2.2.2.2.1 = c := rfl
  have hTb : (copyT (t, o, q, b, c, bc, n, ar, fi, re) T).2.2.2.2.2.1 = bc := rfl
  have hTn : (copyT (t, o, q, b, c, bc, n, ar, fi, re) T).2.2.2.2.2.2.1 = n := rfl
  have hoT : ∀ i, i < (copyT (t, o, q, b, c, bc, n, ar, fi, re) T).2.2.2.2.1 → (copyT (t, o, q, b, c, bc, n, ar, fi, re) T).2.1 i < (copyT (t, o, q, b, c, bc, n, ar, fi, re) T).2.2.2.2.1 := hoTof hc ho
  refine lv_aload_n hx hb dX3_lasts_32 rfl (lv_at hl 0 rfl) ?_
  refine va_get (D := D) (ci := 3) (v := .ref (E2 0)) (C := RX3) (T := TX3) (N := 2) hx hb hts hinX3 hown hK hP (0) rfl rfl 1 (by decide) hf16 (fun _ h9 => h9) rfl dX3_lasts_33 ?_
  refine lv_iload_n hx hb dX3_lasts_36 rfl (lv_at hl 1 rfl) ?_
  refine zcRV (As := [.int (nI k0)]) (rest := []) (st1 := [.ref (E2 (5 + k0))]) ⟨hx, hb, hml, hown, hts⟩ (c_X1_weirAt l D y E2 ((copyT (t, o, q, b, c, bc, n, ar, fi, re) T).1) ((copyT (t, o, q, b, c, bc, n, ar, fi, re) T).2.1) ((copyT (t, o, q, b, c, bc, n, ar, fi, re) T).2.2.1) ((copyT (t, o, q, b, c, bc, n, ar, fi, re) T).2.2.2.1) ((copyT (t, o, q, b, c, bc, n, ar, fi, re) T).2.2.2.2.1) ((copyT (t, o, q, b, c, bc, n, ar, fi, re) T).2.2.2.2.2.1) ((copyT (t, o, q, b, c, bc, n, ar, fi, re) T).2.2.2.2.2.2.1) ((copyT (t, o, q, b, c, bc, n, ar, fi, re) T).2.2.2.2.2.2.2.1) ((copyT (t, o, q, b, c, bc, n, ar, fi, re) T).2.2.2.2.2.2.2.2.1) ((copyT (t, o, q, b, c, bc, n, ar, fi, re) T).2.2.2.2.2.2.2.2.2) k0 (by omega) (by omega)) (cwV 1 hts gX3_lasts_X1_weirAt rfl rfl rfl (by decide +kernel) ⟨Nat.le_of_ble_eq_true rfl, Nat.le_of_ble_eq_true rfl⟩) hK (z_sub_P hP (fun z h => List.mem_append_right _ (List.mem_append_right _ h))) (ci := 1) (q0 := 0) rfl rfl rfl rfl hl.1 rfl (lv_room (Nat.le_of_ble_eq_true rfl)) dX3_lasts_37 ⟨Nat.le_of_ble_eq_true rfl, Nat.le_of_ble_eq_true rfl⟩ rfl ?_
  refine lv_astore_n (lv' := [(2, .ref (E2 (5 + k0))), (0, .ref X0), (1, .int (nI k0))]) hx hb dX3_lasts_40 rfl hl (by decide) rfl (fun ls hl => ?_)
  refine lv_iconst (v := 0) hx hb dX3_lasts_41 (by decide) ?_
  refine lv_istore_n (lv' := [(3, .int 0), (2, .ref (E2 (5 + k0))), (0, .ref X0), (1, .int (nI k0))]) hx hb dX3_lasts_42 rfl hl (by decide) rfl (fun ls hl => ?_)
  have loop1 : ∀ k, k ≤ 100 → ∀ (H : Heap) (locs : List Loc) (ls : Array Slot), va_P D vwCl (sW X0 E E2 y t o q b c bc n ar fi re (itT k (copyT (t, o, q, b, c, bc, n, ar, fi, re) T))) H → va_D A (sW X0 E E2 y t o q b c bc n ar fi re (itT k (copyT (t, o, q, b, c, bc, n, ar, fi, re) T))) → va_S A s.heap H locs → (∀ i, i < k → (fun i => heldB (itT i (copyT (t, o, q, b, c, bc, n, ar, fi, re) T)).2.2.1 k0 && decide (0 < (itT i (copyT (t, o, q, b, c, bc, n, ar, fi, re) T)).2.2.1 2 k0)) i = true) → lv_has ls 4 [(3, .int (nI k)), (2, .ref (E2 (5 + k0))), (0, .ref X0), (1, .int (nI k0))] → W p l e ({ frames := 5, cells := 0, slots := 0, locals := 111 } : Room) s m args below meth cd H locs 0 0 (MQ below (zMQ (some (.int (nI (firstF (fun i => heldB (itT i (copyT (t, o, q, b, c, bc, n, ar, fi, re) T)).2.2.1 k0 && decide (0 < (itT i (copyT (t, o, q, b, c, bc, n, ar, fi, re) T)).2.2.1 2 k0)) 100)))) D (sW X0 E E2 y t o q b c bc n ar fi re (itT (firstF (fun i => heldB (itT i (copyT (t, o, q, b, c, bc, n, ar, fi, re) T)).2.2.1 k0 && decide (0 < (itT i (copyT (t, o, q, b, c, bc, n, ar, fi, re) T)).2.2.1 2 k0)) 100) (copyT (t, o, q, b, c, bc, n, ar, fi, re) T))) A) args s 0 0 A) (F0 m 43 ls []) := by
    refine down ?_ ?_
    · intro H locs ls hP hD hS hall hl
      refine lv_iload_n hx hb dX3_lasts_43 rfl (lv_at hl 0 rfl) ?_
      refine lv_bipush (v := 100) hx hb dX3_lasts_44 (by decide) ?_
      refine lv_icmp_ge (tgt := 81) hx hb dX3_lasts_46 (by decide) (fun c2 => ?_) (fun c2 => ?_)
      · have d2 := Int32.not_lt.mpr c2
        refine lv_iload_n hx hb dX3_lasts_81 rfl (lv_at hl 0 rfl) ?_
        exact zM_i hx hb hr hlocks hS dX3_lasts_82 (by rw [show (firstF (fun i => heldB (itT i (copyT (t, o, q, b, c, bc, n, ar, fi, re) T)).2.2.1 k0 && decide (0 < (itT i (copyT (t, o, q, b, c, bc, n, ar, fi, re) T)).2.2.1 2 k0)) 100) = _ from (firstF_all hall)]) (by rw [show (firstF (fun i => heldB (itT i (copyT (t, o, q, b, c, bc, n, ar, fi, re) T)).2.2.1 k0 && decide (0 < (itT i (copyT (t, o, q, b, c, bc, n, ar, fi, re) T)).2.2.1 2 k0)) 100) = _ from (firstF_all hall)]; exact hP)
      · exact absurd (nI_le (a := 100) (b := 100) (by decide) (by decide)) c2
    · intro k hkk ihk H locs ls hP hD hS hall hl
      have hi1 := (itT_o k (copyT (t, o, q, b, c, bc, n, ar, fi, re) T)).2.2
      have hi2 := itT_b k (copyT (t, o, q, b, c, bc, n, ar, fi, re) T)
      have hi3 := itT_n k (copyT (t, o, q, b, c, bc, n, ar, fi, re) T)
      have hoT : ∀ i, i < (itT k (copyT (t, o, q, b, c, bc, n, ar, fi, re) T)).2.2.2.2.1 → (itT k (copyT (t, o, q, b, c, bc, n, ar, fi, re) T)).2.1 i < (itT k (copyT (t, o, q, b, c, bc, n, ar, fi, re) T)).2.2.2.2.1 := itT_ho hoT
      refine lv_iload_n hx hb dX3_lasts_43 rfl (lv_at hl 0 rfl) ?_
      refine lv_bipush (v := 100) hx hb dX3_lasts_44 (by decide) ?_
      refine lv_icmp_ge (tgt := 81) hx hb dX3_lasts_46 (by decide) (fun c3 => ?_) (fun c3 => ?_)
      · exact absurd c3 (nI_ge (a := k) (b := 100) (by omega) (by omega))
      · have d3 := Int32.not_le.mp c3
        refine lv_aload_n hx hb dX3_lasts_49 rfl (lv_at hl 1 rfl) ?_
        refine lv_ifnull hx hb dX3_lasts_50 ?_
        refine lv_aload_n hx hb dX3_lasts_53 rfl (lv_at hl 1 rfl) ?_
        refine zcRV (As := []) (rest := []) (st1 := [.int (zb (heldB ((itT k (copyT (t, o, q, b, c, bc, n, ar, fi, re) T)).2.2.1) k0))]) ⟨hx, hb, hml, hown, hts⟩ (c_X2_isHeld l D y (E2 (5 + k0)) ((itT k (copyT (t, o, q, b, c, bc, n, ar, fi, re) T)).2.2.1) k0) (cwV 0 hts gX3_lasts_X2_isHeld rfl rfl rfl (by decide +kernel) ⟨Nat.le_of_ble_eq_true rfl, Nat.le_of_ble_eq_true rfl⟩) hK (z_sub_P hP (z_in_1 (k := 1 + (16 + (5 + k0))) (z_apr (n := 1) rfl (z_apr (n := 16) rfl (eW_w (by omega)))))) (ci := 2) (q0 := 0) rfl rfl rfl rfl hl.1 rfl (lv_room (Nat.le_of_ble_eq_true rfl)) dX3_lasts_54 ⟨Nat.le_of_ble_eq_true rfl, Nat.le_of_ble_eq_true rfl⟩ rfl ?_
        refine lv_if_eq (tgt := 81) hx hb dX3_lasts_57 (by decide) (fun c4 => ?_) (fun c4 => ?_)
        · have c4 : heldB ((itT k (copyT (t, o, q, b, c, bc, n, ar, fi, re) T)).2.2.1) k0 = false := zb_f c4
          refine lv_iload_n hx hb dX3_lasts_81 rfl (lv_at hl 0 rfl) ?_
          exact zM_i hx hb hr hlocks hS dX3_lasts_82 (by rw [show (firstF (fun i => heldB (itT i (copyT (t, o, q, b, c, bc, n, ar, fi, re) T)).2.2.1 k0 && decide (0 < (itT i (copyT (t, o, q, b, c, bc, n, ar, fi, re) T)).2.2.1 2 k0)) 100) = _ from (firstF_at hall (by simp [c4]) hkk)]) (by rw [show (firstF (fun i => heldB (itT i (copyT (t, o, q, b, c, bc, n, ar, fi, re) T)).2.2.1 k0 && decide (0 < (itT i (copyT (t, o, q, b, c, bc, n, ar, fi, re) T)).2.2.1 2 k0)) 100) = _ from (firstF_at hall (by simp [c4]) hkk)]; exact hP)
        · have c4 : heldB ((itT k (copyT (t, o, q, b, c, bc, n, ar, fi, re) T)).2.2.1) k0 = true := zb_t c4
          refine lv_aload_n hx hb dX3_lasts_60 rfl (lv_at hl 1 rfl) ?_
          refine va_get (D := D) (ci := 2) (v := .int ((((itT k (copyT (t, o, q, b, c, bc, n, ar, fi, re) T)).2.2.1) 2 k0))) (C := RX2) (T := TX2) (N := 8) hx hb hts hinX2 hown hK hP (1 + (16 + (5 + k0))) (z_apr (n := 1) rfl (z_apr (n := 16) rfl (eW_w (by omega)))) rfl 2 (by decide) hf66 (fun _ h9 => h9) rfl dX3_lasts_61 ?_
          refine lv_if_le (tgt := 81) hx hb dX3_lasts_64 (by decide) (fun c5 => ?_) (fun c5 => ?_)
          · have d5 := Int32.not_lt.mpr c5
            refine lv_iload_n hx hb dX3_lasts_81 rfl (lv_at hl 0 rfl) ?_
            exact zM_i hx hb hr hlocks hS dX3_lasts_82 (by rw [show (firstF (fun i => heldB (itT i (copyT (t, o, q, b, c, bc, n, ar, fi, re) T)).2.2.1 k0 && decide (0 < (itT i (copyT (t, o, q, b, c, bc, n, ar, fi, re) T)).2.2.1 2 k0)) 100) = _ from (firstF_at hall (by simp [c4, c5, d5]) hkk)]) (by rw [show (firstF (fun i => heldB (itT i (copyT (t, o, q, b, c, bc, n, ar, fi, re) T)).2.2.1 k0 && decide (0 < (itT i (copyT (t, o, q, b, c, bc, n, ar, fi, re) T)).2.2.1 2 k0)) 100) = _ from (firstF_at hall (by simp [c4, c5, d5]) hkk)]; exact hP)
          · have d5 := Int32.not_le.mp c5
            refine lv_aload_n hx hb dX3_lasts_67 rfl (lv_at hl 2 rfl) ?_
            refine va_get (D := D) (ci := 3) (v := .ref (E2 0)) (C := RX3) (T := TX3) (N := 2) hx hb hts hinX3 hown hK hP (0) rfl rfl 1 (by decide) hf16 (fun _ h9 => h9) rfl dX3_lasts_68 ?_
            refine lv_iconst (v := 1) hx hb dX3_lasts_71 (by decide) ?_
            refine zcMV (As := [.int 1]) (rest := []) (st1 := []) (cells1 := 0) (slots1 := 0) ⟨hx, hb, hml, hown, hts⟩ (c_X1_goThroughNights l D y E2 ((itT k (copyT (t, o, q, b, c, bc, n, ar, fi, re) T)).1) ((itT k (copyT (t, o, q, b, c, bc, n, ar, fi, re) T)).2.1) ((itT k (copyT (t, o, q, b, c, bc, n, ar, fi, re) T)).2.2.1) ((itT k (copyT (t, o, q, b, c, bc, n, ar, fi, re) T)).2.2.2.1) ((itT k (copyT (t, o, q, b, c, bc, n, ar, fi, re) T)).2.2.2.2.1) ((itT k (copyT (t, o, q, b, c, bc, n, ar, fi, re) T)).2.2.2.2.2.1) ((itT k (copyT (t, o, q, b, c, bc, n, ar, fi, re) T)).2.2.2.2.2.2.1) ((itT k (copyT (t, o, q, b, c, bc, n, ar, fi, re) T)).2.2.2.2.2.2.2.1) ((itT k (copyT (t, o, q, b, c, bc, n, ar, fi, re) T)).2.2.2.2.2.2.2.2.1) ((itT k (copyT (t, o, q, b, c, bc, n, ar, fi, re) T)).2.2.2.2.2.2.2.2.2) 1 (by omega) (by omega) (by omega) hoT _) (cwV 1 hts gX3_lasts_X1_goThroughNights rfl rfl rfl (by decide +kernel) ⟨Nat.le_of_ble_eq_true rfl, Nat.le_of_ble_eq_true rfl⟩) hK (z_sub_P hP (fun z h => List.mem_append_right _ (List.mem_append_right _ h))) (z_D_e (l1 := [(X0, .inr (3, [.ref (E 0), .ref (E2 0)]))]) (l2 := eW E y t o q b c bc n ar fi re) hD) (ci := 1) (q0 := 0) rfl rfl rfl rfl hl.1 rfl (lv_room (Nat.le_of_ble_eq_true rfl)) dX3_lasts_72 hS (z_sub_F hD hS hA (fun z h => List.mem_append_right _ (List.mem_append_right _ h))) ⟨Nat.le_of_ble_eq_true rfl, Nat.le_of_ble_eq_true rfl⟩ rfl rfl rfl (fun H locs hP1 hz hfr hS => ?_)
            obtain ⟨hP, hD⟩ := z_segE (ws1 := sW X0 E E2 y t o q b c bc n ar fi re (nightsT 1 (itT k (copyT (t, o, q, b, c, bc, n, ar, fi, re) T)))) (l1 := [(X0, .inr (3, [.ref (E 0), .ref (E2 0)]))]) (l2 := eW E y t o q b c bc n ar fi re) (w := eW E2 y ((itT k (copyT (t, o, q, b, c, bc, n, ar, fi, re) T)).1) ((itT k (copyT (t, o, q, b, c, bc, n, ar, fi, re) T)).2.1) ((itT k (copyT (t, o, q, b, c, bc, n, ar, fi, re) T)).2.2.1) ((itT k (copyT (t, o, q, b, c, bc, n, ar, fi, re) T)).2.2.2.1) ((itT k (copyT (t, o, q, b, c, bc, n, ar, fi, re) T)).2.2.2.2.1) ((itT k (copyT (t, o, q, b, c, bc, n, ar, fi, re) T)).2.2.2.2.2.1) ((itT k (copyT (t, o, q, b, c, bc, n, ar, fi, re) T)).2.2.2.2.2.2.1) ((itT k (copyT (t, o, q, b, c, bc, n, ar, fi, re) T)).2.2.2.2.2.2.2.1) ((itT k (copyT (t, o, q, b, c, bc, n, ar, fi, re) T)).2.2.2.2.2.2.2.2.1) ((itT k (copyT (t, o, q, b, c, bc, n, ar, fi, re) T)).2.2.2.2.2.2.2.2.2)) (w1 := eW E2 y ((nightsT 1 (itT k (copyT (t, o, q, b, c, bc, n, ar, fi, re) T))).1) ((nightsT 1 (itT k (copyT (t, o, q, b, c, bc, n, ar, fi, re) T))).2.1) ((nightsT 1 (itT k (copyT (t, o, q, b, c, bc, n, ar, fi, re) T))).2.2.1) ((nightsT 1 (itT k (copyT (t, o, q, b, c, bc, n, ar, fi, re) T))).2.2.2.1) ((nightsT 1 (itT k (copyT (t, o, q, b, c, bc, n, ar, fi, re) T))).2.2.2.2.1) ((nightsT 1 (itT k (copyT (t, o, q, b, c, bc, n, ar, fi, re) T))).2.2.2.2.2.1) ((nightsT 1 (itT k (copyT (t, o, q, b, c, bc, n, ar, fi, re) T))).2.2.2.2.2.2.1) ((nightsT 1 (itT k (copyT (t, o, q, b, c, bc, n, ar, fi, re) T))).2.2.2.2.2.2.2.1) ((nightsT 1 (itT k (copyT (t, o, q, b, c, bc, n, ar, fi, re) T))).2.2.2.2.2.2.2.2.1) ((nightsT 1 (itT k (copyT (t, o, q, b, c, bc, n, ar, fi, re) T))).2.2.2.2.2.2.2.2.2)) hP hD rfl rfl rfl hP1 hfr
            refine lv_iinc (v := nI (k + 1)) (lv' := [(3, .int (nI (k + 1))), (2, .ref (E2 (5 + k0))), (0, .ref X0), (1, .int (nI k0))]) hx hb dX3_lasts_75 hl (k := 0) rfl (nI_1 _) (by decide) rfl (fun ls hl => ?_)
            refine lv_goto (tgt := 43) hx hb dX3_lasts_78 (by decide) ?_
            have e6 : (itT (k + 1) (copyT (t, o, q, b, c, bc, n, ar, fi, re) T)) = (nightsT 1 (itT k (copyT (t, o, q, b, c, bc, n, ar, fi, re) T))) := rfl
            refine ihk H locs ls ?_ ?_ hS (fun i hi => by rcases Nat.lt_or_eq_of_le (Nat.lt_succ_iff.mp hi) with h9 | h9; exact hall i h9; subst h9; simp [c4, c5, d5]) ?_
            · first | exact hP | (simp only [e6]; exact hP)
            · first | exact hD | (simp only [e6]; exact hD)
            · first | exact lv_sub hl [0, 1, 2, 3] rfl | (simp only [e6]; exact lv_sub hl [0, 1, 2, 3] rfl)
  exact loop1 0 (Nat.zero_le _) H locs ls hP hD hS (fun i hi => absurd hi (Nat.not_lt_zero _)) (lv_sub hl [0, 1, 2, 3] rfl)
set_option maxHeartbeats 4000000 in
set_option maxRecDepth 100000 in
theorem c_X3_lasts_T1 (l : Launch) (hl0 : l.stackTraces = false) (D : va_G) (y : Nat → ClassId) (X0 : Nat) (E E2 : Nat → Nat) (t : Nat → Int32) (o : Nat → Nat) (q b : Fld) (c bc n : Nat) (ar fi re : Int32) (T : TS) (x : Int32) (hx0 : x < 0 ∨ nI c ≤ x) (hc : c ≤ 6) : zT l yX3_lasts wsX3_lasts { frames := 6, cells := 1, slots := 6, locals := 90 } D y [.ref X0, .int x] (sW X0 E E2 y t o q b c bc n ar fi re T) "java/lang/IndexOutOfBoundsException" := by
  refine zT.of (cc := cX3_lasts) (maxL := 4) (ret := (some .int)) (own := RX3) (by decide) rfl (Nat.le_of_ble_eq_true rfl) rfl ?_
  intro p e s m args below meth cd ls hx hb hr hml hown hts hlocks hP hK hT0 hout hl
  have hl : lv_has ls 4 [(0, .ref X0), (1, .int x)] := hl
  have hf12 : (Cond.fieldLink RX3 12 "StakeWeirs" "now" "LStakeWeirs$Estuary;").before args s = true := hts _ (by decide +kernel)
  have hinX3 : ∀ w ∈ wsX30, w ∈ wsX3_lasts := by decide +kernel
  have hkl47 : (Cond.classLink RX3 47 "java/lang/IndexOutOfBoundsException").before args s = true := hts _ (by decide +kernel)
  have hini47 : (Cond.initialized "java/lang/IndexOutOfBoundsException").before args s = true := hts _ (by decide +kernel)
  refine lv_aload_n hx hb dX3_lasts_0 rfl (lv_at hl 0 rfl) ?_
  refine va_get (D := D) (ci := 3) (v := .ref (E 0)) (C := RX3) (T := TX3) (N := 2) hx hb hts hinX3 hown hK hP (0) rfl rfl 0 (by decide) hf12 (fun _ h9 => h9) rfl dX3_lasts_1 ?_
  refine lv_iload_n hx hb dX3_lasts_4 rfl (lv_at hl 1 rfl) ?_
  refine zcRV (As := [.int x]) (rest := []) (st1 := [.null]) ⟨hx, hb, hml, hown, hts⟩ (c_X1_weirAt_no l D y E t o q b c bc n ar fi re x hx0 (by omega)) (cwV 1 hts gX3_lasts_X1_weirAt rfl rfl rfl (by decide +kernel) ⟨Nat.le_of_ble_eq_true rfl, Nat.le_of_ble_eq_true rfl⟩) hK (z_sub_P hP (fun z h => List.mem_append_right _ (List.mem_append_left _ h))) (ci := 1) (q0 := 0) rfl rfl rfl rfl hl.1 rfl (lv_room (Nat.le_of_ble_eq_true rfl)) dX3_lasts_5 ⟨Nat.le_of_ble_eq_true rfl, Nat.le_of_ble_eq_true rfl⟩ rfl ?_
  refine lv_ifnonnullN hx hb dX3_lasts_8 ?_
  exact z_thr (cls := "java/lang/IndexOutOfBoundsException") (text := "no such weir") (ik := 47) (is := 49) (ic := 51) hx hb hl0 hown (by decide +kernel) hkl47 hini47 hts (fun x h => List.mem_cons_of_mem _ (List.mem_append_right _ h)) zbad_51 (zgoodO_51 47) hT0 (by decide) hl.1 hml dX3_lasts_11 dX3_lasts_14 dX3_lasts_15 dX3_lasts_17 dX3_lasts_20 hout (Nat.le_of_ble_eq_true rfl) (Nat.le_of_ble_eq_true rfl) (Nat.le_of_ble_eq_true rfl) (Nat.le_of_ble_eq_true rfl) hlocks
